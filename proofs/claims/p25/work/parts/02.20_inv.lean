/-! 20.inv -/
section
/-- a memory that differs from another in one place, in one row -/
def Wr (M : Mem) (x j v : Int) (M' : Mem) : Prop := rd M' x j = v ∧ ∀ y i : Int, ¬ (y = x ∧ i = j) → rd M' y i = rd M y i
def Wa (M : Mem) (x : Int) (M' : Mem) : Prop := ∀ y i : Int, y ≠ x → rd M' y i = rd M y i
theorem Wr.mk (M : Mem) (x j v : Int) : Wr M x j v (wr M x j v) := ⟨rd_ws _ _ _ _, fun _ _ c => rd_wn M c⟩
theorem Wr.b {M M' : Mem} {x j v y i : Int} (h : Wr M x j v M') (hb : (decide (y = x) && decide (i = j)) = false) : rd M' y i = rd M y i := h.2 _ _ fun c => by
  rw [decide_eq_true c.1, decide_eq_true c.2] at hb
  cases hb
theorem Wr.n {M M' : Mem} {x j v y i : Int} (h : Wr M x j v M') (hb : y ≠ x) : rd M' y i = rd M y i := h.2 _ _ fun c => hb c.1
theorem Wr.i {M M' : Mem} {x j v y i : Int} (h : Wr M x j v M') (hb : i ≠ j) : rd M' y i = rd M y i := h.2 _ _ fun c => hb c.2
theorem Wa.b {M M' : Mem} {x y i : Int} (h : Wa M x M') (hb : decide (y = x) = false) : rd M' y i = rd M y i := h _ _ fun c => by
  rw [decide_eq_true c] at hb
  cases hb
theorem Wa.n {M M' : Mem} {x y i : Int} (h : Wa M x M') (hb : y ≠ x) : rd M' y i = rd M y i := h _ _ hb
section SROWS
variable {l : Launch} {K : EC} {d : Nat} {m : MD} {pc : Nat} {ls ls2 : List (Nat × PV)} {st : List PV} {M : Mem} {Q : Mem → Option PV → Prop} {P : Mem → Prop}
theorem Tr.gen {t : Nat} {a : Int} {P : Int → Prop} (hp : P a) (k : ∀ v : Int, a = v → P v → Tr l K d m pc ls ((t, v) :: st) M Q) : Tr l K d m pc ls ((t, a) :: st) M Q := k a rfl hp
theorem Tr.pick (ks : List Nat) (h : ks.filterMap (fun k => ls[k]?) = ls2) (k : Tr l K d m pc ls2 st M Q) : Tr l K d m pc ls st M Q := by
  have hsub : ∀ q ∈ ls2, q ∈ ls := fun q hq => by
    rw [← h] at hq
    obtain ⟨i, -, hi⟩ := List.mem_filterMap.mp hq
    exact List.mem_of_getElem? hi
  refine Tr.up (fun _ _ h => Ends.pu (fun hM hst hls => ⟨hst, fun q hq => hls q (hsub q hq)⟩) (fun p e R s mid args below meth c H locs cells slots lsA Q hX hf hg hR hM hst hls hS hlv kk => kk lsA ⟨hlv.1, hlv.2.1, fun q hq => ?_⟩) h) k
  obtain ⟨q0, hq0, rfl⟩ := List.mem_map.mp hq
  exact hlv.2.2 _ (List.mem_map.mpr ⟨q0, hsub q0 hq0, rfl⟩)
theorem Tr.iincV {i : Nat} {a n : Int} (n2 : Int) (hd : decode m.2.2.1 pc = .ok (.iinc i n, 3)) (hl : e_lk ls i = some (0, a)) (hn : i < m.2.2.2.1) (hv : w32 (a + n) = n2) (hls2 : e_s1 ls i (0, n2) = ls2) (k : Tr l K d m (pc + 3) ls2 st M Q) : Tr l K d m pc ls st M Q := Tr.iinc hd hl hn (by rw [hv]; exact hls2) k
theorem Tr.iincG {i : Nat} {a n : Int} (hd : decode m.2.2.1 pc = .ok (.iinc i n, 3)) (hl : e_lk ls i = some (0, a)) (hn : i < m.2.2.2.1) (k : ∀ v : Int, (-2147483648 ≤ v ∧ v ≤ 2147483647) → Tr l K d m (pc + 3) (e_s1 ls i (0, v)) st M Q) : Tr l K d m pc ls st M Q := Tr.iinc hd hl hn rfl (k _ (w32_b _))
theorem Tr.putfS {idx ci N t : Nat} {j x a : Int} (hd : decode m.2.2.1 pc = .ok (.putfield idx, 3)) (hf : e_fld m.1 idx ci j N t false) (h3 : t < 3) (hc : ci < 20) (ht : mT M x = (ci, N)) (hp : P (wr M x j a))
    (k : ∀ M' : Mem, P M' → Wr M x j a M' → Tr l K d m (pc + 3) ls st M' Q) : Tr l K d m pc ls ((t, a) :: (2, x) :: st) M Q := Tr.putf hd hf h3 hc ht (k _ hp (Wr.mk _ _ _ _))
theorem Tr.putzS {idx ci N : Nat} {j x a : Int} (hd : decode m.2.2.1 pc = .ok (.putfield idx, 3)) (hf : e_fld m.1 idx ci j N 3 false) (hc : ci < 20) (ht : mT M x = (ci, N)) (ha : a = 0 ∨ a = 1) (hp : P (wr M x j a))
    (k : ∀ M' : Mem, P M' → Wr M x j a M' → Tr l K d m (pc + 3) ls st M' Q) : Tr l K d m pc ls ((0, a) :: (2, x) :: st) M Q := Tr.putz hd hf hc ht ha (k _ hp (Wr.mk _ _ _ _))
theorem Tr.iastS {N : Nat} {x i a : Int} (hd : decode m.2.2.1 pc = .ok (.iastore, 1)) (ht : mT M x = (20, N)) (h0 : 0 ≤ i) (h1 : i < N) (hp : P (wr M x i a)) (k : ∀ M' : Mem, P M' → Wr M x i a M' → Tr l K d m (pc + 1) ls st M' Q) : Tr l K d m pc ls ((0, a) :: (0, i) :: (2, x) :: st) M Q := Tr.iast hd ht h0 h1 (k _ hp (Wr.mk _ _ _ _))
theorem Tr.lastS {N : Nat} {x i a : Int} (hd : decode m.2.2.1 pc = .ok (.lastore, 1)) (ht : mT M x = (21, N)) (h0 : 0 ≤ i) (h1 : i < N) (hp : P (wr M x i a)) (k : ∀ M' : Mem, P M' → Wr M x i a M' → Tr l K d m (pc + 1) ls st M' Q) : Tr l K d m pc ls ((1, a) :: (0, i) :: (2, x) :: st) M Q := Tr.last hd ht h0 h1 (k _ hp (Wr.mk _ _ _ _))
theorem Tr.bastS {N : Nat} {x i a : Int} (hd : decode m.2.2.1 pc = .ok (.bastore, 1)) (ht : mT M x = (22, N)) (h0 : 0 ≤ i) (h1 : i < N) (hp : P (wr M x i (w8 a))) (k : ∀ M' : Mem, P M' → Wr M x i (w8 a) M' → Tr l K d m (pc + 1) ls st M' Q) : Tr l K d m pc ls ((0, a) :: (0, i) :: (2, x) :: st) M Q := Tr.bast hd ht h0 h1 (k _ hp (Wr.mk _ _ _ _))
theorem Tr.zastS {N : Nat} {x i a : Int} (hd : decode m.2.2.1 pc = .ok (.bastore, 1)) (ht : mT M x = (23, N)) (h0 : 0 ≤ i) (h1 : i < N) (ha : a = 0 ∨ a = 1) (hp : P (wr M x i a)) (k : ∀ M' : Mem, P M' → Wr M x i a M' → Tr l K d m (pc + 1) ls st M' Q) : Tr l K d m pc ls ((0, a) :: (0, i) :: (2, x) :: st) M Q := Tr.zast hd ht h0 h1 ha (k _ hp (Wr.mk _ _ _ _))
theorem Tr.acopyS {idx n0 n1 : Nat} {x y sp dp n : Int} (hd : decode m.2.2.1 pc = .ok (.invokestatic idx, 3)) (w1 : Cond.methodLink (e_cn m.1) idx arraycopyName ∈ tblG) (w2 : Cond.native arraycopyName ∈ tblG) (w3 : Cond.static arraycopyName ∈ tblG) (w4 : Cond.initialized "java/lang/System" ∈ tblG)
    (ht0 : mT M x = (20, n0)) (ht1 : mT M y = (20, n1)) (g1 : 0 ≤ sp) (g2 : 0 ≤ dp) (g3 : 0 ≤ n) (g4 : sp + n ≤ n0) (g5 : dp + n ≤ n1) (hcat : e_cat st ≤ 8) (hp : P (cpy M x y sp dp n))
    (k : ∀ M' : Mem, P M' → Wa M y M' → Tr l K (d + 1) m (pc + 3) ls st M' Q) : Tr l K (d + 1) m pc ls ((0, n) :: (0, dp) :: (2, y) :: (0, sp) :: (2, x) :: st) M Q := Tr.acopy hd w1 w2 w3 w4 ht0 ht1 g1 g2 g3 g4 g5 hcat (k _ hp (fun z i c => by rw [rd_cpy, if_neg (fun e => c e.1)]))
theorem Tr.nmA {M2 : Mem} {x : Int} (hp : P M2) (hw : Wa M x M2) (k : ∀ M' : Mem, P M' → Wa M x M' → Tr l K d m pc ls st M' Q) : Tr l K d m pc ls st M2 Q := k _ hp hw
end SROWS
theorem mul_bd {a b A B : Int} (h0 : 0 ≤ a) (h1 : a ≤ A) (h2 : 0 ≤ b) (h3 : b ≤ B) : 0 ≤ a * b ∧ a * b ≤ A * B := ⟨Int.mul_nonneg h0 h2, Int.mul_le_mul h1 h3 h2 (Int.le_trans h0 h1)⟩
theorem w32_mul {a b A B : Int} (h0 : 0 ≤ a) (h1 : a ≤ A) (h2 : 0 ≤ b) (h3 : b ≤ B) (h4 : A * B ≤ 2147483647) : 0 ≤ w32 (a * b) ∧ w32 (a * b) ≤ A * B := by
  have h := mul_bd h0 h1 h2 h3
  rw [w32_id (by omega)]
  exact h
theorem w64_mul {a b A B : Int} (h0 : 0 ≤ a) (h1 : a ≤ A) (h2 : 0 ≤ b) (h3 : b ≤ B) (h4 : A * B ≤ 9223372036854775807) : 0 ≤ w64 (a * b) ∧ w64 (a * b) ≤ A * B := by
  have h := mul_bd h0 h1 h2 h3
  rw [w64_id (by omega)]
  exact h
theorem w8_b (x : Int) : -128 ≤ w8 x ∧ w8 x ≤ 127 := by unfold w8; omega
theorem f_lcmp_c (a b : Int) : (f_lcmp a b = 1 ∧ b < a) ∨ (f_lcmp a b = 0 ∧ a = b) ∨ (f_lcmp a b = -1 ∧ a < b) := by
  unfold f_lcmp
  split
  · omega
  · split <;> omega
theorem div32_l {a c A : Int} (h0 : 0 ≤ a) (hc : 0 < c) (h1 : a ≤ 2147483647) (h2 : a / c ≤ A) : w32 (a.tdiv c) = a / c ∧ (0 ≤ w32 (a.tdiv c) ∧ w32 (a.tdiv c) ≤ A) := by
  have e : a.tdiv c = a / c := Int.tdiv_eq_ediv_of_nonneg h0
  have hp : 0 ≤ a / c := Int.ediv_nonneg h0 (by omega)
  have hl : a / c ≤ a := Int.ediv_le_self _ h0
  rw [e, w32_id (by omega)]
  exact ⟨rfl, hp, h2⟩
theorem div64_l {a c A : Int} (h0 : 0 ≤ a) (hc : 0 < c) (h1 : a ≤ 9223372036854775807) (h2 : a / c ≤ A) : w64 (a.tdiv c) = a / c ∧ (0 ≤ w64 (a.tdiv c) ∧ w64 (a.tdiv c) ≤ A) := by
  have e : a.tdiv c = a / c := Int.tdiv_eq_ediv_of_nonneg h0
  have hp : 0 ≤ a / c := Int.ediv_nonneg h0 (by omega)
  have hl : a / c ≤ a := Int.ediv_le_self _ h0
  rw [e, w64_id (by omega)]
  exact ⟨rfl, hp, h2⟩
theorem rem_l {a c A : Int} (h0 : 0 ≤ a) (hc : 0 < c) (h2 : a % c ≤ A) : a.tmod c = a % c ∧ (0 ≤ a.tmod c ∧ a.tmod c ≤ A) := by
  have e : a.tmod c = a % c := Int.tmod_eq_emod_of_nonneg h0
  rw [e]
  exact ⟨rfl, Int.emod_nonneg _ (by omega), h2⟩
theorem div32_p {a b A : Int} (h0 : 0 ≤ a) (hb : 1 ≤ b) (h1 : a ≤ 2147483647) (h2 : a ≤ A) : 0 ≤ w32 (a.tdiv b) ∧ w32 (a.tdiv b) ≤ A := by
  have e : a.tdiv b = a / b := Int.tdiv_eq_ediv_of_nonneg h0
  have hp : 0 ≤ a / b := Int.ediv_nonneg h0 (by omega)
  have hl : a / b ≤ a := Int.ediv_le_self _ h0
  rw [e, w32_id (by omega)]
  omega
theorem div64_p {a b A : Int} (h0 : 0 ≤ a) (hb : 1 ≤ b) (h1 : a ≤ 9223372036854775807) (h2 : a ≤ A) : 0 ≤ w64 (a.tdiv b) ∧ w64 (a.tdiv b) ≤ A := by
  have e : a.tdiv b = a / b := Int.tdiv_eq_ediv_of_nonneg h0
  have hp : 0 ≤ a / b := Int.ediv_nonneg h0 (by omega)
  have hl : a / b ≤ a := Int.ediv_le_self _ h0
  rw [e, w64_id (by omega)]
  omega
theorem rem_p {a b A : Int} (h0 : 0 ≤ a) (hb : 1 ≤ b) (h2 : a ≤ A ∨ b - 1 ≤ A) : 0 ≤ a.tmod b ∧ a.tmod b ≤ A := by
  have e : a.tmod b = a % b := Int.tmod_eq_emod_of_nonneg h0
  have h3 := Int.emod_nonneg a (show b ≠ 0 by omega)
  have h4 := Int.emod_lt_of_pos a (show 0 < b by omega)
  have h6 : 0 ≤ b * (a / b) := Int.mul_nonneg (by omega) (Int.ediv_nonneg h0 (by omega))
  have h5 : a % b ≤ a := by rw [Int.emod_def]; omega
  rw [e]
  omega
theorem f_iand_m {a : Int} (k : Nat) {m : Int} (hm : (Int32.ofInt m).toBitVec.toNat = 2 ^ k - 1) (hk : k ≤ 30) (he : ((2 ^ k - 1 : Nat) : Int) = m) : 0 ≤ f_iand a m ∧ f_iand a m ≤ m := by
  unfold f_iand
  rw [pk_and (Int32.ofInt a) k hm]
  have h2 : (Int32.ofInt a).toBitVec.toNat % 2 ^ k < 2 ^ k := Nat.mod_lt _ (Nat.two_pow_pos k)
  have h3 : 2 ^ k ≤ 2 ^ 30 := Nat.pow_le_pow_right (by decide) hk
  rw [nI_toInt (by omega)]
  omega
theorem rem32_b (a b : Int) (h : -2147483648 ≤ a ∧ a ≤ 2147483647) : -2147483648 ≤ a.tmod b ∧ a.tmod b ≤ 2147483647 := by
  have h1 : (a.tmod b).natAbs ≤ a.natAbs := by rw [Int.natAbs_tmod]; exact Nat.mod_le _ _
  rcases (show 0 ≤ a ∨ a < 0 by omega) with h0 | h0
  · have h2 := Int.tmod_nonneg b h0
    omega
  · have h2 := Int.tmod_nonneg b (show 0 ≤ -a by omega)
    rw [Int.neg_tmod] at h2
    omega
theorem rem64_b (a b : Int) (h : -9223372036854775808 ≤ a ∧ a ≤ 9223372036854775807) : -9223372036854775808 ≤ a.tmod b ∧ a.tmod b ≤ 9223372036854775807 := by
  have h1 : (a.tmod b).natAbs ≤ a.natAbs := by rw [Int.natAbs_tmod]; exact Nat.mod_le _ _
  rcases (show 0 ≤ a ∨ a < 0 by omega) with h0 | h0
  · have h2 := Int.tmod_nonneg b h0
    omega
  · have h2 := Int.tmod_nonneg b (show 0 ≤ -a by omega)
    rw [Int.neg_tmod] at h2
    omega
theorem f_ixor_s {a b : Int} (h1 : -2147483648 ≤ a ∧ a ≤ 2147483647) (h2 : -2147483648 ≤ b ∧ b ≤ 2147483647) : (f_ixor a b < 0 ↔ ¬ (a < 0 ↔ b < 0)) ∧ (-2147483648 ≤ f_ixor a b ∧ f_ixor a b ≤ 2147483647) := by
  refine ⟨?_, i32_b _⟩
  unfold f_ixor
  have ha : (Int32.ofInt a).toInt = a := by rw [i32_t, w32_id h1]
  have hb : (Int32.ofInt b).toInt = b := by rw [i32_t, w32_id h2]
  have h := BitVec.msb_xor (x := (Int32.ofInt a).toBitVec) (y := (Int32.ofInt b).toBitVec)
  rw [BitVec.msb_eq_toInt, BitVec.msb_eq_toInt, BitVec.msb_eq_toInt] at h
  have h3 : decide ((Int32.ofInt a ^^^ Int32.ofInt b).toInt < 0) = ((decide ((Int32.ofInt a).toInt < 0)) ^^ (decide ((Int32.ofInt b).toInt < 0))) := h
  rw [ha, hb] at h3
  by_cases c1 : a < 0 <;> by_cases c2 : b < 0 <;> by_cases c3 : (Int32.ofInt a ^^^ Int32.ofInt b).toInt < 0 <;> simp [c1, c2, c3] at h3 ⊢
/-! what every call keeps: the cells and their final fields, an interval for each number -/
def fxT : List (Int × Int × Int) := [(0, 0, 1), (0, 2, 2), (0, 3, 6), (0, 6, 47), (0, 7, 48), (0, 8, 74), (0, 10, 100), (0, 11, 103), (0, 12, 107), (0, 13, 113), (2, 0, 3), (2, 1, 4), (2, 2, 5), (7, 4, 8), (7, 5, 9), (7, 6, 10), (7, 7, 11), (7, 8, 12), (7, 9, 13), (7, 10, 14), (7, 11, 15), (15, 1, 16), (15, 2, 17), (15, 3, 18), (15, 4, 19), (15, 5, 20), (15, 6, 21), (15, 7, 22), (15, 8, 23), (15, 9, 24), (15, 10, 25), (15, 12, 26), (27, 4, 28), (27, 5, 29), (27, 6, 30), (27, 7, 31), (27, 8, 32), (27, 9, 33), (27, 10, 34), (27, 11, 35), (35, 1, 36), (35, 2, 37), (35, 3, 38), (35, 4, 39), (35, 5, 40), (35, 6, 41), (35, 7, 42), (35, 8, 43), (35, 9, 44), (35, 10, 45), (35, 12, 46), (48, 0, 56), (48, 2, 49), (48, 3, 50), (48, 4, 51), (48, 5, 52), (48, 6, 53), (48, 7, 54), (48, 8, 55), (56, 0, 1), (56, 2, 57), (56, 3, 58), (56, 4, 59), (56, 5, 60), (56, 6, 61), (56, 7, 62), (56, 8, 63), (63, 6, 69), (74, 0, 82), (74, 2, 75), (74, 3, 76), (74, 4, 77), (74, 5, 78), (74, 6, 79), (74, 7, 80), (74, 8, 81), (82, 0, 0), (82, 2, 83), (82, 3, 84), (82, 4, 85), (82, 5, 86), (82, 6, 87), (82, 7, 88), (82, 8, 89), (89, 6, 95), (100, 0, 101), (100, 1, 102), (103, 4, 104), (103, 5, 105), (103, 6, 106), (107, 2, 108), (107, 3, 109), (107, 4, 110), (107, 5, 111), (107, 6, 112), (113, 1, 114), (113, 2, 115), (113, 3, 116), (113, 4, 117), (113, 5, 118), (113, 6, 119), (120, 0, 121), (120, 13, 122), (120, 14, 123), (120, 15, 124), (120, 16, 125), (120, 17, 126), (120, 18, 127), (120, 19, 128), (120, 20, 129), (120, 21, 130), (120, 22, 131), (120, 23, 132), (120, 24, 133), (120, 25, 134), (120, 26, 135), (120, 27, 136), (120, 28, 137), (120, 29, 138), (120, 30, 139), (120, 31, 140), (120, 32, 141), (120, 33, 142), (120, 34, 143), (120, 35, 144), (120, 38, 145), (120, 39, 146), (120, 40, 147), (120, 41, 148), (120, 42, 149), (120, 45, 150), (120, 48, 151), (120, 49, 152), (120, 51, 153), (120, 52, 154), (120, 53, 155), (120, 54, 156), (120, 55, 157), (120, 56, 158), (120, 57, 159), (120, 58, 160), (120, 69, 161), (120, 71, 162), (120, 72, 163), (120, 73, 164), (120, 74, 165), (120, 76, 166), (120, 77, 167), (120, 78, 168), (120, 80, 169), (120, 81, 170), (120, 82, 171), (120, 83, 172), (120, 92, 173), (120, 93, 174), (120, 94, 175), (120, 100, 176), (120, 102, 177), (120, 103, 178), (120, 105, 179), (120, 107, 180), (120, 108, 181), (120, 110, 182), (120, 111, 183), (120, 112, 184), (120, 114, 185), (120, 115, 186), (120, 116, 187), (120, 118, 188), (120, 119, 189), (120, 120, 190)]
def ivF : List (Int × Int × Int × Int) := [(0, 1, 0, 900), (0, 4, -1000000000, 1000000000), (0, 5, -1000000000, 1000000000), (0, 9, 0, 1), (2, 3, 0, 901), (2, 4, -1000000000, 1000000000), (2, 5, 0, 900), (6, 0, -2147483648, 2147483647), (6, 1, -2147483648, 2147483647), (6, 2, -1000000000, 1000000000), (6, 3, -1000000000, 1000000000), (6, 4, -1000000000, 1000000000), (6, 5, 0, 900), (6, 6, -1000, 8), (7, 0, -1, 999), (7, 1, -1, 8), (7, 2, -1, 8), (7, 3, -1, 20), (8, 0, 0, 6), (8, 1, 0, 3), (8, 2, 0, 6), (15, 0, 0, 60), (15, 11, 0, 900), (27, 0, -1, 999), (27, 1, -1, 8), (27, 2, -1, 8), (27, 3, -1, 20), (28, 0, 0, 6), (28, 1, 0, 3), (28, 2, 0, 6), (35, 0, 0, 60), (35, 11, 0, 900), (48, 1, -1000000000, 1000000000), (48, 9, -2147483648, 2147483647), (48, 10, -2147483648, 2147483647), (48, 11, -2147483648, 2147483647), (48, 12, -2147483648, 2147483647), (48, 13, -2147483648, 2147483647), (48, 14, -2147483648, 2147483647), (48, 15, -2147483648, 2147483647), (48, 16, 0, 1), (48, 17, -2147483648, 2147483647), (56, 1, -1000000000, 1000000000), (63, 0, -2147483648, 2147483647), (63, 1, -1000000000, 1000000000), (63, 2, -1000000000, 1000000000), (63, 3, -1000000000, 1000000000), (63, 4, -1000000000, 1000000000), (63, 5, -1000000000, 1000000000), (63, 7, -2147483648, 2147483647), (63, 8, -1000000000, 1000000000), (63, 9, -1000000000, 1000000000), (63, 10, -1000000000, 1000000000), (63, 11, -1000000000, 1000000000), (74, 1, -1000000000, 1000000000), (74, 9, -2147483648, 2147483647), (74, 10, -2147483648, 2147483647), (74, 11, -2147483648, 2147483647), (74, 12, -2147483648, 2147483647), (74, 13, -2147483648, 2147483647), (74, 14, -2147483648, 2147483647), (74, 15, -2147483648, 2147483647), (74, 16, 0, 1), (74, 17, -2147483648, 2147483647), (82, 1, -1000000000, 1000000000), (89, 0, -2147483648, 2147483647), (89, 1, -1000000000, 1000000000), (89, 2, -1000000000, 1000000000), (89, 3, -1000000000, 1000000000), (89, 4, -1000000000, 1000000000), (89, 5, -1000000000, 1000000000), (89, 7, -2147483648, 2147483647), (89, 8, -1000000000, 1000000000), (89, 9, -1000000000, 1000000000), (89, 10, -1000000000, 1000000000), (89, 11, -1000000000, 1000000000), (100, 2, -9223372036854775808, 9223372036854775807), (100, 3, -2147483648, 2147483647), (103, 0, 0, 1), (103, 1, 0, 1), (103, 2, -2147483648, 2147483647), (103, 3, -2147483648, 2147483647), (107, 0, 0, 12), (107, 1, 0, 1), (113, 0, 0, 6), (113, 7, 0, 6), (120, 1, 0, 900), (120, 2, 0, 900), (120, 3, 0, 3), (120, 4, 0, 900), (120, 5, 0, 900), (120, 6, -2147483648, 2147483647), (120, 7, -9223372036854775808, 9223372036854775807), (120, 8, 0, 5), (120, 9, -2147483648, 2147483647), (120, 10, -2147483648, 2147483647), (120, 11, -2147483648, 2147483647), (120, 12, 0, 1), (120, 36, 0, 900), (120, 37, 0, 1), (120, 43, 0, 20), (120, 44, 0, 8), (120, 46, 0, 500), (120, 47, 0, 1), (120, 50, 0, 20), (120, 59, -1, 5), (120, 60, -2147483648, 2147483647), (120, 61, 0, 3), (120, 62, 0, 2060), (120, 63, -9223372036854775808, 9223372036854775807), (120, 64, -9223372036854775808, 9223372036854775807), (120, 65, -2147483648, 2147483647), (120, 66, -2147483648, 2147483647), (120, 67, -2147483648, 2147483647), (120, 68, 0, 2), (120, 70, 0, 1), (120, 75, 0, 2100), (120, 79, 0, 2100), (120, 84, -2147483648, 2147483647), (120, 85, 0, 1), (120, 86, 0, 2060), (120, 87, -9223372036854775808, 9223372036854775807), (120, 88, -2147483648, 2147483647), (120, 89, -2147483648, 2147483647), (120, 90, -2147483648, 2147483647), (120, 91, -2147483648, 2147483647), (120, 95, 0, 2100), (120, 96, 0, 2100), (120, 97, 0, 2100), (120, 98, 0, 2100), (120, 99, -2147483648, 2147483647), (120, 101, 0, 8), (120, 104, 0, 1), (120, 106, 0, 12), (120, 109, 0, 1), (120, 113, 0, 6), (120, 117, 0, 6), (122, 0, -2147483648, 2147483647), (122, 1, -2147483648, 2147483647), (123, 0, -2147483648, 2147483647), (123, 1, -2147483648, 2147483647), (124, 0, -2147483648, 2147483647), (124, 1, -2147483648, 2147483647), (125, 0, -2147483648, 2147483647), (125, 1, -2147483648, 2147483647), (126, 0, 0, 6), (126, 1, 0, 6), (127, 0, 0, 3), (127, 1, 0, 3), (128, 0, 0, 6), (128, 1, 0, 6), (129, 0, 0, 60), (129, 1, 0, 60), (136, 0, 0, 200), (136, 1, 0, 200)]
def ivA : List (Int × Int × Int) := [(1, -128, 127), (3, -2147483648, 2147483647), (4, -2147483648, 2147483647), (5, -2147483648, 2147483647), (9, -1, 999), (10, -1, 20), (11, 0, 50), (12, -1, 99), (13, -1, 99), (14, -2147483648, 2147483647), (16, -2147483648, 2147483647), (17, 0, 5), (18, 0, 900), (19, -2147483648, 2147483647), (20, -2147483648, 2147483647), (21, -1, 59), (22, -1, 59), (23, 0, 60), (24, -2147483648, 2147483647), (25, -2147483648, 2147483647), (26, -2147483648, 2147483647), (29, -1, 999), (30, -1, 20), (31, 0, 50), (32, -1, 99), (33, -1, 99), (34, -2147483648, 2147483647), (36, -2147483648, 2147483647), (37, 0, 5), (38, 0, 900), (39, -2147483648, 2147483647), (40, -2147483648, 2147483647), (41, -1, 59), (42, -1, 59), (43, 0, 60), (44, -2147483648, 2147483647), (45, -2147483648, 2147483647), (46, -2147483648, 2147483647), (47, -2147483648, 2147483647), (49, -2147483648, 2147483647), (50, -2147483648, 2147483647), (51, -2147483648, 2147483647), (52, -2147483648, 2147483647), (53, 0, 1), (54, -2147483648, 2147483647), (55, -2147483648, 2147483647), (57, -2147483648, 2147483647), (58, -1, 59), (59, -2147483648, 2147483647), (60, -2147483648, 2147483647), (61, -2147483648, 2147483647), (62, -2147483648, 2147483647), (69, -2147483648, 2147483647), (75, -2147483648, 2147483647), (76, -2147483648, 2147483647), (77, -2147483648, 2147483647), (78, -2147483648, 2147483647), (79, 0, 1), (80, -2147483648, 2147483647), (81, -2147483648, 2147483647), (83, -2147483648, 2147483647), (84, -1, 59), (85, -2147483648, 2147483647), (86, -2147483648, 2147483647), (87, -2147483648, 2147483647), (88, -2147483648, 2147483647), (95, -2147483648, 2147483647), (101, -9223372036854775808, 9223372036854775807), (102, -2147483648, 2147483647), (104, -2147483648, 2147483647), (105, -2147483648, 2147483647), (106, -2147483648, 2147483647), (108, -2147483648, 2147483647), (109, -2147483648, 2147483647), (110, -2147483648, 2147483647), (111, -2147483648, 2147483647), (112, -2147483648, 2147483647), (114, 0, 200), (115, 0, 20), (116, 0, 5), (117, 0, 5), (118, 0, 5), (119, 0, 5), (121, -2147483648, 2147483647), (130, -9223372036854775808, 9223372036854775807), (131, -2147483648, 2147483647), (132, -9223372036854775808, 9223372036854775807), (133, -2147483648, 2147483647), (134, -2147483648, 2147483647), (135, -9223372036854775808, 9223372036854775807), (137, 0, 8), (138, -1, 59), (139, -1, 5), (140, 0, 900), (141, 0, 900), (142, 0, 200), (143, -2147483648, 2147483647), (144, -2147483648, 2147483647), (145, 0, 5), (146, 0, 2), (147, 0, 1), (148, 0, 18), (149, 0, 500), (150, 0, 18), (151, 0, 2), (152, 0, 399), (153, -2147483648, 2147483647), (154, -2147483648, 2147483647), (155, -2147483648, 2147483647), (156, 0, 1), (157, -1, 59), (158, -2147483648, 2147483647), (159, -1, 59), (160, -2147483648, 2147483647), (161, -2147483648, 2147483647), (162, -1, 59), (163, 0, 3), (164, -1, 59), (165, -1, 59), (166, 0, 5), (167, -1, 59), (168, -2147483648, 2147483647), (169, 0, 5), (170, -1, 59), (171, 0, 2060), (172, -9223372036854775808, 9223372036854775807), (173, -2147483648, 2147483647), (174, -2147483648, 2147483647), (175, 0, 1), (176, 0, 59), (177, 0, 1), (178, -9223372036854775808, 9223372036854775807), (179, -2147483648, 2147483647), (180, -2147483648, 2147483647), (181, -2147483648, 2147483647), (182, -2147483648, 2147483647), (183, -9223372036854775808, 9223372036854775807), (184, -2147483648, 2147483647), (185, 0, 200), (186, 0, 20), (187, 0, 5), (188, 0, 5), (189, 0, 5), (190, -9223372036854775808, 9223372036854775807)]
def Fx (M : Mem) : Prop := (∀ x : Int, x < 191 → mT M x = mT C_461 x) ∧ 191 ≤ M.1 ∧ ∀ e ∈ fxT, rd M e.1 e.2.1 = e.2.2
def Iv (M : Mem) : Prop := (∀ e ∈ ivF, e.2.2.1 ≤ rd M e.1 e.2.1 ∧ rd M e.1 e.2.1 ≤ e.2.2.2) ∧ ∀ e ∈ ivA, ∀ j : Int, e.2.1 ≤ rd M e.1 j ∧ rd M e.1 j ≤ e.2.2
def gcT : List (Int × Int) := [(24, 25), (44, 45), (143, 144)]
def good (o a : Int) : Prop := (o = 1 → 0 ≤ a ∧ a ≤ 2) ∧ (o = 2 ∨ o = 4 → 0 ≤ a ∧ a ≤ 5)
def Gc (M : Mem) : Prop := ∀ e ∈ gcT, ∀ i : Int, good (rd M e.1 i) (rd M e.2 i)
/-- the Trail's rows: how long they are, by where the first of them lies -/
def fN (b : Int) : Nat := if b = 64 then 0 else if b = 191 then 32 else if b = 200 then 96 else if b = 209 then 224 else if b = 218 then 480 else if b = 227 then 992 else 2016
def tcell (b : Int) : Nat := if b = 64 then 191 else if b = 191 then 200 else if b = 200 then 209 else if b = 209 then 218 else if b = 218 then 227 else if b = 227 then 236 else 245
def tslot (b : Int) : Nat := 74263 + 9 * (if b = 64 then 0 else if b = 191 then 32 else if b = 200 then 128 else if b = 209 then 352 else if b = 218 then 832 else if b = 227 then 1824 else 3840)
def tref (b j : Int) : Int := if j ≤ 5 then b + j - 1 else if b = 64 then 62 + j else b + j - 3
def tJ : List Int := [1, 2, 3, 4, 5, 8, 9, 10, 11]
def tlo (j : Int) : Int := if j = 1 ∨ j = 8 then 0 else if j = 5 then -9223372036854775808 else -2147483648
def thi (j : Int) : Int := if j = 1 ∨ j = 8 then 5 else if j = 5 then 9223372036854775807 else 2147483647
def Tl (M : Mem) : Prop := (rd M 63 1 = 64 ∨ rd M 63 1 = 191 ∨ rd M 63 1 = 200 ∨ rd M 63 1 = 209 ∨ rd M 63 1 = 218 ∨ rd M 63 1 = 227 ∨ rd M 63 1 = 236) ∧ M.1 = tcell (rd M 63 1) ∧ M.2.1 = tslot (rd M 63 1)
  ∧ (∀ j ∈ tJ, rd M 63 j = tref (rd M 63 1) j ∧ mT M (rd M 63 j) = (if j = 5 then 21 else 20, fN (rd M 63 1)))
  ∧ (0 ≤ rd M 63 0 ∧ rd M 63 0 ≤ fN (rd M 63 1) ∧ 0 ≤ rd M 63 7 ∧ rd M 63 7 ≤ fN (rd M 63 1))
  ∧ ∀ j ∈ tJ, ∀ i : Int, 0 ≤ i → i < fN (rd M 63 1) → tlo j ≤ rd M (rd M 63 j) i ∧ rd M (rd M 63 j) i ≤ thi j
/-- nothing more is kept -/
abbrev Tru : Mem → Prop := fun _ => True
def Xp (q : Mem → Prop) (M : Mem) : Prop := Gc M ∧ Tl M ∧ q M
def xsT : List Int := [24, 25, 44, 45, 143, 144, 63]
def xsF (x : Int) : Bool := xsT.all (fun e => !(decide (e = x))) && decide (x < 191) && decide (0 ≤ x)
theorem tref_hi {b j : Int} (hb : b = 64 ∨ b = 191 ∨ b = 200 ∨ b = 209 ∨ b = 218 ∨ b = 227 ∨ b = 236) (hj : j ∈ tJ) : (fN b = 0 ∧ tcell b = 191 ∧ tref b j < 191) ∨ (191 ≤ tref b j ∧ b ≤ tref b j ∧ tref b j ≤ b + 8 ∧ 0 < fN b ∧ (tcell b : Int) = b + 9 ∧ tref b j = (if j ≤ 5 then b + j - 1 else b + j - 3)) := by
  simp only [tJ, List.mem_cons, List.not_mem_nil, or_false] at hj
  rcases hb with rfl | rfl | rfl | rfl | rfl | rfl | rfl <;> rcases hj with rfl | rfl | rfl | rfl | rfl | rfl | rfl | rfl | rfl <;> first | exact Or.inl ⟨rfl, rfl, by decide⟩ | exact Or.inr ⟨by decide, by decide, by decide, by decide, by decide, by decide⟩
theorem Xp.of {q : Mem → Prop} {M M2 : Mem} (h : Xp q M) (hT : mT M2 = mT M) (hn : M2.1 = M.1) (hz : M2.2.1 = M.2.1) (he : ∀ y i : Int, (y ∈ xsT ∨ 191 ≤ y) → rd M2 y i = rd M y i) (hq : q M2) : Xp q M2 := by
  obtain ⟨h1, ⟨t1, t2, t3, t4, t5, t6⟩, h3⟩ := h
  have c : ∀ i : Int, rd M2 63 i = rd M 63 i := fun i => he _ _ (Or.inl (by decide))
  refine ⟨fun e hm i => ?_, ⟨?_, ?_, ?_, fun j hj => ?_, ?_, fun j hj i i0 i1 => ?_⟩, hq⟩
  · have e1 : e.1 ∈ xsT ∧ e.2 ∈ xsT := by
      simp only [gcT, List.mem_cons, List.not_mem_nil, or_false] at hm
      rcases hm with rfl | rfl | rfl <;> decide
    rw [he _ _ (Or.inl e1.1), he _ _ (Or.inl e1.2)]
    exact h1 e hm i
  · rw [c]; exact t1
  · rw [hn, c]; exact t2
  · rw [hz, c]; exact t3
  · rw [hT, c, c]; exact t4 j hj
  · rw [c, c, c]; exact t5
  · rw [c] at i1
    rw [c]
    have hx := tref_hi t1 hj
    have hr := (t4 j hj).1
    rw [he _ _ (Or.inr (by rcases hx with hx | hx <;> omega))]
    exact t6 j hj i i0 i1
theorem Xp.wk {q : Mem → Prop} {M : Mem} (h : Xp q M) : Xp Tru M := ⟨h.1, h.2.1, trivial⟩
def In (q : Mem → Prop) (M : Mem) : Prop := Fx M ∧ Iv M ∧ Xp q M
/-- outside ws and as nothing changed (191 in as: the rows that are made behind the constructors may change) -/
def Kp (ws : List (Int × Int)) (as : List Int) (M0 M : Mem) : Prop := (∀ x j : Int, x < 191 → x ∉ as → (x, j) ∉ ws → rd M x j = rd M0 x j) ∧ ((191 : Int) ∉ as → ∀ x j : Int, 191 ≤ x → rd M x j = rd M0 x j)
def St (q : Mem → Prop) (ws : List (Int × Int)) (as : List Int) (M0 M : Mem) : Prop := In q M ∧ Kp ws as M0 M
theorem In.wk {q : Mem → Prop} {M : Mem} (h : In q M) : In Tru M := ⟨h.1, h.2.1, h.2.2.wk⟩
theorem St.wk {q : Mem → Prop} {ws : List (Int × Int)} {as : List Int} {M0 M : Mem} (h : St q ws as M0 M) : St Tru ws as M0 M := ⟨h.1.wk, h.2⟩
theorem St.rn {q r : Mem → Prop} {ws : List (Int × Int)} {as : List Int} {M0 M : Mem} (h : St q ws as M0 M) (hr : r M) : St r ws as M0 M := ⟨⟨h.1.1, h.1.2.1, h.1.2.2.1, h.1.2.2.2.1, hr⟩, h.2⟩
theorem St.rf {q : Mem → Prop} {ws : List (Int × Int)} {as : List Int} {M : Mem} (h : In q M) : St q ws as M M := ⟨h, fun _ _ _ _ _ => rfl, fun _ _ _ _ => rfl⟩
theorem St.kp {q : Mem → Prop} {ws : List (Int × Int)} {as : List Int} {M0 M : Mem} {x j : Int} (h : St q ws as M0 M) (h9 : x < 191) (ha : x ∉ as) (hw : (x, j) ∉ ws) : rd M x j = rd M0 x j := h.2.1 x j h9 ha hw
theorem St.ka {q : Mem → Prop} {ws : List (Int × Int)} {as : List Int} {M0 M : Mem} {x j : Int} (h : St q ws as M0 M) (h9 : x < 191) (ha : x ∉ as) (hw : ws.all (fun c => !decide (c.1 = x)) = true) : rd M x j = rd M0 x j := h.2.1 x j h9 ha (fun c => by
  have h1 := List.all_eq_true.mp hw (x, j) c
  simp at h1)
theorem St.tr {q : Mem → Prop} {ws ws2 : List (Int × Int)} {as as2 : List Int} {M0 M M2 : Mem} (h : St q ws as M0 M) (h2 : St q ws2 as2 M M2) (hw : ws2.all (fun c => ws.contains c || as.contains c.1) = true) (ha : as2.all (fun a => as.contains a) = true) : St q ws as M0 M2 := by
  refine ⟨h2.1, fun x j h9 n1 n2 => ?_, fun n1 x j h9 => ?_⟩
  · rw [h2.2.1 x j h9 (fun c => n1 ?_) (fun c => ?_)]
    · exact h.2.1 x j h9 n1 n2
    · simpa using List.all_eq_true.mp ha x c
    · have h3 := List.all_eq_true.mp hw (x, j) c
      simp only [Bool.or_eq_true, List.contains_iff_mem] at h3
      exact h3.elim n2 n1
  · rw [h2.2.2 (fun c => n1 (by simpa using List.all_eq_true.mp ha _ c)) x j h9]
    exact h.2.2 n1 x j h9
def fxno (x i : Int) : Bool := fxT.all (fun e => !(decide (e.1 = x) && decide (e.2.1 = i)))
def fxnoA (x : Int) : Bool := fxT.all (fun e => !(decide (e.1 = x)))
theorem Fx.of {M M2 : Mem} (h : Fx M) (hT : mT M2 = mT M) (hn : M2.1 = M.1) (he : ∀ e ∈ fxT, rd M2 e.1 e.2.1 = rd M e.1 e.2.1) : Fx M2 := ⟨fun x hx => by rw [hT]; exact h.1 x hx, by rw [hn]; exact h.2.1, fun e h2 => (he e h2).trans (h.2.2 e h2)⟩
theorem xsF_s {x : Int} (h : xsF x = true) : x < 191 ∧ 0 ≤ x ∧ ∀ y : Int, (y ∈ xsT ∨ 191 ≤ y) → y ≠ x := by
  unfold xsF at h
  simp only [Bool.and_eq_true, decide_eq_true_eq] at h
  refine ⟨h.1.2, h.2, fun y hy c => ?_⟩
  subst c
  rcases hy with hy | hy
  · have h1 := List.all_eq_true.mp h.1.1 y hy
    simp at h1
  · omega
/-- a write of one number into a field, or into a place of a row that has an interval of its own; what else is to be kept is a premise -/
theorem St.wfX {q : Mem → Prop} {ws : List (Int × Int)} {as : List Int} {M0 M : Mem} {x j v lo hi : Int} (k : Nat) (h : St q ws as M0 M) (h9 : x < 191) (hm : (x, j) ∈ ws) (hk : ivF[k]? = some (x, j, lo, hi)) (hu : ivF.zipIdx.all (fun e => decide (e.2 = k) || !(decide (e.1.1 = x) && decide (e.1.2.1 = j))) = true) (ha : ivA.all (fun e => !decide (e.1 = x)) = true) (hf : fxno x j = true) (hv : lo ≤ v ∧ v ≤ hi) (hx : Xp q (wr M x j v)) : St q ws as M0 (wr M x j v) := by
  refine ⟨⟨h.1.1.of rfl rfl fun e he => ?_, ⟨fun e he => ?_, fun e he i => ?_⟩, hx⟩, fun y i h8 n1 n2 => ?_, fun n1 y i h8 => ?_⟩
  · have h1 := List.all_eq_true.mp hf e he
    exact rd_wn M (fun c => by rw [decide_eq_true c.1, decide_eq_true c.2] at h1; cases h1)
  · obtain ⟨i, hi0, hi1⟩ := List.getElem_of_mem he
    have h1 := List.all_eq_true.mp hu (e, i) (by rw [← hi1]; exact List.mk_mem_zipIdx_iff_getElem?.mpr (by rw [List.getElem?_eq_getElem hi0]))
    by_cases c : e.1 = x ∧ e.2.1 = j
    · have hik : i = k := by
        rw [decide_eq_true c.1, decide_eq_true c.2] at h1
        simpa using h1
      subst hik
      rw [List.getElem?_eq_getElem hi0, hi1] at hk
      cases hk
      rw [rd_ws]
      exact hv
    · rw [rd_wn M c]
      exact h.1.2.1.1 e he
  · have h1 := List.all_eq_true.mp ha e he
    rw [rd_wn M (fun c => by rw [decide_eq_true c.1] at h1; cases h1)]
    exact h.1.2.1.2 e he i
  · rw [rd_wn M (fun c => n2 (by rw [c.1, c.2]; exact hm))]
    exact h.2.1 y i h8 n1 n2
  · rw [rd_wn M (fun c => by have := c.1; omega)]
    exact h.2.2 n1 y i h8
theorem St.wf {q : Mem → Prop} {ws : List (Int × Int)} {as : List Int} {M0 M : Mem} {x j v lo hi : Int} (k : Nat) (h : St q ws as M0 M) (h9 : xsF x = true) (hm : (x, j) ∈ ws) (hk : ivF[k]? = some (x, j, lo, hi)) (hu : ivF.zipIdx.all (fun e => decide (e.2 = k) || !(decide (e.1.1 = x) && decide (e.1.2.1 = j))) = true) (ha : ivA.all (fun e => !decide (e.1 = x)) = true) (hf : fxno x j = true) (hv : lo ≤ v ∧ v ≤ hi) (hq : q (wr M x j v)) : St q ws as M0 (wr M x j v) :=
  St.wfX k h (xsF_s h9).1 hm hk hu ha hf hv (h.1.2.2.of rfl rfl rfl (fun y i hy => rd_wn M fun c => (xsF_s h9).2.2 y hy c.1) hq)
/-- any change of a row that keeps its interval -/
theorem St.waX {q : Mem → Prop} {ws : List (Int × Int)} {as : List Int} {M0 M M2 : Mem} {x lo hi : Int} (k : Nat) (h : St q ws as M0 M) (h9 : x < 191) (hm : x ∈ as) (hk : ivA[k]? = some (x, lo, hi)) (hu : ivA.zipIdx.all (fun e => decide (e.2 = k) || !(decide (e.1.1 = x))) = true) (ha : ivF.all (fun e => !decide (e.1 = x)) = true) (hf : fxnoA x = true)
    (hT : mT M2 = mT M) (hn : M2.1 = M.1) (ho : ∀ y i : Int, y ≠ x → rd M2 y i = rd M y i) (hv : ∀ i : Int, lo ≤ rd M2 x i ∧ rd M2 x i ≤ hi) (hx : Xp q M2) : St q ws as M0 M2 := by
  refine ⟨⟨h.1.1.of hT hn fun e he => ?_, ⟨fun e he => ?_, fun e he i => ?_⟩, hx⟩, fun y i h8 n1 n2 => ?_, fun n1 y i h8 => ?_⟩
  · have h1 := List.all_eq_true.mp hf e he
    exact ho _ _ (fun c => by rw [decide_eq_true c] at h1; cases h1)
  · have h1 := List.all_eq_true.mp ha e he
    rw [ho _ _ (fun c => by rw [decide_eq_true c] at h1; cases h1)]
    exact h.1.2.1.1 e he
  · obtain ⟨q9, hi0, hi1⟩ := List.getElem_of_mem he
    have h1 := List.all_eq_true.mp hu (e, q9) (by rw [← hi1]; exact List.mk_mem_zipIdx_iff_getElem?.mpr (by rw [List.getElem?_eq_getElem hi0]))
    by_cases c : e.1 = x
    · have hik : q9 = k := by
        rw [decide_eq_true c] at h1
        simpa using h1
      subst hik
      rw [List.getElem?_eq_getElem hi0, hi1] at hk
      cases hk
      rw [c]
      exact hv i
    · rw [ho _ _ c]
      exact h.1.2.1.2 e he i
  · rw [ho _ _ (fun c => n1 (by rw [c]; exact hm))]
    exact h.2.1 y i h8 n1 n2
  · rw [ho _ _ (by omega)]
    exact h.2.2 n1 y i h8
theorem St.wa {q : Mem → Prop} {ws : List (Int × Int)} {as : List Int} {M0 M M2 : Mem} {x lo hi : Int} (k : Nat) (h : St q ws as M0 M) (h9 : xsF x = true) (hm : x ∈ as) (hk : ivA[k]? = some (x, lo, hi)) (hu : ivA.zipIdx.all (fun e => decide (e.2 = k) || !(decide (e.1.1 = x))) = true) (ha : ivF.all (fun e => !decide (e.1 = x)) = true) (hf : fxnoA x = true)
    (hT : mT M2 = mT M) (hn : M2.1 = M.1) (hz : M2.2.1 = M.2.1) (ho : ∀ y i : Int, y ≠ x → rd M2 y i = rd M y i) (hv : ∀ i : Int, lo ≤ rd M2 x i ∧ rd M2 x i ≤ hi) (hq : q M2) : St q ws as M0 M2 :=
  St.waX k h (xsF_s h9).1 hm hk hu ha hf hT hn ho hv (h.1.2.2.of hT hn hz (fun y i hy => ho _ _ ((xsF_s h9).2.2 y hy)) hq)
/-- a row whose places have intervals of their own, filled -/
theorem St.wp {q : Mem → Prop} {ws : List (Int × Int)} {as : List Int} {M0 M : Mem} {x v : Int} (N : Nat) (h : St q ws as M0 M) (h9 : xsF x = true) (hm : x ∈ as) (hv : ivF.all (fun e => !decide (e.1 = x) || decide (e.2.2.1 ≤ v ∧ v ≤ e.2.2.2)) = true) (ha : ivA.all (fun e => !decide (e.1 = x)) = true) (hf : fxnoA x = true) (hq : q (fil M x N v)) : St q ws as M0 (fil M x N v) := by
  refine ⟨⟨h.1.1.of rfl rfl fun e he => ?_, ⟨fun e he => ?_, fun e he i => ?_⟩, h.1.2.2.of rfl rfl rfl (fun y i hy => ?_) hq⟩, fun y i h8 n1 n2 => ?_, fun n1 y i h8 => ?_⟩
  · have h1 := List.all_eq_true.mp hf e he
    rw [rd_fil, if_neg (fun c => by rw [decide_eq_true c.1] at h1; cases h1)]
  · have h1 := List.all_eq_true.mp hv e he
    rw [rd_fil]
    split
    · rename_i c
      rw [decide_eq_true c.1] at h1
      simpa using h1
    · exact h.1.2.1.1 e he
  · have h1 := List.all_eq_true.mp ha e he
    rw [rd_fil, if_neg (fun c => by rw [decide_eq_true c.1] at h1; cases h1)]
    exact h.1.2.1.2 e he i
  · rw [rd_fil, if_neg (fun c => (xsF_s h9).2.2 y hy c.1)]
  · rw [rd_fil, if_neg (fun c => n1 (by rw [c.1]; exact hm))]
    exact h.2.1 y i h8 n1 n2
  · rw [rd_fil, if_neg (fun c => by have := (xsF_s h9).1; have := c.1; omega)]
    exact h.2.2 n1 y i h8
theorem fil_wa (M : Mem) (x : Int) (N : Nat) (v : Int) : Wa M x (fil M x N v) := fun y i c => by rw [rd_fil, if_neg (fun d => c d.1)]
theorem cpy_wa (M : Mem) (x y sp dp n : Int) : Wa M y (cpy M x y sp dp n) := fun z i c => by rw [rd_cpy, if_neg (fun d => c d.1)]
theorem fx_0_0 {M : Mem} (h : Fx M) : rd M 0 0 = 1 := h.2.2 (0, 0, 1) (List.mem_of_getElem? (i := 0) rfl)
theorem fx_0_2 {M : Mem} (h : Fx M) : rd M 0 2 = 2 := h.2.2 (0, 2, 2) (List.mem_of_getElem? (i := 1) rfl)
theorem fx_0_3 {M : Mem} (h : Fx M) : rd M 0 3 = 6 := h.2.2 (0, 3, 6) (List.mem_of_getElem? (i := 2) rfl)
theorem fx_0_6 {M : Mem} (h : Fx M) : rd M 0 6 = 47 := h.2.2 (0, 6, 47) (List.mem_of_getElem? (i := 3) rfl)
theorem fx_0_7 {M : Mem} (h : Fx M) : rd M 0 7 = 48 := h.2.2 (0, 7, 48) (List.mem_of_getElem? (i := 4) rfl)
theorem fx_0_8 {M : Mem} (h : Fx M) : rd M 0 8 = 74 := h.2.2 (0, 8, 74) (List.mem_of_getElem? (i := 5) rfl)
theorem fx_0_10 {M : Mem} (h : Fx M) : rd M 0 10 = 100 := h.2.2 (0, 10, 100) (List.mem_of_getElem? (i := 6) rfl)
theorem fx_0_11 {M : Mem} (h : Fx M) : rd M 0 11 = 103 := h.2.2 (0, 11, 103) (List.mem_of_getElem? (i := 7) rfl)
theorem fx_0_12 {M : Mem} (h : Fx M) : rd M 0 12 = 107 := h.2.2 (0, 12, 107) (List.mem_of_getElem? (i := 8) rfl)
theorem fx_0_13 {M : Mem} (h : Fx M) : rd M 0 13 = 113 := h.2.2 (0, 13, 113) (List.mem_of_getElem? (i := 9) rfl)
theorem fx_2_0 {M : Mem} (h : Fx M) : rd M 2 0 = 3 := h.2.2 (2, 0, 3) (List.mem_of_getElem? (i := 10) rfl)
theorem fx_2_1 {M : Mem} (h : Fx M) : rd M 2 1 = 4 := h.2.2 (2, 1, 4) (List.mem_of_getElem? (i := 11) rfl)
theorem fx_2_2 {M : Mem} (h : Fx M) : rd M 2 2 = 5 := h.2.2 (2, 2, 5) (List.mem_of_getElem? (i := 12) rfl)
theorem fx_7_4 {M : Mem} (h : Fx M) : rd M 7 4 = 8 := h.2.2 (7, 4, 8) (List.mem_of_getElem? (i := 13) rfl)
theorem fx_7_5 {M : Mem} (h : Fx M) : rd M 7 5 = 9 := h.2.2 (7, 5, 9) (List.mem_of_getElem? (i := 14) rfl)
theorem fx_7_6 {M : Mem} (h : Fx M) : rd M 7 6 = 10 := h.2.2 (7, 6, 10) (List.mem_of_getElem? (i := 15) rfl)
theorem fx_7_7 {M : Mem} (h : Fx M) : rd M 7 7 = 11 := h.2.2 (7, 7, 11) (List.mem_of_getElem? (i := 16) rfl)
theorem fx_7_8 {M : Mem} (h : Fx M) : rd M 7 8 = 12 := h.2.2 (7, 8, 12) (List.mem_of_getElem? (i := 17) rfl)
theorem fx_7_9 {M : Mem} (h : Fx M) : rd M 7 9 = 13 := h.2.2 (7, 9, 13) (List.mem_of_getElem? (i := 18) rfl)
theorem fx_7_10 {M : Mem} (h : Fx M) : rd M 7 10 = 14 := h.2.2 (7, 10, 14) (List.mem_of_getElem? (i := 19) rfl)
theorem fx_7_11 {M : Mem} (h : Fx M) : rd M 7 11 = 15 := h.2.2 (7, 11, 15) (List.mem_of_getElem? (i := 20) rfl)
theorem fx_15_1 {M : Mem} (h : Fx M) : rd M 15 1 = 16 := h.2.2 (15, 1, 16) (List.mem_of_getElem? (i := 21) rfl)
theorem fx_15_2 {M : Mem} (h : Fx M) : rd M 15 2 = 17 := h.2.2 (15, 2, 17) (List.mem_of_getElem? (i := 22) rfl)
theorem fx_15_3 {M : Mem} (h : Fx M) : rd M 15 3 = 18 := h.2.2 (15, 3, 18) (List.mem_of_getElem? (i := 23) rfl)
theorem fx_15_4 {M : Mem} (h : Fx M) : rd M 15 4 = 19 := h.2.2 (15, 4, 19) (List.mem_of_getElem? (i := 24) rfl)
theorem fx_15_5 {M : Mem} (h : Fx M) : rd M 15 5 = 20 := h.2.2 (15, 5, 20) (List.mem_of_getElem? (i := 25) rfl)
theorem fx_15_6 {M : Mem} (h : Fx M) : rd M 15 6 = 21 := h.2.2 (15, 6, 21) (List.mem_of_getElem? (i := 26) rfl)
theorem fx_15_7 {M : Mem} (h : Fx M) : rd M 15 7 = 22 := h.2.2 (15, 7, 22) (List.mem_of_getElem? (i := 27) rfl)
theorem fx_15_8 {M : Mem} (h : Fx M) : rd M 15 8 = 23 := h.2.2 (15, 8, 23) (List.mem_of_getElem? (i := 28) rfl)
theorem fx_15_9 {M : Mem} (h : Fx M) : rd M 15 9 = 24 := h.2.2 (15, 9, 24) (List.mem_of_getElem? (i := 29) rfl)
theorem fx_15_10 {M : Mem} (h : Fx M) : rd M 15 10 = 25 := h.2.2 (15, 10, 25) (List.mem_of_getElem? (i := 30) rfl)
theorem fx_15_12 {M : Mem} (h : Fx M) : rd M 15 12 = 26 := h.2.2 (15, 12, 26) (List.mem_of_getElem? (i := 31) rfl)
theorem fx_27_4 {M : Mem} (h : Fx M) : rd M 27 4 = 28 := h.2.2 (27, 4, 28) (List.mem_of_getElem? (i := 32) rfl)
theorem fx_27_5 {M : Mem} (h : Fx M) : rd M 27 5 = 29 := h.2.2 (27, 5, 29) (List.mem_of_getElem? (i := 33) rfl)
theorem fx_27_6 {M : Mem} (h : Fx M) : rd M 27 6 = 30 := h.2.2 (27, 6, 30) (List.mem_of_getElem? (i := 34) rfl)
theorem fx_27_7 {M : Mem} (h : Fx M) : rd M 27 7 = 31 := h.2.2 (27, 7, 31) (List.mem_of_getElem? (i := 35) rfl)
theorem fx_27_8 {M : Mem} (h : Fx M) : rd M 27 8 = 32 := h.2.2 (27, 8, 32) (List.mem_of_getElem? (i := 36) rfl)
theorem fx_27_9 {M : Mem} (h : Fx M) : rd M 27 9 = 33 := h.2.2 (27, 9, 33) (List.mem_of_getElem? (i := 37) rfl)
theorem fx_27_10 {M : Mem} (h : Fx M) : rd M 27 10 = 34 := h.2.2 (27, 10, 34) (List.mem_of_getElem? (i := 38) rfl)
theorem fx_27_11 {M : Mem} (h : Fx M) : rd M 27 11 = 35 := h.2.2 (27, 11, 35) (List.mem_of_getElem? (i := 39) rfl)
theorem fx_35_1 {M : Mem} (h : Fx M) : rd M 35 1 = 36 := h.2.2 (35, 1, 36) (List.mem_of_getElem? (i := 40) rfl)
theorem fx_35_2 {M : Mem} (h : Fx M) : rd M 35 2 = 37 := h.2.2 (35, 2, 37) (List.mem_of_getElem? (i := 41) rfl)
theorem fx_35_3 {M : Mem} (h : Fx M) : rd M 35 3 = 38 := h.2.2 (35, 3, 38) (List.mem_of_getElem? (i := 42) rfl)
theorem fx_35_4 {M : Mem} (h : Fx M) : rd M 35 4 = 39 := h.2.2 (35, 4, 39) (List.mem_of_getElem? (i := 43) rfl)
theorem fx_35_5 {M : Mem} (h : Fx M) : rd M 35 5 = 40 := h.2.2 (35, 5, 40) (List.mem_of_getElem? (i := 44) rfl)
theorem fx_35_6 {M : Mem} (h : Fx M) : rd M 35 6 = 41 := h.2.2 (35, 6, 41) (List.mem_of_getElem? (i := 45) rfl)
theorem fx_35_7 {M : Mem} (h : Fx M) : rd M 35 7 = 42 := h.2.2 (35, 7, 42) (List.mem_of_getElem? (i := 46) rfl)
theorem fx_35_8 {M : Mem} (h : Fx M) : rd M 35 8 = 43 := h.2.2 (35, 8, 43) (List.mem_of_getElem? (i := 47) rfl)
theorem fx_35_9 {M : Mem} (h : Fx M) : rd M 35 9 = 44 := h.2.2 (35, 9, 44) (List.mem_of_getElem? (i := 48) rfl)
theorem fx_35_10 {M : Mem} (h : Fx M) : rd M 35 10 = 45 := h.2.2 (35, 10, 45) (List.mem_of_getElem? (i := 49) rfl)
theorem fx_35_12 {M : Mem} (h : Fx M) : rd M 35 12 = 46 := h.2.2 (35, 12, 46) (List.mem_of_getElem? (i := 50) rfl)
theorem fx_48_0 {M : Mem} (h : Fx M) : rd M 48 0 = 56 := h.2.2 (48, 0, 56) (List.mem_of_getElem? (i := 51) rfl)
theorem fx_48_2 {M : Mem} (h : Fx M) : rd M 48 2 = 49 := h.2.2 (48, 2, 49) (List.mem_of_getElem? (i := 52) rfl)
theorem fx_48_3 {M : Mem} (h : Fx M) : rd M 48 3 = 50 := h.2.2 (48, 3, 50) (List.mem_of_getElem? (i := 53) rfl)
theorem fx_48_4 {M : Mem} (h : Fx M) : rd M 48 4 = 51 := h.2.2 (48, 4, 51) (List.mem_of_getElem? (i := 54) rfl)
theorem fx_48_5 {M : Mem} (h : Fx M) : rd M 48 5 = 52 := h.2.2 (48, 5, 52) (List.mem_of_getElem? (i := 55) rfl)
theorem fx_48_6 {M : Mem} (h : Fx M) : rd M 48 6 = 53 := h.2.2 (48, 6, 53) (List.mem_of_getElem? (i := 56) rfl)
theorem fx_48_7 {M : Mem} (h : Fx M) : rd M 48 7 = 54 := h.2.2 (48, 7, 54) (List.mem_of_getElem? (i := 57) rfl)
theorem fx_48_8 {M : Mem} (h : Fx M) : rd M 48 8 = 55 := h.2.2 (48, 8, 55) (List.mem_of_getElem? (i := 58) rfl)
theorem fx_56_0 {M : Mem} (h : Fx M) : rd M 56 0 = 1 := h.2.2 (56, 0, 1) (List.mem_of_getElem? (i := 59) rfl)
theorem fx_56_2 {M : Mem} (h : Fx M) : rd M 56 2 = 57 := h.2.2 (56, 2, 57) (List.mem_of_getElem? (i := 60) rfl)
theorem fx_56_3 {M : Mem} (h : Fx M) : rd M 56 3 = 58 := h.2.2 (56, 3, 58) (List.mem_of_getElem? (i := 61) rfl)
theorem fx_56_4 {M : Mem} (h : Fx M) : rd M 56 4 = 59 := h.2.2 (56, 4, 59) (List.mem_of_getElem? (i := 62) rfl)
theorem fx_56_5 {M : Mem} (h : Fx M) : rd M 56 5 = 60 := h.2.2 (56, 5, 60) (List.mem_of_getElem? (i := 63) rfl)
theorem fx_56_6 {M : Mem} (h : Fx M) : rd M 56 6 = 61 := h.2.2 (56, 6, 61) (List.mem_of_getElem? (i := 64) rfl)
theorem fx_56_7 {M : Mem} (h : Fx M) : rd M 56 7 = 62 := h.2.2 (56, 7, 62) (List.mem_of_getElem? (i := 65) rfl)
theorem fx_56_8 {M : Mem} (h : Fx M) : rd M 56 8 = 63 := h.2.2 (56, 8, 63) (List.mem_of_getElem? (i := 66) rfl)
theorem fx_63_6 {M : Mem} (h : Fx M) : rd M 63 6 = 69 := h.2.2 (63, 6, 69) (List.mem_of_getElem? (i := 67) rfl)
theorem fx_74_0 {M : Mem} (h : Fx M) : rd M 74 0 = 82 := h.2.2 (74, 0, 82) (List.mem_of_getElem? (i := 68) rfl)
theorem fx_74_2 {M : Mem} (h : Fx M) : rd M 74 2 = 75 := h.2.2 (74, 2, 75) (List.mem_of_getElem? (i := 69) rfl)
theorem fx_74_3 {M : Mem} (h : Fx M) : rd M 74 3 = 76 := h.2.2 (74, 3, 76) (List.mem_of_getElem? (i := 70) rfl)
theorem fx_74_4 {M : Mem} (h : Fx M) : rd M 74 4 = 77 := h.2.2 (74, 4, 77) (List.mem_of_getElem? (i := 71) rfl)
theorem fx_74_5 {M : Mem} (h : Fx M) : rd M 74 5 = 78 := h.2.2 (74, 5, 78) (List.mem_of_getElem? (i := 72) rfl)
theorem fx_74_6 {M : Mem} (h : Fx M) : rd M 74 6 = 79 := h.2.2 (74, 6, 79) (List.mem_of_getElem? (i := 73) rfl)
theorem fx_74_7 {M : Mem} (h : Fx M) : rd M 74 7 = 80 := h.2.2 (74, 7, 80) (List.mem_of_getElem? (i := 74) rfl)
theorem fx_74_8 {M : Mem} (h : Fx M) : rd M 74 8 = 81 := h.2.2 (74, 8, 81) (List.mem_of_getElem? (i := 75) rfl)
theorem fx_82_0 {M : Mem} (h : Fx M) : rd M 82 0 = 0 := h.2.2 (82, 0, 0) (List.mem_of_getElem? (i := 76) rfl)
theorem fx_82_2 {M : Mem} (h : Fx M) : rd M 82 2 = 83 := h.2.2 (82, 2, 83) (List.mem_of_getElem? (i := 77) rfl)
theorem fx_82_3 {M : Mem} (h : Fx M) : rd M 82 3 = 84 := h.2.2 (82, 3, 84) (List.mem_of_getElem? (i := 78) rfl)
theorem fx_82_4 {M : Mem} (h : Fx M) : rd M 82 4 = 85 := h.2.2 (82, 4, 85) (List.mem_of_getElem? (i := 79) rfl)
theorem fx_82_5 {M : Mem} (h : Fx M) : rd M 82 5 = 86 := h.2.2 (82, 5, 86) (List.mem_of_getElem? (i := 80) rfl)
theorem fx_82_6 {M : Mem} (h : Fx M) : rd M 82 6 = 87 := h.2.2 (82, 6, 87) (List.mem_of_getElem? (i := 81) rfl)
theorem fx_82_7 {M : Mem} (h : Fx M) : rd M 82 7 = 88 := h.2.2 (82, 7, 88) (List.mem_of_getElem? (i := 82) rfl)
theorem fx_82_8 {M : Mem} (h : Fx M) : rd M 82 8 = 89 := h.2.2 (82, 8, 89) (List.mem_of_getElem? (i := 83) rfl)
theorem fx_89_6 {M : Mem} (h : Fx M) : rd M 89 6 = 95 := h.2.2 (89, 6, 95) (List.mem_of_getElem? (i := 84) rfl)
theorem fx_100_0 {M : Mem} (h : Fx M) : rd M 100 0 = 101 := h.2.2 (100, 0, 101) (List.mem_of_getElem? (i := 85) rfl)
theorem fx_100_1 {M : Mem} (h : Fx M) : rd M 100 1 = 102 := h.2.2 (100, 1, 102) (List.mem_of_getElem? (i := 86) rfl)
theorem fx_103_4 {M : Mem} (h : Fx M) : rd M 103 4 = 104 := h.2.2 (103, 4, 104) (List.mem_of_getElem? (i := 87) rfl)
theorem fx_103_5 {M : Mem} (h : Fx M) : rd M 103 5 = 105 := h.2.2 (103, 5, 105) (List.mem_of_getElem? (i := 88) rfl)
theorem fx_103_6 {M : Mem} (h : Fx M) : rd M 103 6 = 106 := h.2.2 (103, 6, 106) (List.mem_of_getElem? (i := 89) rfl)
theorem fx_107_2 {M : Mem} (h : Fx M) : rd M 107 2 = 108 := h.2.2 (107, 2, 108) (List.mem_of_getElem? (i := 90) rfl)
theorem fx_107_3 {M : Mem} (h : Fx M) : rd M 107 3 = 109 := h.2.2 (107, 3, 109) (List.mem_of_getElem? (i := 91) rfl)
theorem fx_107_4 {M : Mem} (h : Fx M) : rd M 107 4 = 110 := h.2.2 (107, 4, 110) (List.mem_of_getElem? (i := 92) rfl)
theorem fx_107_5 {M : Mem} (h : Fx M) : rd M 107 5 = 111 := h.2.2 (107, 5, 111) (List.mem_of_getElem? (i := 93) rfl)
theorem fx_107_6 {M : Mem} (h : Fx M) : rd M 107 6 = 112 := h.2.2 (107, 6, 112) (List.mem_of_getElem? (i := 94) rfl)
theorem fx_113_1 {M : Mem} (h : Fx M) : rd M 113 1 = 114 := h.2.2 (113, 1, 114) (List.mem_of_getElem? (i := 95) rfl)
theorem fx_113_2 {M : Mem} (h : Fx M) : rd M 113 2 = 115 := h.2.2 (113, 2, 115) (List.mem_of_getElem? (i := 96) rfl)
theorem fx_113_3 {M : Mem} (h : Fx M) : rd M 113 3 = 116 := h.2.2 (113, 3, 116) (List.mem_of_getElem? (i := 97) rfl)
theorem fx_113_4 {M : Mem} (h : Fx M) : rd M 113 4 = 117 := h.2.2 (113, 4, 117) (List.mem_of_getElem? (i := 98) rfl)
theorem fx_113_5 {M : Mem} (h : Fx M) : rd M 113 5 = 118 := h.2.2 (113, 5, 118) (List.mem_of_getElem? (i := 99) rfl)
theorem fx_113_6 {M : Mem} (h : Fx M) : rd M 113 6 = 119 := h.2.2 (113, 6, 119) (List.mem_of_getElem? (i := 100) rfl)
theorem fx_120_0 {M : Mem} (h : Fx M) : rd M 120 0 = 121 := h.2.2 (120, 0, 121) (List.mem_of_getElem? (i := 101) rfl)
theorem fx_120_13 {M : Mem} (h : Fx M) : rd M 120 13 = 122 := h.2.2 (120, 13, 122) (List.mem_of_getElem? (i := 102) rfl)
theorem fx_120_14 {M : Mem} (h : Fx M) : rd M 120 14 = 123 := h.2.2 (120, 14, 123) (List.mem_of_getElem? (i := 103) rfl)
theorem fx_120_15 {M : Mem} (h : Fx M) : rd M 120 15 = 124 := h.2.2 (120, 15, 124) (List.mem_of_getElem? (i := 104) rfl)
theorem fx_120_16 {M : Mem} (h : Fx M) : rd M 120 16 = 125 := h.2.2 (120, 16, 125) (List.mem_of_getElem? (i := 105) rfl)
theorem fx_120_17 {M : Mem} (h : Fx M) : rd M 120 17 = 126 := h.2.2 (120, 17, 126) (List.mem_of_getElem? (i := 106) rfl)
theorem fx_120_18 {M : Mem} (h : Fx M) : rd M 120 18 = 127 := h.2.2 (120, 18, 127) (List.mem_of_getElem? (i := 107) rfl)
theorem fx_120_19 {M : Mem} (h : Fx M) : rd M 120 19 = 128 := h.2.2 (120, 19, 128) (List.mem_of_getElem? (i := 108) rfl)
theorem fx_120_20 {M : Mem} (h : Fx M) : rd M 120 20 = 129 := h.2.2 (120, 20, 129) (List.mem_of_getElem? (i := 109) rfl)
theorem fx_120_21 {M : Mem} (h : Fx M) : rd M 120 21 = 130 := h.2.2 (120, 21, 130) (List.mem_of_getElem? (i := 110) rfl)
theorem fx_120_22 {M : Mem} (h : Fx M) : rd M 120 22 = 131 := h.2.2 (120, 22, 131) (List.mem_of_getElem? (i := 111) rfl)
theorem fx_120_23 {M : Mem} (h : Fx M) : rd M 120 23 = 132 := h.2.2 (120, 23, 132) (List.mem_of_getElem? (i := 112) rfl)
theorem fx_120_24 {M : Mem} (h : Fx M) : rd M 120 24 = 133 := h.2.2 (120, 24, 133) (List.mem_of_getElem? (i := 113) rfl)
theorem fx_120_25 {M : Mem} (h : Fx M) : rd M 120 25 = 134 := h.2.2 (120, 25, 134) (List.mem_of_getElem? (i := 114) rfl)
theorem fx_120_26 {M : Mem} (h : Fx M) : rd M 120 26 = 135 := h.2.2 (120, 26, 135) (List.mem_of_getElem? (i := 115) rfl)
theorem fx_120_27 {M : Mem} (h : Fx M) : rd M 120 27 = 136 := h.2.2 (120, 27, 136) (List.mem_of_getElem? (i := 116) rfl)
theorem fx_120_28 {M : Mem} (h : Fx M) : rd M 120 28 = 137 := h.2.2 (120, 28, 137) (List.mem_of_getElem? (i := 117) rfl)
theorem fx_120_29 {M : Mem} (h : Fx M) : rd M 120 29 = 138 := h.2.2 (120, 29, 138) (List.mem_of_getElem? (i := 118) rfl)
theorem fx_120_30 {M : Mem} (h : Fx M) : rd M 120 30 = 139 := h.2.2 (120, 30, 139) (List.mem_of_getElem? (i := 119) rfl)
theorem fx_120_31 {M : Mem} (h : Fx M) : rd M 120 31 = 140 := h.2.2 (120, 31, 140) (List.mem_of_getElem? (i := 120) rfl)
theorem fx_120_32 {M : Mem} (h : Fx M) : rd M 120 32 = 141 := h.2.2 (120, 32, 141) (List.mem_of_getElem? (i := 121) rfl)
theorem fx_120_33 {M : Mem} (h : Fx M) : rd M 120 33 = 142 := h.2.2 (120, 33, 142) (List.mem_of_getElem? (i := 122) rfl)
theorem fx_120_34 {M : Mem} (h : Fx M) : rd M 120 34 = 143 := h.2.2 (120, 34, 143) (List.mem_of_getElem? (i := 123) rfl)
theorem fx_120_35 {M : Mem} (h : Fx M) : rd M 120 35 = 144 := h.2.2 (120, 35, 144) (List.mem_of_getElem? (i := 124) rfl)
theorem fx_120_38 {M : Mem} (h : Fx M) : rd M 120 38 = 145 := h.2.2 (120, 38, 145) (List.mem_of_getElem? (i := 125) rfl)
theorem fx_120_39 {M : Mem} (h : Fx M) : rd M 120 39 = 146 := h.2.2 (120, 39, 146) (List.mem_of_getElem? (i := 126) rfl)
theorem fx_120_40 {M : Mem} (h : Fx M) : rd M 120 40 = 147 := h.2.2 (120, 40, 147) (List.mem_of_getElem? (i := 127) rfl)
theorem fx_120_41 {M : Mem} (h : Fx M) : rd M 120 41 = 148 := h.2.2 (120, 41, 148) (List.mem_of_getElem? (i := 128) rfl)
theorem fx_120_42 {M : Mem} (h : Fx M) : rd M 120 42 = 149 := h.2.2 (120, 42, 149) (List.mem_of_getElem? (i := 129) rfl)
theorem fx_120_45 {M : Mem} (h : Fx M) : rd M 120 45 = 150 := h.2.2 (120, 45, 150) (List.mem_of_getElem? (i := 130) rfl)
theorem fx_120_48 {M : Mem} (h : Fx M) : rd M 120 48 = 151 := h.2.2 (120, 48, 151) (List.mem_of_getElem? (i := 131) rfl)
theorem fx_120_49 {M : Mem} (h : Fx M) : rd M 120 49 = 152 := h.2.2 (120, 49, 152) (List.mem_of_getElem? (i := 132) rfl)
theorem fx_120_51 {M : Mem} (h : Fx M) : rd M 120 51 = 153 := h.2.2 (120, 51, 153) (List.mem_of_getElem? (i := 133) rfl)
theorem fx_120_52 {M : Mem} (h : Fx M) : rd M 120 52 = 154 := h.2.2 (120, 52, 154) (List.mem_of_getElem? (i := 134) rfl)
theorem fx_120_53 {M : Mem} (h : Fx M) : rd M 120 53 = 155 := h.2.2 (120, 53, 155) (List.mem_of_getElem? (i := 135) rfl)
theorem fx_120_54 {M : Mem} (h : Fx M) : rd M 120 54 = 156 := h.2.2 (120, 54, 156) (List.mem_of_getElem? (i := 136) rfl)
theorem fx_120_55 {M : Mem} (h : Fx M) : rd M 120 55 = 157 := h.2.2 (120, 55, 157) (List.mem_of_getElem? (i := 137) rfl)
theorem fx_120_56 {M : Mem} (h : Fx M) : rd M 120 56 = 158 := h.2.2 (120, 56, 158) (List.mem_of_getElem? (i := 138) rfl)
theorem fx_120_57 {M : Mem} (h : Fx M) : rd M 120 57 = 159 := h.2.2 (120, 57, 159) (List.mem_of_getElem? (i := 139) rfl)
theorem fx_120_58 {M : Mem} (h : Fx M) : rd M 120 58 = 160 := h.2.2 (120, 58, 160) (List.mem_of_getElem? (i := 140) rfl)
theorem fx_120_69 {M : Mem} (h : Fx M) : rd M 120 69 = 161 := h.2.2 (120, 69, 161) (List.mem_of_getElem? (i := 141) rfl)
theorem fx_120_71 {M : Mem} (h : Fx M) : rd M 120 71 = 162 := h.2.2 (120, 71, 162) (List.mem_of_getElem? (i := 142) rfl)
theorem fx_120_72 {M : Mem} (h : Fx M) : rd M 120 72 = 163 := h.2.2 (120, 72, 163) (List.mem_of_getElem? (i := 143) rfl)
theorem fx_120_73 {M : Mem} (h : Fx M) : rd M 120 73 = 164 := h.2.2 (120, 73, 164) (List.mem_of_getElem? (i := 144) rfl)
theorem fx_120_74 {M : Mem} (h : Fx M) : rd M 120 74 = 165 := h.2.2 (120, 74, 165) (List.mem_of_getElem? (i := 145) rfl)
theorem fx_120_76 {M : Mem} (h : Fx M) : rd M 120 76 = 166 := h.2.2 (120, 76, 166) (List.mem_of_getElem? (i := 146) rfl)
theorem fx_120_77 {M : Mem} (h : Fx M) : rd M 120 77 = 167 := h.2.2 (120, 77, 167) (List.mem_of_getElem? (i := 147) rfl)
theorem fx_120_78 {M : Mem} (h : Fx M) : rd M 120 78 = 168 := h.2.2 (120, 78, 168) (List.mem_of_getElem? (i := 148) rfl)
theorem fx_120_80 {M : Mem} (h : Fx M) : rd M 120 80 = 169 := h.2.2 (120, 80, 169) (List.mem_of_getElem? (i := 149) rfl)
theorem fx_120_81 {M : Mem} (h : Fx M) : rd M 120 81 = 170 := h.2.2 (120, 81, 170) (List.mem_of_getElem? (i := 150) rfl)
theorem fx_120_82 {M : Mem} (h : Fx M) : rd M 120 82 = 171 := h.2.2 (120, 82, 171) (List.mem_of_getElem? (i := 151) rfl)
theorem fx_120_83 {M : Mem} (h : Fx M) : rd M 120 83 = 172 := h.2.2 (120, 83, 172) (List.mem_of_getElem? (i := 152) rfl)
theorem fx_120_92 {M : Mem} (h : Fx M) : rd M 120 92 = 173 := h.2.2 (120, 92, 173) (List.mem_of_getElem? (i := 153) rfl)
theorem fx_120_93 {M : Mem} (h : Fx M) : rd M 120 93 = 174 := h.2.2 (120, 93, 174) (List.mem_of_getElem? (i := 154) rfl)
theorem fx_120_94 {M : Mem} (h : Fx M) : rd M 120 94 = 175 := h.2.2 (120, 94, 175) (List.mem_of_getElem? (i := 155) rfl)
theorem fx_120_100 {M : Mem} (h : Fx M) : rd M 120 100 = 176 := h.2.2 (120, 100, 176) (List.mem_of_getElem? (i := 156) rfl)
theorem fx_120_102 {M : Mem} (h : Fx M) : rd M 120 102 = 177 := h.2.2 (120, 102, 177) (List.mem_of_getElem? (i := 157) rfl)
theorem fx_120_103 {M : Mem} (h : Fx M) : rd M 120 103 = 178 := h.2.2 (120, 103, 178) (List.mem_of_getElem? (i := 158) rfl)
theorem fx_120_105 {M : Mem} (h : Fx M) : rd M 120 105 = 179 := h.2.2 (120, 105, 179) (List.mem_of_getElem? (i := 159) rfl)
theorem fx_120_107 {M : Mem} (h : Fx M) : rd M 120 107 = 180 := h.2.2 (120, 107, 180) (List.mem_of_getElem? (i := 160) rfl)
theorem fx_120_108 {M : Mem} (h : Fx M) : rd M 120 108 = 181 := h.2.2 (120, 108, 181) (List.mem_of_getElem? (i := 161) rfl)
theorem fx_120_110 {M : Mem} (h : Fx M) : rd M 120 110 = 182 := h.2.2 (120, 110, 182) (List.mem_of_getElem? (i := 162) rfl)
theorem fx_120_111 {M : Mem} (h : Fx M) : rd M 120 111 = 183 := h.2.2 (120, 111, 183) (List.mem_of_getElem? (i := 163) rfl)
theorem fx_120_112 {M : Mem} (h : Fx M) : rd M 120 112 = 184 := h.2.2 (120, 112, 184) (List.mem_of_getElem? (i := 164) rfl)
theorem fx_120_114 {M : Mem} (h : Fx M) : rd M 120 114 = 185 := h.2.2 (120, 114, 185) (List.mem_of_getElem? (i := 165) rfl)
theorem fx_120_115 {M : Mem} (h : Fx M) : rd M 120 115 = 186 := h.2.2 (120, 115, 186) (List.mem_of_getElem? (i := 166) rfl)
theorem fx_120_116 {M : Mem} (h : Fx M) : rd M 120 116 = 187 := h.2.2 (120, 116, 187) (List.mem_of_getElem? (i := 167) rfl)
theorem fx_120_118 {M : Mem} (h : Fx M) : rd M 120 118 = 188 := h.2.2 (120, 118, 188) (List.mem_of_getElem? (i := 168) rfl)
theorem fx_120_119 {M : Mem} (h : Fx M) : rd M 120 119 = 189 := h.2.2 (120, 119, 189) (List.mem_of_getElem? (i := 169) rfl)
theorem fx_120_120 {M : Mem} (h : Fx M) : rd M 120 120 = 190 := h.2.2 (120, 120, 190) (List.mem_of_getElem? (i := 170) rfl)
theorem ty_0 {M : Mem} (h : Fx M) : mT M 0 = (11, 14) := by rw [h.1 0 (by decide)]; decide +kernel
theorem ty_1 {M : Mem} (h : Fx M) : mT M 1 = (22, 900) := by rw [h.1 1 (by decide)]; decide +kernel
theorem ty_2 {M : Mem} (h : Fx M) : mT M 2 = (7, 6) := by rw [h.1 2 (by decide)]; decide +kernel
theorem ty_3 {M : Mem} (h : Fx M) : mT M 3 = (20, 901) := by rw [h.1 3 (by decide)]; decide +kernel
theorem ty_4 {M : Mem} (h : Fx M) : mT M 4 = (20, 901) := by rw [h.1 4 (by decide)]; decide +kernel
theorem ty_5 {M : Mem} (h : Fx M) : mT M 5 = (20, 901) := by rw [h.1 5 (by decide)]; decide +kernel
theorem ty_6 {M : Mem} (h : Fx M) : mT M 6 = (5, 7) := by rw [h.1 6 (by decide)]; decide +kernel
theorem ty_7 {M : Mem} (h : Fx M) : mT M 7 = (3, 12) := by rw [h.1 7 (by decide)]; decide +kernel
theorem ty_8 {M : Mem} (h : Fx M) : mT M 8 = (20, 3) := by rw [h.1 8 (by decide)]; decide +kernel
theorem ty_9 {M : Mem} (h : Fx M) : mT M 9 = (20, 24) := by rw [h.1 9 (by decide)]; decide +kernel
theorem ty_10 {M : Mem} (h : Fx M) : mT M 10 = (20, 6) := by rw [h.1 10 (by decide)]; decide +kernel
theorem ty_11 {M : Mem} (h : Fx M) : mT M 11 = (20, 6) := by rw [h.1 11 (by decide)]; decide +kernel
theorem ty_12 {M : Mem} (h : Fx M) : mT M 12 = (20, 3) := by rw [h.1 12 (by decide)]; decide +kernel
theorem ty_13 {M : Mem} (h : Fx M) : mT M 13 = (20, 3) := by rw [h.1 13 (by decide)]; decide +kernel
theorem ty_14 {M : Mem} (h : Fx M) : mT M 14 = (20, 15) := by rw [h.1 14 (by decide)]; decide +kernel
theorem ty_15 {M : Mem} (h : Fx M) : mT M 15 = (4, 13) := by rw [h.1 15 (by decide)]; decide +kernel
theorem ty_16 {M : Mem} (h : Fx M) : mT M 16 = (20, 60) := by rw [h.1 16 (by decide)]; decide +kernel
theorem ty_17 {M : Mem} (h : Fx M) : mT M 17 = (20, 60) := by rw [h.1 17 (by decide)]; decide +kernel
theorem ty_18 {M : Mem} (h : Fx M) : mT M 18 = (20, 61) := by rw [h.1 18 (by decide)]; decide +kernel
theorem ty_19 {M : Mem} (h : Fx M) : mT M 19 = (20, 60) := by rw [h.1 19 (by decide)]; decide +kernel
theorem ty_20 {M : Mem} (h : Fx M) : mT M 20 = (20, 60) := by rw [h.1 20 (by decide)]; decide +kernel
theorem ty_21 {M : Mem} (h : Fx M) : mT M 21 = (20, 60) := by rw [h.1 21 (by decide)]; decide +kernel
theorem ty_22 {M : Mem} (h : Fx M) : mT M 22 = (20, 60) := by rw [h.1 22 (by decide)]; decide +kernel
theorem ty_23 {M : Mem} (h : Fx M) : mT M 23 = (20, 60) := by rw [h.1 23 (by decide)]; decide +kernel
theorem ty_24 {M : Mem} (h : Fx M) : mT M 24 = (20, 900) := by rw [h.1 24 (by decide)]; decide +kernel
theorem ty_25 {M : Mem} (h : Fx M) : mT M 25 = (20, 900) := by rw [h.1 25 (by decide)]; decide +kernel
theorem ty_26 {M : Mem} (h : Fx M) : mT M 26 = (20, 61) := by rw [h.1 26 (by decide)]; decide +kernel
theorem ty_27 {M : Mem} (h : Fx M) : mT M 27 = (3, 12) := by rw [h.1 27 (by decide)]; decide +kernel
theorem ty_28 {M : Mem} (h : Fx M) : mT M 28 = (20, 3) := by rw [h.1 28 (by decide)]; decide +kernel
theorem ty_29 {M : Mem} (h : Fx M) : mT M 29 = (20, 24) := by rw [h.1 29 (by decide)]; decide +kernel
theorem ty_30 {M : Mem} (h : Fx M) : mT M 30 = (20, 6) := by rw [h.1 30 (by decide)]; decide +kernel
theorem ty_31 {M : Mem} (h : Fx M) : mT M 31 = (20, 6) := by rw [h.1 31 (by decide)]; decide +kernel
theorem ty_32 {M : Mem} (h : Fx M) : mT M 32 = (20, 3) := by rw [h.1 32 (by decide)]; decide +kernel
theorem ty_33 {M : Mem} (h : Fx M) : mT M 33 = (20, 3) := by rw [h.1 33 (by decide)]; decide +kernel
theorem ty_34 {M : Mem} (h : Fx M) : mT M 34 = (20, 15) := by rw [h.1 34 (by decide)]; decide +kernel
theorem ty_35 {M : Mem} (h : Fx M) : mT M 35 = (4, 13) := by rw [h.1 35 (by decide)]; decide +kernel
theorem ty_36 {M : Mem} (h : Fx M) : mT M 36 = (20, 60) := by rw [h.1 36 (by decide)]; decide +kernel
theorem ty_37 {M : Mem} (h : Fx M) : mT M 37 = (20, 60) := by rw [h.1 37 (by decide)]; decide +kernel
theorem ty_38 {M : Mem} (h : Fx M) : mT M 38 = (20, 61) := by rw [h.1 38 (by decide)]; decide +kernel
theorem ty_39 {M : Mem} (h : Fx M) : mT M 39 = (20, 60) := by rw [h.1 39 (by decide)]; decide +kernel
theorem ty_40 {M : Mem} (h : Fx M) : mT M 40 = (20, 60) := by rw [h.1 40 (by decide)]; decide +kernel
theorem ty_41 {M : Mem} (h : Fx M) : mT M 41 = (20, 60) := by rw [h.1 41 (by decide)]; decide +kernel
theorem ty_42 {M : Mem} (h : Fx M) : mT M 42 = (20, 60) := by rw [h.1 42 (by decide)]; decide +kernel
theorem ty_43 {M : Mem} (h : Fx M) : mT M 43 = (20, 60) := by rw [h.1 43 (by decide)]; decide +kernel
theorem ty_44 {M : Mem} (h : Fx M) : mT M 44 = (20, 900) := by rw [h.1 44 (by decide)]; decide +kernel
theorem ty_45 {M : Mem} (h : Fx M) : mT M 45 = (20, 900) := by rw [h.1 45 (by decide)]; decide +kernel
theorem ty_46 {M : Mem} (h : Fx M) : mT M 46 = (20, 61) := by rw [h.1 46 (by decide)]; decide +kernel
theorem ty_47 {M : Mem} (h : Fx M) : mT M 47 = (20, 3) := by rw [h.1 47 (by decide)]; decide +kernel
theorem ty_48 {M : Mem} (h : Fx M) : mT M 48 = (6, 18) := by rw [h.1 48 (by decide)]; decide +kernel
theorem ty_49 {M : Mem} (h : Fx M) : mT M 49 = (20, 3) := by rw [h.1 49 (by decide)]; decide +kernel
theorem ty_50 {M : Mem} (h : Fx M) : mT M 50 = (20, 6) := by rw [h.1 50 (by decide)]; decide +kernel
theorem ty_51 {M : Mem} (h : Fx M) : mT M 51 = (20, 64) := by rw [h.1 51 (by decide)]; decide +kernel
theorem ty_52 {M : Mem} (h : Fx M) : mT M 52 = (20, 8) := by rw [h.1 52 (by decide)]; decide +kernel
theorem ty_53 {M : Mem} (h : Fx M) : mT M 53 = (20, 6) := by rw [h.1 53 (by decide)]; decide +kernel
theorem ty_54 {M : Mem} (h : Fx M) : mT M 54 = (20, 6) := by rw [h.1 54 (by decide)]; decide +kernel
theorem ty_55 {M : Mem} (h : Fx M) : mT M 55 = (20, 6) := by rw [h.1 55 (by decide)]; decide +kernel
theorem ty_56 {M : Mem} (h : Fx M) : mT M 56 = (1, 9) := by rw [h.1 56 (by decide)]; decide +kernel
theorem ty_57 {M : Mem} (h : Fx M) : mT M 57 = (20, 24) := by rw [h.1 57 (by decide)]; decide +kernel
theorem ty_58 {M : Mem} (h : Fx M) : mT M 58 = (20, 6) := by rw [h.1 58 (by decide)]; decide +kernel
theorem ty_59 {M : Mem} (h : Fx M) : mT M 59 = (20, 6) := by rw [h.1 59 (by decide)]; decide +kernel
theorem ty_60 {M : Mem} (h : Fx M) : mT M 60 = (20, 60) := by rw [h.1 60 (by decide)]; decide +kernel
theorem ty_61 {M : Mem} (h : Fx M) : mT M 61 = (20, 60) := by rw [h.1 61 (by decide)]; decide +kernel
theorem ty_62 {M : Mem} (h : Fx M) : mT M 62 = (20, 60) := by rw [h.1 62 (by decide)]; decide +kernel
theorem ty_63 {M : Mem} (h : Fx M) : mT M 63 = (8, 12) := by rw [h.1 63 (by decide)]; decide +kernel
theorem ty_69 {M : Mem} (h : Fx M) : mT M 69 = (20, 6) := by rw [h.1 69 (by decide)]; decide +kernel
theorem ty_74 {M : Mem} (h : Fx M) : mT M 74 = (6, 18) := by rw [h.1 74 (by decide)]; decide +kernel
theorem ty_75 {M : Mem} (h : Fx M) : mT M 75 = (20, 3) := by rw [h.1 75 (by decide)]; decide +kernel
theorem ty_76 {M : Mem} (h : Fx M) : mT M 76 = (20, 6) := by rw [h.1 76 (by decide)]; decide +kernel
theorem ty_77 {M : Mem} (h : Fx M) : mT M 77 = (20, 64) := by rw [h.1 77 (by decide)]; decide +kernel
theorem ty_78 {M : Mem} (h : Fx M) : mT M 78 = (20, 8) := by rw [h.1 78 (by decide)]; decide +kernel
theorem ty_79 {M : Mem} (h : Fx M) : mT M 79 = (20, 6) := by rw [h.1 79 (by decide)]; decide +kernel
theorem ty_80 {M : Mem} (h : Fx M) : mT M 80 = (20, 6) := by rw [h.1 80 (by decide)]; decide +kernel
theorem ty_81 {M : Mem} (h : Fx M) : mT M 81 = (20, 6) := by rw [h.1 81 (by decide)]; decide +kernel
theorem ty_82 {M : Mem} (h : Fx M) : mT M 82 = (1, 9) := by rw [h.1 82 (by decide)]; decide +kernel
theorem ty_83 {M : Mem} (h : Fx M) : mT M 83 = (20, 24) := by rw [h.1 83 (by decide)]; decide +kernel
theorem ty_84 {M : Mem} (h : Fx M) : mT M 84 = (20, 6) := by rw [h.1 84 (by decide)]; decide +kernel
theorem ty_85 {M : Mem} (h : Fx M) : mT M 85 = (20, 6) := by rw [h.1 85 (by decide)]; decide +kernel
theorem ty_86 {M : Mem} (h : Fx M) : mT M 86 = (20, 60) := by rw [h.1 86 (by decide)]; decide +kernel
theorem ty_87 {M : Mem} (h : Fx M) : mT M 87 = (20, 60) := by rw [h.1 87 (by decide)]; decide +kernel
theorem ty_88 {M : Mem} (h : Fx M) : mT M 88 = (20, 60) := by rw [h.1 88 (by decide)]; decide +kernel
theorem ty_89 {M : Mem} (h : Fx M) : mT M 89 = (8, 12) := by rw [h.1 89 (by decide)]; decide +kernel
theorem ty_95 {M : Mem} (h : Fx M) : mT M 95 = (20, 6) := by rw [h.1 95 (by decide)]; decide +kernel
theorem ty_100 {M : Mem} (h : Fx M) : mT M 100 = (9, 4) := by rw [h.1 100 (by decide)]; decide +kernel
theorem ty_101 {M : Mem} (h : Fx M) : mT M 101 = (21, 256) := by rw [h.1 101 (by decide)]; decide +kernel
theorem ty_102 {M : Mem} (h : Fx M) : mT M 102 = (20, 256) := by rw [h.1 102 (by decide)]; decide +kernel
theorem ty_103 {M : Mem} (h : Fx M) : mT M 103 = (10, 7) := by rw [h.1 103 (by decide)]; decide +kernel
theorem ty_104 {M : Mem} (h : Fx M) : mT M 104 = (20, 3) := by rw [h.1 104 (by decide)]; decide +kernel
theorem ty_105 {M : Mem} (h : Fx M) : mT M 105 = (20, 3) := by rw [h.1 105 (by decide)]; decide +kernel
theorem ty_106 {M : Mem} (h : Fx M) : mT M 106 = (20, 3) := by rw [h.1 106 (by decide)]; decide +kernel
theorem ty_107 {M : Mem} (h : Fx M) : mT M 107 = (2, 7) := by rw [h.1 107 (by decide)]; decide +kernel
theorem ty_108 {M : Mem} (h : Fx M) : mT M 108 = (20, 4) := by rw [h.1 108 (by decide)]; decide +kernel
theorem ty_109 {M : Mem} (h : Fx M) : mT M 109 = (20, 12) := by rw [h.1 109 (by decide)]; decide +kernel
theorem ty_110 {M : Mem} (h : Fx M) : mT M 110 = (20, 12) := by rw [h.1 110 (by decide)]; decide +kernel
theorem ty_111 {M : Mem} (h : Fx M) : mT M 111 = (20, 288) := by rw [h.1 111 (by decide)]; decide +kernel
theorem ty_112 {M : Mem} (h : Fx M) : mT M 112 = (20, 12) := by rw [h.1 112 (by decide)]; decide +kernel
theorem ty_113 {M : Mem} (h : Fx M) : mT M 113 = (0, 8) := by rw [h.1 113 (by decide)]; decide +kernel
theorem ty_114 {M : Mem} (h : Fx M) : mT M 114 = (20, 6) := by rw [h.1 114 (by decide)]; decide +kernel
theorem ty_115 {M : Mem} (h : Fx M) : mT M 115 = (20, 6) := by rw [h.1 115 (by decide)]; decide +kernel
theorem ty_116 {M : Mem} (h : Fx M) : mT M 116 = (20, 6) := by rw [h.1 116 (by decide)]; decide +kernel
theorem ty_117 {M : Mem} (h : Fx M) : mT M 117 = (20, 6) := by rw [h.1 117 (by decide)]; decide +kernel
theorem ty_118 {M : Mem} (h : Fx M) : mT M 118 = (20, 6) := by rw [h.1 118 (by decide)]; decide +kernel
theorem ty_119 {M : Mem} (h : Fx M) : mT M 119 = (20, 6) := by rw [h.1 119 (by decide)]; decide +kernel
theorem ty_120 {M : Mem} (h : Fx M) : mT M 120 = (12, 121) := by rw [h.1 120 (by decide)]; decide +kernel
theorem ty_121 {M : Mem} (h : Fx M) : mT M 121 = (20, 900) := by rw [h.1 121 (by decide)]; decide +kernel
theorem ty_122 {M : Mem} (h : Fx M) : mT M 122 = (20, 2) := by rw [h.1 122 (by decide)]; decide +kernel
theorem ty_123 {M : Mem} (h : Fx M) : mT M 123 = (20, 2) := by rw [h.1 123 (by decide)]; decide +kernel
theorem ty_124 {M : Mem} (h : Fx M) : mT M 124 = (20, 2) := by rw [h.1 124 (by decide)]; decide +kernel
theorem ty_125 {M : Mem} (h : Fx M) : mT M 125 = (20, 2) := by rw [h.1 125 (by decide)]; decide +kernel
theorem ty_126 {M : Mem} (h : Fx M) : mT M 126 = (20, 2) := by rw [h.1 126 (by decide)]; decide +kernel
theorem ty_127 {M : Mem} (h : Fx M) : mT M 127 = (20, 2) := by rw [h.1 127 (by decide)]; decide +kernel
theorem ty_128 {M : Mem} (h : Fx M) : mT M 128 = (20, 2) := by rw [h.1 128 (by decide)]; decide +kernel
theorem ty_129 {M : Mem} (h : Fx M) : mT M 129 = (20, 2) := by rw [h.1 129 (by decide)]; decide +kernel
theorem ty_130 {M : Mem} (h : Fx M) : mT M 130 = (21, 12) := by rw [h.1 130 (by decide)]; decide +kernel
theorem ty_131 {M : Mem} (h : Fx M) : mT M 131 = (20, 72) := by rw [h.1 131 (by decide)]; decide +kernel
theorem ty_132 {M : Mem} (h : Fx M) : mT M 132 = (21, 6) := by rw [h.1 132 (by decide)]; decide +kernel
theorem ty_133 {M : Mem} (h : Fx M) : mT M 133 = (20, 6) := by rw [h.1 133 (by decide)]; decide +kernel
theorem ty_134 {M : Mem} (h : Fx M) : mT M 134 = (20, 6) := by rw [h.1 134 (by decide)]; decide +kernel
theorem ty_135 {M : Mem} (h : Fx M) : mT M 135 = (21, 12) := by rw [h.1 135 (by decide)]; decide +kernel
theorem ty_136 {M : Mem} (h : Fx M) : mT M 136 = (20, 2) := by rw [h.1 136 (by decide)]; decide +kernel
theorem ty_137 {M : Mem} (h : Fx M) : mT M 137 = (20, 400) := by rw [h.1 137 (by decide)]; decide +kernel
theorem ty_138 {M : Mem} (h : Fx M) : mT M 138 = (20, 400) := by rw [h.1 138 (by decide)]; decide +kernel
theorem ty_139 {M : Mem} (h : Fx M) : mT M 139 = (20, 400) := by rw [h.1 139 (by decide)]; decide +kernel
theorem ty_140 {M : Mem} (h : Fx M) : mT M 140 = (20, 400) := by rw [h.1 140 (by decide)]; decide +kernel
theorem ty_141 {M : Mem} (h : Fx M) : mT M 141 = (20, 400) := by rw [h.1 141 (by decide)]; decide +kernel
theorem ty_142 {M : Mem} (h : Fx M) : mT M 142 = (20, 400) := by rw [h.1 142 (by decide)]; decide +kernel
theorem ty_143 {M : Mem} (h : Fx M) : mT M 143 = (20, 1800) := by rw [h.1 143 (by decide)]; decide +kernel
theorem ty_144 {M : Mem} (h : Fx M) : mT M 144 = (20, 1800) := by rw [h.1 144 (by decide)]; decide +kernel
theorem ty_145 {M : Mem} (h : Fx M) : mT M 145 = (20, 20) := by rw [h.1 145 (by decide)]; decide +kernel
theorem ty_146 {M : Mem} (h : Fx M) : mT M 146 = (20, 20) := by rw [h.1 146 (by decide)]; decide +kernel
theorem ty_147 {M : Mem} (h : Fx M) : mT M 147 = (23, 20) := by rw [h.1 147 (by decide)]; decide +kernel
theorem ty_148 {M : Mem} (h : Fx M) : mT M 148 = (20, 20) := by rw [h.1 148 (by decide)]; decide +kernel
theorem ty_149 {M : Mem} (h : Fx M) : mT M 149 = (20, 20) := by rw [h.1 149 (by decide)]; decide +kernel
theorem ty_150 {M : Mem} (h : Fx M) : mT M 150 = (20, 500) := by rw [h.1 150 (by decide)]; decide +kernel
theorem ty_151 {M : Mem} (h : Fx M) : mT M 151 = (20, 20) := by rw [h.1 151 (by decide)]; decide +kernel
theorem ty_152 {M : Mem} (h : Fx M) : mT M 152 = (20, 20) := by rw [h.1 152 (by decide)]; decide +kernel
theorem ty_153 {M : Mem} (h : Fx M) : mT M 153 = (20, 3) := by rw [h.1 153 (by decide)]; decide +kernel
theorem ty_154 {M : Mem} (h : Fx M) : mT M 154 = (20, 3) := by rw [h.1 154 (by decide)]; decide +kernel
theorem ty_155 {M : Mem} (h : Fx M) : mT M 155 = (20, 6) := by rw [h.1 155 (by decide)]; decide +kernel
theorem ty_156 {M : Mem} (h : Fx M) : mT M 156 = (23, 6) := by rw [h.1 156 (by decide)]; decide +kernel
theorem ty_157 {M : Mem} (h : Fx M) : mT M 157 = (20, 6) := by rw [h.1 157 (by decide)]; decide +kernel
theorem ty_158 {M : Mem} (h : Fx M) : mT M 158 = (20, 6) := by rw [h.1 158 (by decide)]; decide +kernel
theorem ty_159 {M : Mem} (h : Fx M) : mT M 159 = (20, 6) := by rw [h.1 159 (by decide)]; decide +kernel
theorem ty_160 {M : Mem} (h : Fx M) : mT M 160 = (20, 8) := by rw [h.1 160 (by decide)]; decide +kernel
theorem ty_161 {M : Mem} (h : Fx M) : mT M 161 = (20, 24) := by rw [h.1 161 (by decide)]; decide +kernel
theorem ty_162 {M : Mem} (h : Fx M) : mT M 162 = (20, 2100) := by rw [h.1 162 (by decide)]; decide +kernel
theorem ty_163 {M : Mem} (h : Fx M) : mT M 163 = (20, 12600) := by rw [h.1 163 (by decide)]; decide +kernel
theorem ty_164 {M : Mem} (h : Fx M) : mT M 164 = (20, 12600) := by rw [h.1 164 (by decide)]; decide +kernel
theorem ty_165 {M : Mem} (h : Fx M) : mT M 165 = (20, 12600) := by rw [h.1 165 (by decide)]; decide +kernel
theorem ty_166 {M : Mem} (h : Fx M) : mT M 166 = (20, 2100) := by rw [h.1 166 (by decide)]; decide +kernel
theorem ty_167 {M : Mem} (h : Fx M) : mT M 167 = (20, 2100) := by rw [h.1 167 (by decide)]; decide +kernel
theorem ty_168 {M : Mem} (h : Fx M) : mT M 168 = (20, 2100) := by rw [h.1 168 (by decide)]; decide +kernel
theorem ty_169 {M : Mem} (h : Fx M) : mT M 169 = (20, 2100) := by rw [h.1 169 (by decide)]; decide +kernel
theorem ty_170 {M : Mem} (h : Fx M) : mT M 170 = (20, 2100) := by rw [h.1 170 (by decide)]; decide +kernel
theorem ty_171 {M : Mem} (h : Fx M) : mT M 171 = (20, 2100) := by rw [h.1 171 (by decide)]; decide +kernel
theorem ty_172 {M : Mem} (h : Fx M) : mT M 172 = (21, 950) := by rw [h.1 172 (by decide)]; decide +kernel
theorem ty_173 {M : Mem} (h : Fx M) : mT M 173 = (20, 6) := by rw [h.1 173 (by decide)]; decide +kernel
theorem ty_174 {M : Mem} (h : Fx M) : mT M 174 = (20, 24) := by rw [h.1 174 (by decide)]; decide +kernel
theorem ty_175 {M : Mem} (h : Fx M) : mT M 175 = (23, 6) := by rw [h.1 175 (by decide)]; decide +kernel
theorem ty_176 {M : Mem} (h : Fx M) : mT M 176 = (20, 8) := by rw [h.1 176 (by decide)]; decide +kernel
theorem ty_177 {M : Mem} (h : Fx M) : mT M 177 = (23, 2200) := by rw [h.1 177 (by decide)]; decide +kernel
theorem ty_178 {M : Mem} (h : Fx M) : mT M 178 = (21, 256) := by rw [h.1 178 (by decide)]; decide +kernel
theorem ty_179 {M : Mem} (h : Fx M) : mT M 179 = (20, 3) := by rw [h.1 179 (by decide)]; decide +kernel
theorem ty_180 {M : Mem} (h : Fx M) : mT M 180 = (20, 36) := by rw [h.1 180 (by decide)]; decide +kernel
theorem ty_181 {M : Mem} (h : Fx M) : mT M 181 = (20, 12) := by rw [h.1 181 (by decide)]; decide +kernel
theorem ty_182 {M : Mem} (h : Fx M) : mT M 182 = (20, 4) := by rw [h.1 182 (by decide)]; decide +kernel
theorem ty_183 {M : Mem} (h : Fx M) : mT M 183 = (21, 12) := by rw [h.1 183 (by decide)]; decide +kernel
theorem ty_184 {M : Mem} (h : Fx M) : mT M 184 = (20, 36) := by rw [h.1 184 (by decide)]; decide +kernel
theorem ty_185 {M : Mem} (h : Fx M) : mT M 185 = (20, 6) := by rw [h.1 185 (by decide)]; decide +kernel
theorem ty_186 {M : Mem} (h : Fx M) : mT M 186 = (20, 6) := by rw [h.1 186 (by decide)]; decide +kernel
theorem ty_187 {M : Mem} (h : Fx M) : mT M 187 = (20, 6) := by rw [h.1 187 (by decide)]; decide +kernel
theorem ty_188 {M : Mem} (h : Fx M) : mT M 188 = (20, 6) := by rw [h.1 188 (by decide)]; decide +kernel
theorem ty_189 {M : Mem} (h : Fx M) : mT M 189 = (20, 6) := by rw [h.1 189 (by decide)]; decide +kernel
theorem ty_190 {M : Mem} (h : Fx M) : mT M 190 = (21, 201) := by rw [h.1 190 (by decide)]; decide +kernel
theorem ir_0_1 {M : Mem} (h : Iv M) : 0 ≤ rd M 0 1 ∧ rd M 0 1 ≤ 900 := h.1 (0, 1, 0, 900) (List.mem_of_getElem? (i := 0) rfl)
theorem st_0_1 {q : Mem → Prop} {ws : List (Int × Int)} {as : List Int} {M0 M : Mem} {v : Int} (h : St q ws as M0 M) (hm : ((0, 1) : Int × Int) ∈ ws) (hv : 0 ≤ v ∧ v ≤ 900) (hq : q (wr M 0 1 v)) : St q ws as M0 (wr M 0 1 v) := St.wf 0 h (by decide) hm rfl (by decide +kernel) (by decide +kernel) (by decide +kernel) hv hq
theorem ir_0_4 {M : Mem} (h : Iv M) : -1000000000 ≤ rd M 0 4 ∧ rd M 0 4 ≤ 1000000000 := h.1 (0, 4, -1000000000, 1000000000) (List.mem_of_getElem? (i := 1) rfl)
theorem st_0_4 {q : Mem → Prop} {ws : List (Int × Int)} {as : List Int} {M0 M : Mem} {v : Int} (h : St q ws as M0 M) (hm : ((0, 4) : Int × Int) ∈ ws) (hv : -1000000000 ≤ v ∧ v ≤ 1000000000) (hq : q (wr M 0 4 v)) : St q ws as M0 (wr M 0 4 v) := St.wf 1 h (by decide) hm rfl (by decide +kernel) (by decide +kernel) (by decide +kernel) hv hq
theorem ir_0_5 {M : Mem} (h : Iv M) : -1000000000 ≤ rd M 0 5 ∧ rd M 0 5 ≤ 1000000000 := h.1 (0, 5, -1000000000, 1000000000) (List.mem_of_getElem? (i := 2) rfl)
theorem st_0_5 {q : Mem → Prop} {ws : List (Int × Int)} {as : List Int} {M0 M : Mem} {v : Int} (h : St q ws as M0 M) (hm : ((0, 5) : Int × Int) ∈ ws) (hv : -1000000000 ≤ v ∧ v ≤ 1000000000) (hq : q (wr M 0 5 v)) : St q ws as M0 (wr M 0 5 v) := St.wf 2 h (by decide) hm rfl (by decide +kernel) (by decide +kernel) (by decide +kernel) hv hq
theorem ir_0_9 {M : Mem} (h : Iv M) : 0 ≤ rd M 0 9 ∧ rd M 0 9 ≤ 1 := h.1 (0, 9, 0, 1) (List.mem_of_getElem? (i := 3) rfl)
theorem st_0_9 {q : Mem → Prop} {ws : List (Int × Int)} {as : List Int} {M0 M : Mem} {v : Int} (h : St q ws as M0 M) (hm : ((0, 9) : Int × Int) ∈ ws) (hv : 0 ≤ v ∧ v ≤ 1) (hq : q (wr M 0 9 v)) : St q ws as M0 (wr M 0 9 v) := St.wf 3 h (by decide) hm rfl (by decide +kernel) (by decide +kernel) (by decide +kernel) hv hq
theorem ir_2_3 {M : Mem} (h : Iv M) : 0 ≤ rd M 2 3 ∧ rd M 2 3 ≤ 901 := h.1 (2, 3, 0, 901) (List.mem_of_getElem? (i := 4) rfl)
theorem st_2_3 {q : Mem → Prop} {ws : List (Int × Int)} {as : List Int} {M0 M : Mem} {v : Int} (h : St q ws as M0 M) (hm : ((2, 3) : Int × Int) ∈ ws) (hv : 0 ≤ v ∧ v ≤ 901) (hq : q (wr M 2 3 v)) : St q ws as M0 (wr M 2 3 v) := St.wf 4 h (by decide) hm rfl (by decide +kernel) (by decide +kernel) (by decide +kernel) hv hq
theorem ir_2_4 {M : Mem} (h : Iv M) : -1000000000 ≤ rd M 2 4 ∧ rd M 2 4 ≤ 1000000000 := h.1 (2, 4, -1000000000, 1000000000) (List.mem_of_getElem? (i := 5) rfl)
theorem st_2_4 {q : Mem → Prop} {ws : List (Int × Int)} {as : List Int} {M0 M : Mem} {v : Int} (h : St q ws as M0 M) (hm : ((2, 4) : Int × Int) ∈ ws) (hv : -1000000000 ≤ v ∧ v ≤ 1000000000) (hq : q (wr M 2 4 v)) : St q ws as M0 (wr M 2 4 v) := St.wf 5 h (by decide) hm rfl (by decide +kernel) (by decide +kernel) (by decide +kernel) hv hq
theorem ir_2_5 {M : Mem} (h : Iv M) : 0 ≤ rd M 2 5 ∧ rd M 2 5 ≤ 900 := h.1 (2, 5, 0, 900) (List.mem_of_getElem? (i := 6) rfl)
theorem st_2_5 {q : Mem → Prop} {ws : List (Int × Int)} {as : List Int} {M0 M : Mem} {v : Int} (h : St q ws as M0 M) (hm : ((2, 5) : Int × Int) ∈ ws) (hv : 0 ≤ v ∧ v ≤ 900) (hq : q (wr M 2 5 v)) : St q ws as M0 (wr M 2 5 v) := St.wf 6 h (by decide) hm rfl (by decide +kernel) (by decide +kernel) (by decide +kernel) hv hq
theorem ir_6_0 {M : Mem} (h : Iv M) : -2147483648 ≤ rd M 6 0 ∧ rd M 6 0 ≤ 2147483647 := h.1 (6, 0, -2147483648, 2147483647) (List.mem_of_getElem? (i := 7) rfl)
theorem st_6_0 {q : Mem → Prop} {ws : List (Int × Int)} {as : List Int} {M0 M : Mem} {v : Int} (h : St q ws as M0 M) (hm : ((6, 0) : Int × Int) ∈ ws) (hv : -2147483648 ≤ v ∧ v ≤ 2147483647) (hq : q (wr M 6 0 v)) : St q ws as M0 (wr M 6 0 v) := St.wf 7 h (by decide) hm rfl (by decide +kernel) (by decide +kernel) (by decide +kernel) hv hq
theorem ir_6_1 {M : Mem} (h : Iv M) : -2147483648 ≤ rd M 6 1 ∧ rd M 6 1 ≤ 2147483647 := h.1 (6, 1, -2147483648, 2147483647) (List.mem_of_getElem? (i := 8) rfl)
theorem st_6_1 {q : Mem → Prop} {ws : List (Int × Int)} {as : List Int} {M0 M : Mem} {v : Int} (h : St q ws as M0 M) (hm : ((6, 1) : Int × Int) ∈ ws) (hv : -2147483648 ≤ v ∧ v ≤ 2147483647) (hq : q (wr M 6 1 v)) : St q ws as M0 (wr M 6 1 v) := St.wf 8 h (by decide) hm rfl (by decide +kernel) (by decide +kernel) (by decide +kernel) hv hq
theorem ir_6_2 {M : Mem} (h : Iv M) : -1000000000 ≤ rd M 6 2 ∧ rd M 6 2 ≤ 1000000000 := h.1 (6, 2, -1000000000, 1000000000) (List.mem_of_getElem? (i := 9) rfl)
theorem st_6_2 {q : Mem → Prop} {ws : List (Int × Int)} {as : List Int} {M0 M : Mem} {v : Int} (h : St q ws as M0 M) (hm : ((6, 2) : Int × Int) ∈ ws) (hv : -1000000000 ≤ v ∧ v ≤ 1000000000) (hq : q (wr M 6 2 v)) : St q ws as M0 (wr M 6 2 v) := St.wf 9 h (by decide) hm rfl (by decide +kernel) (by decide +kernel) (by decide +kernel) hv hq
theorem ir_6_3 {M : Mem} (h : Iv M) : -1000000000 ≤ rd M 6 3 ∧ rd M 6 3 ≤ 1000000000 := h.1 (6, 3, -1000000000, 1000000000) (List.mem_of_getElem? (i := 10) rfl)
theorem st_6_3 {q : Mem → Prop} {ws : List (Int × Int)} {as : List Int} {M0 M : Mem} {v : Int} (h : St q ws as M0 M) (hm : ((6, 3) : Int × Int) ∈ ws) (hv : -1000000000 ≤ v ∧ v ≤ 1000000000) (hq : q (wr M 6 3 v)) : St q ws as M0 (wr M 6 3 v) := St.wf 10 h (by decide) hm rfl (by decide +kernel) (by decide +kernel) (by decide +kernel) hv hq
theorem ir_6_4 {M : Mem} (h : Iv M) : -1000000000 ≤ rd M 6 4 ∧ rd M 6 4 ≤ 1000000000 := h.1 (6, 4, -1000000000, 1000000000) (List.mem_of_getElem? (i := 11) rfl)
theorem st_6_4 {q : Mem → Prop} {ws : List (Int × Int)} {as : List Int} {M0 M : Mem} {v : Int} (h : St q ws as M0 M) (hm : ((6, 4) : Int × Int) ∈ ws) (hv : -1000000000 ≤ v ∧ v ≤ 1000000000) (hq : q (wr M 6 4 v)) : St q ws as M0 (wr M 6 4 v) := St.wf 11 h (by decide) hm rfl (by decide +kernel) (by decide +kernel) (by decide +kernel) hv hq
theorem ir_6_5 {M : Mem} (h : Iv M) : 0 ≤ rd M 6 5 ∧ rd M 6 5 ≤ 900 := h.1 (6, 5, 0, 900) (List.mem_of_getElem? (i := 12) rfl)
theorem st_6_5 {q : Mem → Prop} {ws : List (Int × Int)} {as : List Int} {M0 M : Mem} {v : Int} (h : St q ws as M0 M) (hm : ((6, 5) : Int × Int) ∈ ws) (hv : 0 ≤ v ∧ v ≤ 900) (hq : q (wr M 6 5 v)) : St q ws as M0 (wr M 6 5 v) := St.wf 12 h (by decide) hm rfl (by decide +kernel) (by decide +kernel) (by decide +kernel) hv hq
theorem ir_6_6 {M : Mem} (h : Iv M) : -1000 ≤ rd M 6 6 ∧ rd M 6 6 ≤ 8 := h.1 (6, 6, -1000, 8) (List.mem_of_getElem? (i := 13) rfl)
theorem st_6_6 {q : Mem → Prop} {ws : List (Int × Int)} {as : List Int} {M0 M : Mem} {v : Int} (h : St q ws as M0 M) (hm : ((6, 6) : Int × Int) ∈ ws) (hv : -1000 ≤ v ∧ v ≤ 8) (hq : q (wr M 6 6 v)) : St q ws as M0 (wr M 6 6 v) := St.wf 13 h (by decide) hm rfl (by decide +kernel) (by decide +kernel) (by decide +kernel) hv hq
theorem ir_7_0 {M : Mem} (h : Iv M) : -1 ≤ rd M 7 0 ∧ rd M 7 0 ≤ 999 := h.1 (7, 0, -1, 999) (List.mem_of_getElem? (i := 14) rfl)
theorem st_7_0 {q : Mem → Prop} {ws : List (Int × Int)} {as : List Int} {M0 M : Mem} {v : Int} (h : St q ws as M0 M) (hm : ((7, 0) : Int × Int) ∈ ws) (hv : -1 ≤ v ∧ v ≤ 999) (hq : q (wr M 7 0 v)) : St q ws as M0 (wr M 7 0 v) := St.wf 14 h (by decide) hm rfl (by decide +kernel) (by decide +kernel) (by decide +kernel) hv hq
theorem ir_7_1 {M : Mem} (h : Iv M) : -1 ≤ rd M 7 1 ∧ rd M 7 1 ≤ 8 := h.1 (7, 1, -1, 8) (List.mem_of_getElem? (i := 15) rfl)
theorem st_7_1 {q : Mem → Prop} {ws : List (Int × Int)} {as : List Int} {M0 M : Mem} {v : Int} (h : St q ws as M0 M) (hm : ((7, 1) : Int × Int) ∈ ws) (hv : -1 ≤ v ∧ v ≤ 8) (hq : q (wr M 7 1 v)) : St q ws as M0 (wr M 7 1 v) := St.wf 15 h (by decide) hm rfl (by decide +kernel) (by decide +kernel) (by decide +kernel) hv hq
theorem ir_7_2 {M : Mem} (h : Iv M) : -1 ≤ rd M 7 2 ∧ rd M 7 2 ≤ 8 := h.1 (7, 2, -1, 8) (List.mem_of_getElem? (i := 16) rfl)
theorem st_7_2 {q : Mem → Prop} {ws : List (Int × Int)} {as : List Int} {M0 M : Mem} {v : Int} (h : St q ws as M0 M) (hm : ((7, 2) : Int × Int) ∈ ws) (hv : -1 ≤ v ∧ v ≤ 8) (hq : q (wr M 7 2 v)) : St q ws as M0 (wr M 7 2 v) := St.wf 16 h (by decide) hm rfl (by decide +kernel) (by decide +kernel) (by decide +kernel) hv hq
theorem ir_7_3 {M : Mem} (h : Iv M) : -1 ≤ rd M 7 3 ∧ rd M 7 3 ≤ 20 := h.1 (7, 3, -1, 20) (List.mem_of_getElem? (i := 17) rfl)
theorem st_7_3 {q : Mem → Prop} {ws : List (Int × Int)} {as : List Int} {M0 M : Mem} {v : Int} (h : St q ws as M0 M) (hm : ((7, 3) : Int × Int) ∈ ws) (hv : -1 ≤ v ∧ v ≤ 20) (hq : q (wr M 7 3 v)) : St q ws as M0 (wr M 7 3 v) := St.wf 17 h (by decide) hm rfl (by decide +kernel) (by decide +kernel) (by decide +kernel) hv hq
theorem ir_8_0 {M : Mem} (h : Iv M) : 0 ≤ rd M 8 0 ∧ rd M 8 0 ≤ 6 := h.1 (8, 0, 0, 6) (List.mem_of_getElem? (i := 18) rfl)
theorem st_8_0 {q : Mem → Prop} {ws : List (Int × Int)} {as : List Int} {M0 M : Mem} {v : Int} (h : St q ws as M0 M) (hm : ((8, 0) : Int × Int) ∈ ws) (hv : 0 ≤ v ∧ v ≤ 6) (hq : q (wr M 8 0 v)) : St q ws as M0 (wr M 8 0 v) := St.wf 18 h (by decide) hm rfl (by decide +kernel) (by decide +kernel) (by decide +kernel) hv hq
theorem ir_8_1 {M : Mem} (h : Iv M) : 0 ≤ rd M 8 1 ∧ rd M 8 1 ≤ 3 := h.1 (8, 1, 0, 3) (List.mem_of_getElem? (i := 19) rfl)
theorem st_8_1 {q : Mem → Prop} {ws : List (Int × Int)} {as : List Int} {M0 M : Mem} {v : Int} (h : St q ws as M0 M) (hm : ((8, 1) : Int × Int) ∈ ws) (hv : 0 ≤ v ∧ v ≤ 3) (hq : q (wr M 8 1 v)) : St q ws as M0 (wr M 8 1 v) := St.wf 19 h (by decide) hm rfl (by decide +kernel) (by decide +kernel) (by decide +kernel) hv hq
theorem ir_8_2 {M : Mem} (h : Iv M) : 0 ≤ rd M 8 2 ∧ rd M 8 2 ≤ 6 := h.1 (8, 2, 0, 6) (List.mem_of_getElem? (i := 20) rfl)
theorem st_8_2 {q : Mem → Prop} {ws : List (Int × Int)} {as : List Int} {M0 M : Mem} {v : Int} (h : St q ws as M0 M) (hm : ((8, 2) : Int × Int) ∈ ws) (hv : 0 ≤ v ∧ v ≤ 6) (hq : q (wr M 8 2 v)) : St q ws as M0 (wr M 8 2 v) := St.wf 20 h (by decide) hm rfl (by decide +kernel) (by decide +kernel) (by decide +kernel) hv hq
theorem ir_15_0 {M : Mem} (h : Iv M) : 0 ≤ rd M 15 0 ∧ rd M 15 0 ≤ 60 := h.1 (15, 0, 0, 60) (List.mem_of_getElem? (i := 21) rfl)
theorem st_15_0 {q : Mem → Prop} {ws : List (Int × Int)} {as : List Int} {M0 M : Mem} {v : Int} (h : St q ws as M0 M) (hm : ((15, 0) : Int × Int) ∈ ws) (hv : 0 ≤ v ∧ v ≤ 60) (hq : q (wr M 15 0 v)) : St q ws as M0 (wr M 15 0 v) := St.wf 21 h (by decide) hm rfl (by decide +kernel) (by decide +kernel) (by decide +kernel) hv hq
theorem ir_15_11 {M : Mem} (h : Iv M) : 0 ≤ rd M 15 11 ∧ rd M 15 11 ≤ 900 := h.1 (15, 11, 0, 900) (List.mem_of_getElem? (i := 22) rfl)
theorem st_15_11 {q : Mem → Prop} {ws : List (Int × Int)} {as : List Int} {M0 M : Mem} {v : Int} (h : St q ws as M0 M) (hm : ((15, 11) : Int × Int) ∈ ws) (hv : 0 ≤ v ∧ v ≤ 900) (hq : q (wr M 15 11 v)) : St q ws as M0 (wr M 15 11 v) := St.wf 22 h (by decide) hm rfl (by decide +kernel) (by decide +kernel) (by decide +kernel) hv hq
theorem ir_27_0 {M : Mem} (h : Iv M) : -1 ≤ rd M 27 0 ∧ rd M 27 0 ≤ 999 := h.1 (27, 0, -1, 999) (List.mem_of_getElem? (i := 23) rfl)
theorem st_27_0 {q : Mem → Prop} {ws : List (Int × Int)} {as : List Int} {M0 M : Mem} {v : Int} (h : St q ws as M0 M) (hm : ((27, 0) : Int × Int) ∈ ws) (hv : -1 ≤ v ∧ v ≤ 999) (hq : q (wr M 27 0 v)) : St q ws as M0 (wr M 27 0 v) := St.wf 23 h (by decide) hm rfl (by decide +kernel) (by decide +kernel) (by decide +kernel) hv hq
theorem ir_27_1 {M : Mem} (h : Iv M) : -1 ≤ rd M 27 1 ∧ rd M 27 1 ≤ 8 := h.1 (27, 1, -1, 8) (List.mem_of_getElem? (i := 24) rfl)
theorem st_27_1 {q : Mem → Prop} {ws : List (Int × Int)} {as : List Int} {M0 M : Mem} {v : Int} (h : St q ws as M0 M) (hm : ((27, 1) : Int × Int) ∈ ws) (hv : -1 ≤ v ∧ v ≤ 8) (hq : q (wr M 27 1 v)) : St q ws as M0 (wr M 27 1 v) := St.wf 24 h (by decide) hm rfl (by decide +kernel) (by decide +kernel) (by decide +kernel) hv hq
theorem ir_27_2 {M : Mem} (h : Iv M) : -1 ≤ rd M 27 2 ∧ rd M 27 2 ≤ 8 := h.1 (27, 2, -1, 8) (List.mem_of_getElem? (i := 25) rfl)
theorem st_27_2 {q : Mem → Prop} {ws : List (Int × Int)} {as : List Int} {M0 M : Mem} {v : Int} (h : St q ws as M0 M) (hm : ((27, 2) : Int × Int) ∈ ws) (hv : -1 ≤ v ∧ v ≤ 8) (hq : q (wr M 27 2 v)) : St q ws as M0 (wr M 27 2 v) := St.wf 25 h (by decide) hm rfl (by decide +kernel) (by decide +kernel) (by decide +kernel) hv hq
theorem ir_27_3 {M : Mem} (h : Iv M) : -1 ≤ rd M 27 3 ∧ rd M 27 3 ≤ 20 := h.1 (27, 3, -1, 20) (List.mem_of_getElem? (i := 26) rfl)
theorem st_27_3 {q : Mem → Prop} {ws : List (Int × Int)} {as : List Int} {M0 M : Mem} {v : Int} (h : St q ws as M0 M) (hm : ((27, 3) : Int × Int) ∈ ws) (hv : -1 ≤ v ∧ v ≤ 20) (hq : q (wr M 27 3 v)) : St q ws as M0 (wr M 27 3 v) := St.wf 26 h (by decide) hm rfl (by decide +kernel) (by decide +kernel) (by decide +kernel) hv hq
theorem ir_28_0 {M : Mem} (h : Iv M) : 0 ≤ rd M 28 0 ∧ rd M 28 0 ≤ 6 := h.1 (28, 0, 0, 6) (List.mem_of_getElem? (i := 27) rfl)
theorem st_28_0 {q : Mem → Prop} {ws : List (Int × Int)} {as : List Int} {M0 M : Mem} {v : Int} (h : St q ws as M0 M) (hm : ((28, 0) : Int × Int) ∈ ws) (hv : 0 ≤ v ∧ v ≤ 6) (hq : q (wr M 28 0 v)) : St q ws as M0 (wr M 28 0 v) := St.wf 27 h (by decide) hm rfl (by decide +kernel) (by decide +kernel) (by decide +kernel) hv hq
theorem ir_28_1 {M : Mem} (h : Iv M) : 0 ≤ rd M 28 1 ∧ rd M 28 1 ≤ 3 := h.1 (28, 1, 0, 3) (List.mem_of_getElem? (i := 28) rfl)
theorem st_28_1 {q : Mem → Prop} {ws : List (Int × Int)} {as : List Int} {M0 M : Mem} {v : Int} (h : St q ws as M0 M) (hm : ((28, 1) : Int × Int) ∈ ws) (hv : 0 ≤ v ∧ v ≤ 3) (hq : q (wr M 28 1 v)) : St q ws as M0 (wr M 28 1 v) := St.wf 28 h (by decide) hm rfl (by decide +kernel) (by decide +kernel) (by decide +kernel) hv hq
theorem ir_28_2 {M : Mem} (h : Iv M) : 0 ≤ rd M 28 2 ∧ rd M 28 2 ≤ 6 := h.1 (28, 2, 0, 6) (List.mem_of_getElem? (i := 29) rfl)
theorem st_28_2 {q : Mem → Prop} {ws : List (Int × Int)} {as : List Int} {M0 M : Mem} {v : Int} (h : St q ws as M0 M) (hm : ((28, 2) : Int × Int) ∈ ws) (hv : 0 ≤ v ∧ v ≤ 6) (hq : q (wr M 28 2 v)) : St q ws as M0 (wr M 28 2 v) := St.wf 29 h (by decide) hm rfl (by decide +kernel) (by decide +kernel) (by decide +kernel) hv hq
theorem ir_35_0 {M : Mem} (h : Iv M) : 0 ≤ rd M 35 0 ∧ rd M 35 0 ≤ 60 := h.1 (35, 0, 0, 60) (List.mem_of_getElem? (i := 30) rfl)
theorem st_35_0 {q : Mem → Prop} {ws : List (Int × Int)} {as : List Int} {M0 M : Mem} {v : Int} (h : St q ws as M0 M) (hm : ((35, 0) : Int × Int) ∈ ws) (hv : 0 ≤ v ∧ v ≤ 60) (hq : q (wr M 35 0 v)) : St q ws as M0 (wr M 35 0 v) := St.wf 30 h (by decide) hm rfl (by decide +kernel) (by decide +kernel) (by decide +kernel) hv hq
theorem ir_35_11 {M : Mem} (h : Iv M) : 0 ≤ rd M 35 11 ∧ rd M 35 11 ≤ 900 := h.1 (35, 11, 0, 900) (List.mem_of_getElem? (i := 31) rfl)
theorem st_35_11 {q : Mem → Prop} {ws : List (Int × Int)} {as : List Int} {M0 M : Mem} {v : Int} (h : St q ws as M0 M) (hm : ((35, 11) : Int × Int) ∈ ws) (hv : 0 ≤ v ∧ v ≤ 900) (hq : q (wr M 35 11 v)) : St q ws as M0 (wr M 35 11 v) := St.wf 31 h (by decide) hm rfl (by decide +kernel) (by decide +kernel) (by decide +kernel) hv hq
theorem ir_48_1 {M : Mem} (h : Iv M) : -1000000000 ≤ rd M 48 1 ∧ rd M 48 1 ≤ 1000000000 := h.1 (48, 1, -1000000000, 1000000000) (List.mem_of_getElem? (i := 32) rfl)
theorem st_48_1 {q : Mem → Prop} {ws : List (Int × Int)} {as : List Int} {M0 M : Mem} {v : Int} (h : St q ws as M0 M) (hm : ((48, 1) : Int × Int) ∈ ws) (hv : -1000000000 ≤ v ∧ v ≤ 1000000000) (hq : q (wr M 48 1 v)) : St q ws as M0 (wr M 48 1 v) := St.wf 32 h (by decide) hm rfl (by decide +kernel) (by decide +kernel) (by decide +kernel) hv hq
theorem ir_48_9 {M : Mem} (h : Iv M) : -2147483648 ≤ rd M 48 9 ∧ rd M 48 9 ≤ 2147483647 := h.1 (48, 9, -2147483648, 2147483647) (List.mem_of_getElem? (i := 33) rfl)
theorem st_48_9 {q : Mem → Prop} {ws : List (Int × Int)} {as : List Int} {M0 M : Mem} {v : Int} (h : St q ws as M0 M) (hm : ((48, 9) : Int × Int) ∈ ws) (hv : -2147483648 ≤ v ∧ v ≤ 2147483647) (hq : q (wr M 48 9 v)) : St q ws as M0 (wr M 48 9 v) := St.wf 33 h (by decide) hm rfl (by decide +kernel) (by decide +kernel) (by decide +kernel) hv hq
theorem ir_48_10 {M : Mem} (h : Iv M) : -2147483648 ≤ rd M 48 10 ∧ rd M 48 10 ≤ 2147483647 := h.1 (48, 10, -2147483648, 2147483647) (List.mem_of_getElem? (i := 34) rfl)
theorem st_48_10 {q : Mem → Prop} {ws : List (Int × Int)} {as : List Int} {M0 M : Mem} {v : Int} (h : St q ws as M0 M) (hm : ((48, 10) : Int × Int) ∈ ws) (hv : -2147483648 ≤ v ∧ v ≤ 2147483647) (hq : q (wr M 48 10 v)) : St q ws as M0 (wr M 48 10 v) := St.wf 34 h (by decide) hm rfl (by decide +kernel) (by decide +kernel) (by decide +kernel) hv hq
theorem ir_48_11 {M : Mem} (h : Iv M) : -2147483648 ≤ rd M 48 11 ∧ rd M 48 11 ≤ 2147483647 := h.1 (48, 11, -2147483648, 2147483647) (List.mem_of_getElem? (i := 35) rfl)
theorem st_48_11 {q : Mem → Prop} {ws : List (Int × Int)} {as : List Int} {M0 M : Mem} {v : Int} (h : St q ws as M0 M) (hm : ((48, 11) : Int × Int) ∈ ws) (hv : -2147483648 ≤ v ∧ v ≤ 2147483647) (hq : q (wr M 48 11 v)) : St q ws as M0 (wr M 48 11 v) := St.wf 35 h (by decide) hm rfl (by decide +kernel) (by decide +kernel) (by decide +kernel) hv hq
theorem ir_48_12 {M : Mem} (h : Iv M) : -2147483648 ≤ rd M 48 12 ∧ rd M 48 12 ≤ 2147483647 := h.1 (48, 12, -2147483648, 2147483647) (List.mem_of_getElem? (i := 36) rfl)
theorem st_48_12 {q : Mem → Prop} {ws : List (Int × Int)} {as : List Int} {M0 M : Mem} {v : Int} (h : St q ws as M0 M) (hm : ((48, 12) : Int × Int) ∈ ws) (hv : -2147483648 ≤ v ∧ v ≤ 2147483647) (hq : q (wr M 48 12 v)) : St q ws as M0 (wr M 48 12 v) := St.wf 36 h (by decide) hm rfl (by decide +kernel) (by decide +kernel) (by decide +kernel) hv hq
theorem ir_48_13 {M : Mem} (h : Iv M) : -2147483648 ≤ rd M 48 13 ∧ rd M 48 13 ≤ 2147483647 := h.1 (48, 13, -2147483648, 2147483647) (List.mem_of_getElem? (i := 37) rfl)
theorem st_48_13 {q : Mem → Prop} {ws : List (Int × Int)} {as : List Int} {M0 M : Mem} {v : Int} (h : St q ws as M0 M) (hm : ((48, 13) : Int × Int) ∈ ws) (hv : -2147483648 ≤ v ∧ v ≤ 2147483647) (hq : q (wr M 48 13 v)) : St q ws as M0 (wr M 48 13 v) := St.wf 37 h (by decide) hm rfl (by decide +kernel) (by decide +kernel) (by decide +kernel) hv hq
theorem ir_48_14 {M : Mem} (h : Iv M) : -2147483648 ≤ rd M 48 14 ∧ rd M 48 14 ≤ 2147483647 := h.1 (48, 14, -2147483648, 2147483647) (List.mem_of_getElem? (i := 38) rfl)
theorem st_48_14 {q : Mem → Prop} {ws : List (Int × Int)} {as : List Int} {M0 M : Mem} {v : Int} (h : St q ws as M0 M) (hm : ((48, 14) : Int × Int) ∈ ws) (hv : -2147483648 ≤ v ∧ v ≤ 2147483647) (hq : q (wr M 48 14 v)) : St q ws as M0 (wr M 48 14 v) := St.wf 38 h (by decide) hm rfl (by decide +kernel) (by decide +kernel) (by decide +kernel) hv hq
theorem ir_48_15 {M : Mem} (h : Iv M) : -2147483648 ≤ rd M 48 15 ∧ rd M 48 15 ≤ 2147483647 := h.1 (48, 15, -2147483648, 2147483647) (List.mem_of_getElem? (i := 39) rfl)
theorem st_48_15 {q : Mem → Prop} {ws : List (Int × Int)} {as : List Int} {M0 M : Mem} {v : Int} (h : St q ws as M0 M) (hm : ((48, 15) : Int × Int) ∈ ws) (hv : -2147483648 ≤ v ∧ v ≤ 2147483647) (hq : q (wr M 48 15 v)) : St q ws as M0 (wr M 48 15 v) := St.wf 39 h (by decide) hm rfl (by decide +kernel) (by decide +kernel) (by decide +kernel) hv hq
theorem ir_48_16 {M : Mem} (h : Iv M) : 0 ≤ rd M 48 16 ∧ rd M 48 16 ≤ 1 := h.1 (48, 16, 0, 1) (List.mem_of_getElem? (i := 40) rfl)
theorem st_48_16 {q : Mem → Prop} {ws : List (Int × Int)} {as : List Int} {M0 M : Mem} {v : Int} (h : St q ws as M0 M) (hm : ((48, 16) : Int × Int) ∈ ws) (hv : 0 ≤ v ∧ v ≤ 1) (hq : q (wr M 48 16 v)) : St q ws as M0 (wr M 48 16 v) := St.wf 40 h (by decide) hm rfl (by decide +kernel) (by decide +kernel) (by decide +kernel) hv hq
theorem ir_48_17 {M : Mem} (h : Iv M) : -2147483648 ≤ rd M 48 17 ∧ rd M 48 17 ≤ 2147483647 := h.1 (48, 17, -2147483648, 2147483647) (List.mem_of_getElem? (i := 41) rfl)
theorem st_48_17 {q : Mem → Prop} {ws : List (Int × Int)} {as : List Int} {M0 M : Mem} {v : Int} (h : St q ws as M0 M) (hm : ((48, 17) : Int × Int) ∈ ws) (hv : -2147483648 ≤ v ∧ v ≤ 2147483647) (hq : q (wr M 48 17 v)) : St q ws as M0 (wr M 48 17 v) := St.wf 41 h (by decide) hm rfl (by decide +kernel) (by decide +kernel) (by decide +kernel) hv hq
theorem ir_56_1 {M : Mem} (h : Iv M) : -1000000000 ≤ rd M 56 1 ∧ rd M 56 1 ≤ 1000000000 := h.1 (56, 1, -1000000000, 1000000000) (List.mem_of_getElem? (i := 42) rfl)
theorem st_56_1 {q : Mem → Prop} {ws : List (Int × Int)} {as : List Int} {M0 M : Mem} {v : Int} (h : St q ws as M0 M) (hm : ((56, 1) : Int × Int) ∈ ws) (hv : -1000000000 ≤ v ∧ v ≤ 1000000000) (hq : q (wr M 56 1 v)) : St q ws as M0 (wr M 56 1 v) := St.wf 42 h (by decide) hm rfl (by decide +kernel) (by decide +kernel) (by decide +kernel) hv hq
theorem ir_63_0 {M : Mem} (h : Iv M) : -2147483648 ≤ rd M 63 0 ∧ rd M 63 0 ≤ 2147483647 := h.1 (63, 0, -2147483648, 2147483647) (List.mem_of_getElem? (i := 43) rfl)
theorem stX_63_0 {q : Mem → Prop} {ws : List (Int × Int)} {as : List Int} {M0 M : Mem} {v : Int} (h : St q ws as M0 M) (hm : ((63, 0) : Int × Int) ∈ ws) (hv : -2147483648 ≤ v ∧ v ≤ 2147483647) (hx : Xp q (wr M 63 0 v)) : St q ws as M0 (wr M 63 0 v) := St.wfX 43 h (by decide) hm rfl (by decide +kernel) (by decide +kernel) (by decide +kernel) hv hx
theorem ir_63_1 {M : Mem} (h : Iv M) : -1000000000 ≤ rd M 63 1 ∧ rd M 63 1 ≤ 1000000000 := h.1 (63, 1, -1000000000, 1000000000) (List.mem_of_getElem? (i := 44) rfl)
theorem stX_63_1 {q : Mem → Prop} {ws : List (Int × Int)} {as : List Int} {M0 M : Mem} {v : Int} (h : St q ws as M0 M) (hm : ((63, 1) : Int × Int) ∈ ws) (hv : -1000000000 ≤ v ∧ v ≤ 1000000000) (hx : Xp q (wr M 63 1 v)) : St q ws as M0 (wr M 63 1 v) := St.wfX 44 h (by decide) hm rfl (by decide +kernel) (by decide +kernel) (by decide +kernel) hv hx
theorem ir_63_2 {M : Mem} (h : Iv M) : -1000000000 ≤ rd M 63 2 ∧ rd M 63 2 ≤ 1000000000 := h.1 (63, 2, -1000000000, 1000000000) (List.mem_of_getElem? (i := 45) rfl)
theorem stX_63_2 {q : Mem → Prop} {ws : List (Int × Int)} {as : List Int} {M0 M : Mem} {v : Int} (h : St q ws as M0 M) (hm : ((63, 2) : Int × Int) ∈ ws) (hv : -1000000000 ≤ v ∧ v ≤ 1000000000) (hx : Xp q (wr M 63 2 v)) : St q ws as M0 (wr M 63 2 v) := St.wfX 45 h (by decide) hm rfl (by decide +kernel) (by decide +kernel) (by decide +kernel) hv hx
theorem ir_63_3 {M : Mem} (h : Iv M) : -1000000000 ≤ rd M 63 3 ∧ rd M 63 3 ≤ 1000000000 := h.1 (63, 3, -1000000000, 1000000000) (List.mem_of_getElem? (i := 46) rfl)
theorem stX_63_3 {q : Mem → Prop} {ws : List (Int × Int)} {as : List Int} {M0 M : Mem} {v : Int} (h : St q ws as M0 M) (hm : ((63, 3) : Int × Int) ∈ ws) (hv : -1000000000 ≤ v ∧ v ≤ 1000000000) (hx : Xp q (wr M 63 3 v)) : St q ws as M0 (wr M 63 3 v) := St.wfX 46 h (by decide) hm rfl (by decide +kernel) (by decide +kernel) (by decide +kernel) hv hx
theorem ir_63_4 {M : Mem} (h : Iv M) : -1000000000 ≤ rd M 63 4 ∧ rd M 63 4 ≤ 1000000000 := h.1 (63, 4, -1000000000, 1000000000) (List.mem_of_getElem? (i := 47) rfl)
theorem stX_63_4 {q : Mem → Prop} {ws : List (Int × Int)} {as : List Int} {M0 M : Mem} {v : Int} (h : St q ws as M0 M) (hm : ((63, 4) : Int × Int) ∈ ws) (hv : -1000000000 ≤ v ∧ v ≤ 1000000000) (hx : Xp q (wr M 63 4 v)) : St q ws as M0 (wr M 63 4 v) := St.wfX 47 h (by decide) hm rfl (by decide +kernel) (by decide +kernel) (by decide +kernel) hv hx
theorem ir_63_5 {M : Mem} (h : Iv M) : -1000000000 ≤ rd M 63 5 ∧ rd M 63 5 ≤ 1000000000 := h.1 (63, 5, -1000000000, 1000000000) (List.mem_of_getElem? (i := 48) rfl)
theorem stX_63_5 {q : Mem → Prop} {ws : List (Int × Int)} {as : List Int} {M0 M : Mem} {v : Int} (h : St q ws as M0 M) (hm : ((63, 5) : Int × Int) ∈ ws) (hv : -1000000000 ≤ v ∧ v ≤ 1000000000) (hx : Xp q (wr M 63 5 v)) : St q ws as M0 (wr M 63 5 v) := St.wfX 48 h (by decide) hm rfl (by decide +kernel) (by decide +kernel) (by decide +kernel) hv hx
theorem ir_63_7 {M : Mem} (h : Iv M) : -2147483648 ≤ rd M 63 7 ∧ rd M 63 7 ≤ 2147483647 := h.1 (63, 7, -2147483648, 2147483647) (List.mem_of_getElem? (i := 49) rfl)
theorem stX_63_7 {q : Mem → Prop} {ws : List (Int × Int)} {as : List Int} {M0 M : Mem} {v : Int} (h : St q ws as M0 M) (hm : ((63, 7) : Int × Int) ∈ ws) (hv : -2147483648 ≤ v ∧ v ≤ 2147483647) (hx : Xp q (wr M 63 7 v)) : St q ws as M0 (wr M 63 7 v) := St.wfX 49 h (by decide) hm rfl (by decide +kernel) (by decide +kernel) (by decide +kernel) hv hx
theorem ir_63_8 {M : Mem} (h : Iv M) : -1000000000 ≤ rd M 63 8 ∧ rd M 63 8 ≤ 1000000000 := h.1 (63, 8, -1000000000, 1000000000) (List.mem_of_getElem? (i := 50) rfl)
theorem stX_63_8 {q : Mem → Prop} {ws : List (Int × Int)} {as : List Int} {M0 M : Mem} {v : Int} (h : St q ws as M0 M) (hm : ((63, 8) : Int × Int) ∈ ws) (hv : -1000000000 ≤ v ∧ v ≤ 1000000000) (hx : Xp q (wr M 63 8 v)) : St q ws as M0 (wr M 63 8 v) := St.wfX 50 h (by decide) hm rfl (by decide +kernel) (by decide +kernel) (by decide +kernel) hv hx
theorem ir_63_9 {M : Mem} (h : Iv M) : -1000000000 ≤ rd M 63 9 ∧ rd M 63 9 ≤ 1000000000 := h.1 (63, 9, -1000000000, 1000000000) (List.mem_of_getElem? (i := 51) rfl)
theorem stX_63_9 {q : Mem → Prop} {ws : List (Int × Int)} {as : List Int} {M0 M : Mem} {v : Int} (h : St q ws as M0 M) (hm : ((63, 9) : Int × Int) ∈ ws) (hv : -1000000000 ≤ v ∧ v ≤ 1000000000) (hx : Xp q (wr M 63 9 v)) : St q ws as M0 (wr M 63 9 v) := St.wfX 51 h (by decide) hm rfl (by decide +kernel) (by decide +kernel) (by decide +kernel) hv hx
theorem ir_63_10 {M : Mem} (h : Iv M) : -1000000000 ≤ rd M 63 10 ∧ rd M 63 10 ≤ 1000000000 := h.1 (63, 10, -1000000000, 1000000000) (List.mem_of_getElem? (i := 52) rfl)
theorem stX_63_10 {q : Mem → Prop} {ws : List (Int × Int)} {as : List Int} {M0 M : Mem} {v : Int} (h : St q ws as M0 M) (hm : ((63, 10) : Int × Int) ∈ ws) (hv : -1000000000 ≤ v ∧ v ≤ 1000000000) (hx : Xp q (wr M 63 10 v)) : St q ws as M0 (wr M 63 10 v) := St.wfX 52 h (by decide) hm rfl (by decide +kernel) (by decide +kernel) (by decide +kernel) hv hx
theorem ir_63_11 {M : Mem} (h : Iv M) : -1000000000 ≤ rd M 63 11 ∧ rd M 63 11 ≤ 1000000000 := h.1 (63, 11, -1000000000, 1000000000) (List.mem_of_getElem? (i := 53) rfl)
theorem stX_63_11 {q : Mem → Prop} {ws : List (Int × Int)} {as : List Int} {M0 M : Mem} {v : Int} (h : St q ws as M0 M) (hm : ((63, 11) : Int × Int) ∈ ws) (hv : -1000000000 ≤ v ∧ v ≤ 1000000000) (hx : Xp q (wr M 63 11 v)) : St q ws as M0 (wr M 63 11 v) := St.wfX 53 h (by decide) hm rfl (by decide +kernel) (by decide +kernel) (by decide +kernel) hv hx
theorem ir_74_1 {M : Mem} (h : Iv M) : -1000000000 ≤ rd M 74 1 ∧ rd M 74 1 ≤ 1000000000 := h.1 (74, 1, -1000000000, 1000000000) (List.mem_of_getElem? (i := 54) rfl)
theorem st_74_1 {q : Mem → Prop} {ws : List (Int × Int)} {as : List Int} {M0 M : Mem} {v : Int} (h : St q ws as M0 M) (hm : ((74, 1) : Int × Int) ∈ ws) (hv : -1000000000 ≤ v ∧ v ≤ 1000000000) (hq : q (wr M 74 1 v)) : St q ws as M0 (wr M 74 1 v) := St.wf 54 h (by decide) hm rfl (by decide +kernel) (by decide +kernel) (by decide +kernel) hv hq
theorem ir_74_9 {M : Mem} (h : Iv M) : -2147483648 ≤ rd M 74 9 ∧ rd M 74 9 ≤ 2147483647 := h.1 (74, 9, -2147483648, 2147483647) (List.mem_of_getElem? (i := 55) rfl)
theorem st_74_9 {q : Mem → Prop} {ws : List (Int × Int)} {as : List Int} {M0 M : Mem} {v : Int} (h : St q ws as M0 M) (hm : ((74, 9) : Int × Int) ∈ ws) (hv : -2147483648 ≤ v ∧ v ≤ 2147483647) (hq : q (wr M 74 9 v)) : St q ws as M0 (wr M 74 9 v) := St.wf 55 h (by decide) hm rfl (by decide +kernel) (by decide +kernel) (by decide +kernel) hv hq
theorem ir_74_10 {M : Mem} (h : Iv M) : -2147483648 ≤ rd M 74 10 ∧ rd M 74 10 ≤ 2147483647 := h.1 (74, 10, -2147483648, 2147483647) (List.mem_of_getElem? (i := 56) rfl)
theorem st_74_10 {q : Mem → Prop} {ws : List (Int × Int)} {as : List Int} {M0 M : Mem} {v : Int} (h : St q ws as M0 M) (hm : ((74, 10) : Int × Int) ∈ ws) (hv : -2147483648 ≤ v ∧ v ≤ 2147483647) (hq : q (wr M 74 10 v)) : St q ws as M0 (wr M 74 10 v) := St.wf 56 h (by decide) hm rfl (by decide +kernel) (by decide +kernel) (by decide +kernel) hv hq
theorem ir_74_11 {M : Mem} (h : Iv M) : -2147483648 ≤ rd M 74 11 ∧ rd M 74 11 ≤ 2147483647 := h.1 (74, 11, -2147483648, 2147483647) (List.mem_of_getElem? (i := 57) rfl)
theorem st_74_11 {q : Mem → Prop} {ws : List (Int × Int)} {as : List Int} {M0 M : Mem} {v : Int} (h : St q ws as M0 M) (hm : ((74, 11) : Int × Int) ∈ ws) (hv : -2147483648 ≤ v ∧ v ≤ 2147483647) (hq : q (wr M 74 11 v)) : St q ws as M0 (wr M 74 11 v) := St.wf 57 h (by decide) hm rfl (by decide +kernel) (by decide +kernel) (by decide +kernel) hv hq
theorem ir_74_12 {M : Mem} (h : Iv M) : -2147483648 ≤ rd M 74 12 ∧ rd M 74 12 ≤ 2147483647 := h.1 (74, 12, -2147483648, 2147483647) (List.mem_of_getElem? (i := 58) rfl)
theorem st_74_12 {q : Mem → Prop} {ws : List (Int × Int)} {as : List Int} {M0 M : Mem} {v : Int} (h : St q ws as M0 M) (hm : ((74, 12) : Int × Int) ∈ ws) (hv : -2147483648 ≤ v ∧ v ≤ 2147483647) (hq : q (wr M 74 12 v)) : St q ws as M0 (wr M 74 12 v) := St.wf 58 h (by decide) hm rfl (by decide +kernel) (by decide +kernel) (by decide +kernel) hv hq
theorem ir_74_13 {M : Mem} (h : Iv M) : -2147483648 ≤ rd M 74 13 ∧ rd M 74 13 ≤ 2147483647 := h.1 (74, 13, -2147483648, 2147483647) (List.mem_of_getElem? (i := 59) rfl)
theorem st_74_13 {q : Mem → Prop} {ws : List (Int × Int)} {as : List Int} {M0 M : Mem} {v : Int} (h : St q ws as M0 M) (hm : ((74, 13) : Int × Int) ∈ ws) (hv : -2147483648 ≤ v ∧ v ≤ 2147483647) (hq : q (wr M 74 13 v)) : St q ws as M0 (wr M 74 13 v) := St.wf 59 h (by decide) hm rfl (by decide +kernel) (by decide +kernel) (by decide +kernel) hv hq
theorem ir_74_14 {M : Mem} (h : Iv M) : -2147483648 ≤ rd M 74 14 ∧ rd M 74 14 ≤ 2147483647 := h.1 (74, 14, -2147483648, 2147483647) (List.mem_of_getElem? (i := 60) rfl)
theorem st_74_14 {q : Mem → Prop} {ws : List (Int × Int)} {as : List Int} {M0 M : Mem} {v : Int} (h : St q ws as M0 M) (hm : ((74, 14) : Int × Int) ∈ ws) (hv : -2147483648 ≤ v ∧ v ≤ 2147483647) (hq : q (wr M 74 14 v)) : St q ws as M0 (wr M 74 14 v) := St.wf 60 h (by decide) hm rfl (by decide +kernel) (by decide +kernel) (by decide +kernel) hv hq
theorem ir_74_15 {M : Mem} (h : Iv M) : -2147483648 ≤ rd M 74 15 ∧ rd M 74 15 ≤ 2147483647 := h.1 (74, 15, -2147483648, 2147483647) (List.mem_of_getElem? (i := 61) rfl)
theorem st_74_15 {q : Mem → Prop} {ws : List (Int × Int)} {as : List Int} {M0 M : Mem} {v : Int} (h : St q ws as M0 M) (hm : ((74, 15) : Int × Int) ∈ ws) (hv : -2147483648 ≤ v ∧ v ≤ 2147483647) (hq : q (wr M 74 15 v)) : St q ws as M0 (wr M 74 15 v) := St.wf 61 h (by decide) hm rfl (by decide +kernel) (by decide +kernel) (by decide +kernel) hv hq
theorem ir_74_16 {M : Mem} (h : Iv M) : 0 ≤ rd M 74 16 ∧ rd M 74 16 ≤ 1 := h.1 (74, 16, 0, 1) (List.mem_of_getElem? (i := 62) rfl)
theorem st_74_16 {q : Mem → Prop} {ws : List (Int × Int)} {as : List Int} {M0 M : Mem} {v : Int} (h : St q ws as M0 M) (hm : ((74, 16) : Int × Int) ∈ ws) (hv : 0 ≤ v ∧ v ≤ 1) (hq : q (wr M 74 16 v)) : St q ws as M0 (wr M 74 16 v) := St.wf 62 h (by decide) hm rfl (by decide +kernel) (by decide +kernel) (by decide +kernel) hv hq
theorem ir_74_17 {M : Mem} (h : Iv M) : -2147483648 ≤ rd M 74 17 ∧ rd M 74 17 ≤ 2147483647 := h.1 (74, 17, -2147483648, 2147483647) (List.mem_of_getElem? (i := 63) rfl)
theorem st_74_17 {q : Mem → Prop} {ws : List (Int × Int)} {as : List Int} {M0 M : Mem} {v : Int} (h : St q ws as M0 M) (hm : ((74, 17) : Int × Int) ∈ ws) (hv : -2147483648 ≤ v ∧ v ≤ 2147483647) (hq : q (wr M 74 17 v)) : St q ws as M0 (wr M 74 17 v) := St.wf 63 h (by decide) hm rfl (by decide +kernel) (by decide +kernel) (by decide +kernel) hv hq
theorem ir_82_1 {M : Mem} (h : Iv M) : -1000000000 ≤ rd M 82 1 ∧ rd M 82 1 ≤ 1000000000 := h.1 (82, 1, -1000000000, 1000000000) (List.mem_of_getElem? (i := 64) rfl)
theorem st_82_1 {q : Mem → Prop} {ws : List (Int × Int)} {as : List Int} {M0 M : Mem} {v : Int} (h : St q ws as M0 M) (hm : ((82, 1) : Int × Int) ∈ ws) (hv : -1000000000 ≤ v ∧ v ≤ 1000000000) (hq : q (wr M 82 1 v)) : St q ws as M0 (wr M 82 1 v) := St.wf 64 h (by decide) hm rfl (by decide +kernel) (by decide +kernel) (by decide +kernel) hv hq
theorem ir_89_0 {M : Mem} (h : Iv M) : -2147483648 ≤ rd M 89 0 ∧ rd M 89 0 ≤ 2147483647 := h.1 (89, 0, -2147483648, 2147483647) (List.mem_of_getElem? (i := 65) rfl)
theorem st_89_0 {q : Mem → Prop} {ws : List (Int × Int)} {as : List Int} {M0 M : Mem} {v : Int} (h : St q ws as M0 M) (hm : ((89, 0) : Int × Int) ∈ ws) (hv : -2147483648 ≤ v ∧ v ≤ 2147483647) (hq : q (wr M 89 0 v)) : St q ws as M0 (wr M 89 0 v) := St.wf 65 h (by decide) hm rfl (by decide +kernel) (by decide +kernel) (by decide +kernel) hv hq
theorem ir_89_1 {M : Mem} (h : Iv M) : -1000000000 ≤ rd M 89 1 ∧ rd M 89 1 ≤ 1000000000 := h.1 (89, 1, -1000000000, 1000000000) (List.mem_of_getElem? (i := 66) rfl)
theorem st_89_1 {q : Mem → Prop} {ws : List (Int × Int)} {as : List Int} {M0 M : Mem} {v : Int} (h : St q ws as M0 M) (hm : ((89, 1) : Int × Int) ∈ ws) (hv : -1000000000 ≤ v ∧ v ≤ 1000000000) (hq : q (wr M 89 1 v)) : St q ws as M0 (wr M 89 1 v) := St.wf 66 h (by decide) hm rfl (by decide +kernel) (by decide +kernel) (by decide +kernel) hv hq
theorem ir_89_2 {M : Mem} (h : Iv M) : -1000000000 ≤ rd M 89 2 ∧ rd M 89 2 ≤ 1000000000 := h.1 (89, 2, -1000000000, 1000000000) (List.mem_of_getElem? (i := 67) rfl)
theorem st_89_2 {q : Mem → Prop} {ws : List (Int × Int)} {as : List Int} {M0 M : Mem} {v : Int} (h : St q ws as M0 M) (hm : ((89, 2) : Int × Int) ∈ ws) (hv : -1000000000 ≤ v ∧ v ≤ 1000000000) (hq : q (wr M 89 2 v)) : St q ws as M0 (wr M 89 2 v) := St.wf 67 h (by decide) hm rfl (by decide +kernel) (by decide +kernel) (by decide +kernel) hv hq
theorem ir_89_3 {M : Mem} (h : Iv M) : -1000000000 ≤ rd M 89 3 ∧ rd M 89 3 ≤ 1000000000 := h.1 (89, 3, -1000000000, 1000000000) (List.mem_of_getElem? (i := 68) rfl)
theorem st_89_3 {q : Mem → Prop} {ws : List (Int × Int)} {as : List Int} {M0 M : Mem} {v : Int} (h : St q ws as M0 M) (hm : ((89, 3) : Int × Int) ∈ ws) (hv : -1000000000 ≤ v ∧ v ≤ 1000000000) (hq : q (wr M 89 3 v)) : St q ws as M0 (wr M 89 3 v) := St.wf 68 h (by decide) hm rfl (by decide +kernel) (by decide +kernel) (by decide +kernel) hv hq
theorem ir_89_4 {M : Mem} (h : Iv M) : -1000000000 ≤ rd M 89 4 ∧ rd M 89 4 ≤ 1000000000 := h.1 (89, 4, -1000000000, 1000000000) (List.mem_of_getElem? (i := 69) rfl)
theorem st_89_4 {q : Mem → Prop} {ws : List (Int × Int)} {as : List Int} {M0 M : Mem} {v : Int} (h : St q ws as M0 M) (hm : ((89, 4) : Int × Int) ∈ ws) (hv : -1000000000 ≤ v ∧ v ≤ 1000000000) (hq : q (wr M 89 4 v)) : St q ws as M0 (wr M 89 4 v) := St.wf 69 h (by decide) hm rfl (by decide +kernel) (by decide +kernel) (by decide +kernel) hv hq
theorem ir_89_5 {M : Mem} (h : Iv M) : -1000000000 ≤ rd M 89 5 ∧ rd M 89 5 ≤ 1000000000 := h.1 (89, 5, -1000000000, 1000000000) (List.mem_of_getElem? (i := 70) rfl)
theorem st_89_5 {q : Mem → Prop} {ws : List (Int × Int)} {as : List Int} {M0 M : Mem} {v : Int} (h : St q ws as M0 M) (hm : ((89, 5) : Int × Int) ∈ ws) (hv : -1000000000 ≤ v ∧ v ≤ 1000000000) (hq : q (wr M 89 5 v)) : St q ws as M0 (wr M 89 5 v) := St.wf 70 h (by decide) hm rfl (by decide +kernel) (by decide +kernel) (by decide +kernel) hv hq
theorem ir_89_7 {M : Mem} (h : Iv M) : -2147483648 ≤ rd M 89 7 ∧ rd M 89 7 ≤ 2147483647 := h.1 (89, 7, -2147483648, 2147483647) (List.mem_of_getElem? (i := 71) rfl)
theorem st_89_7 {q : Mem → Prop} {ws : List (Int × Int)} {as : List Int} {M0 M : Mem} {v : Int} (h : St q ws as M0 M) (hm : ((89, 7) : Int × Int) ∈ ws) (hv : -2147483648 ≤ v ∧ v ≤ 2147483647) (hq : q (wr M 89 7 v)) : St q ws as M0 (wr M 89 7 v) := St.wf 71 h (by decide) hm rfl (by decide +kernel) (by decide +kernel) (by decide +kernel) hv hq
theorem ir_89_8 {M : Mem} (h : Iv M) : -1000000000 ≤ rd M 89 8 ∧ rd M 89 8 ≤ 1000000000 := h.1 (89, 8, -1000000000, 1000000000) (List.mem_of_getElem? (i := 72) rfl)
theorem st_89_8 {q : Mem → Prop} {ws : List (Int × Int)} {as : List Int} {M0 M : Mem} {v : Int} (h : St q ws as M0 M) (hm : ((89, 8) : Int × Int) ∈ ws) (hv : -1000000000 ≤ v ∧ v ≤ 1000000000) (hq : q (wr M 89 8 v)) : St q ws as M0 (wr M 89 8 v) := St.wf 72 h (by decide) hm rfl (by decide +kernel) (by decide +kernel) (by decide +kernel) hv hq
theorem ir_89_9 {M : Mem} (h : Iv M) : -1000000000 ≤ rd M 89 9 ∧ rd M 89 9 ≤ 1000000000 := h.1 (89, 9, -1000000000, 1000000000) (List.mem_of_getElem? (i := 73) rfl)
theorem st_89_9 {q : Mem → Prop} {ws : List (Int × Int)} {as : List Int} {M0 M : Mem} {v : Int} (h : St q ws as M0 M) (hm : ((89, 9) : Int × Int) ∈ ws) (hv : -1000000000 ≤ v ∧ v ≤ 1000000000) (hq : q (wr M 89 9 v)) : St q ws as M0 (wr M 89 9 v) := St.wf 73 h (by decide) hm rfl (by decide +kernel) (by decide +kernel) (by decide +kernel) hv hq
theorem ir_89_10 {M : Mem} (h : Iv M) : -1000000000 ≤ rd M 89 10 ∧ rd M 89 10 ≤ 1000000000 := h.1 (89, 10, -1000000000, 1000000000) (List.mem_of_getElem? (i := 74) rfl)
theorem st_89_10 {q : Mem → Prop} {ws : List (Int × Int)} {as : List Int} {M0 M : Mem} {v : Int} (h : St q ws as M0 M) (hm : ((89, 10) : Int × Int) ∈ ws) (hv : -1000000000 ≤ v ∧ v ≤ 1000000000) (hq : q (wr M 89 10 v)) : St q ws as M0 (wr M 89 10 v) := St.wf 74 h (by decide) hm rfl (by decide +kernel) (by decide +kernel) (by decide +kernel) hv hq
theorem ir_89_11 {M : Mem} (h : Iv M) : -1000000000 ≤ rd M 89 11 ∧ rd M 89 11 ≤ 1000000000 := h.1 (89, 11, -1000000000, 1000000000) (List.mem_of_getElem? (i := 75) rfl)
theorem st_89_11 {q : Mem → Prop} {ws : List (Int × Int)} {as : List Int} {M0 M : Mem} {v : Int} (h : St q ws as M0 M) (hm : ((89, 11) : Int × Int) ∈ ws) (hv : -1000000000 ≤ v ∧ v ≤ 1000000000) (hq : q (wr M 89 11 v)) : St q ws as M0 (wr M 89 11 v) := St.wf 75 h (by decide) hm rfl (by decide +kernel) (by decide +kernel) (by decide +kernel) hv hq
theorem ir_100_2 {M : Mem} (h : Iv M) : -9223372036854775808 ≤ rd M 100 2 ∧ rd M 100 2 ≤ 9223372036854775807 := h.1 (100, 2, -9223372036854775808, 9223372036854775807) (List.mem_of_getElem? (i := 76) rfl)
theorem st_100_2 {q : Mem → Prop} {ws : List (Int × Int)} {as : List Int} {M0 M : Mem} {v : Int} (h : St q ws as M0 M) (hm : ((100, 2) : Int × Int) ∈ ws) (hv : -9223372036854775808 ≤ v ∧ v ≤ 9223372036854775807) (hq : q (wr M 100 2 v)) : St q ws as M0 (wr M 100 2 v) := St.wf 76 h (by decide) hm rfl (by decide +kernel) (by decide +kernel) (by decide +kernel) hv hq
theorem ir_100_3 {M : Mem} (h : Iv M) : -2147483648 ≤ rd M 100 3 ∧ rd M 100 3 ≤ 2147483647 := h.1 (100, 3, -2147483648, 2147483647) (List.mem_of_getElem? (i := 77) rfl)
theorem st_100_3 {q : Mem → Prop} {ws : List (Int × Int)} {as : List Int} {M0 M : Mem} {v : Int} (h : St q ws as M0 M) (hm : ((100, 3) : Int × Int) ∈ ws) (hv : -2147483648 ≤ v ∧ v ≤ 2147483647) (hq : q (wr M 100 3 v)) : St q ws as M0 (wr M 100 3 v) := St.wf 77 h (by decide) hm rfl (by decide +kernel) (by decide +kernel) (by decide +kernel) hv hq
theorem ir_103_0 {M : Mem} (h : Iv M) : 0 ≤ rd M 103 0 ∧ rd M 103 0 ≤ 1 := h.1 (103, 0, 0, 1) (List.mem_of_getElem? (i := 78) rfl)
theorem st_103_0 {q : Mem → Prop} {ws : List (Int × Int)} {as : List Int} {M0 M : Mem} {v : Int} (h : St q ws as M0 M) (hm : ((103, 0) : Int × Int) ∈ ws) (hv : 0 ≤ v ∧ v ≤ 1) (hq : q (wr M 103 0 v)) : St q ws as M0 (wr M 103 0 v) := St.wf 78 h (by decide) hm rfl (by decide +kernel) (by decide +kernel) (by decide +kernel) hv hq
theorem ir_103_1 {M : Mem} (h : Iv M) : 0 ≤ rd M 103 1 ∧ rd M 103 1 ≤ 1 := h.1 (103, 1, 0, 1) (List.mem_of_getElem? (i := 79) rfl)
theorem st_103_1 {q : Mem → Prop} {ws : List (Int × Int)} {as : List Int} {M0 M : Mem} {v : Int} (h : St q ws as M0 M) (hm : ((103, 1) : Int × Int) ∈ ws) (hv : 0 ≤ v ∧ v ≤ 1) (hq : q (wr M 103 1 v)) : St q ws as M0 (wr M 103 1 v) := St.wf 79 h (by decide) hm rfl (by decide +kernel) (by decide +kernel) (by decide +kernel) hv hq
theorem ir_103_2 {M : Mem} (h : Iv M) : -2147483648 ≤ rd M 103 2 ∧ rd M 103 2 ≤ 2147483647 := h.1 (103, 2, -2147483648, 2147483647) (List.mem_of_getElem? (i := 80) rfl)
theorem st_103_2 {q : Mem → Prop} {ws : List (Int × Int)} {as : List Int} {M0 M : Mem} {v : Int} (h : St q ws as M0 M) (hm : ((103, 2) : Int × Int) ∈ ws) (hv : -2147483648 ≤ v ∧ v ≤ 2147483647) (hq : q (wr M 103 2 v)) : St q ws as M0 (wr M 103 2 v) := St.wf 80 h (by decide) hm rfl (by decide +kernel) (by decide +kernel) (by decide +kernel) hv hq
theorem ir_103_3 {M : Mem} (h : Iv M) : -2147483648 ≤ rd M 103 3 ∧ rd M 103 3 ≤ 2147483647 := h.1 (103, 3, -2147483648, 2147483647) (List.mem_of_getElem? (i := 81) rfl)
theorem st_103_3 {q : Mem → Prop} {ws : List (Int × Int)} {as : List Int} {M0 M : Mem} {v : Int} (h : St q ws as M0 M) (hm : ((103, 3) : Int × Int) ∈ ws) (hv : -2147483648 ≤ v ∧ v ≤ 2147483647) (hq : q (wr M 103 3 v)) : St q ws as M0 (wr M 103 3 v) := St.wf 81 h (by decide) hm rfl (by decide +kernel) (by decide +kernel) (by decide +kernel) hv hq
theorem ir_107_0 {M : Mem} (h : Iv M) : 0 ≤ rd M 107 0 ∧ rd M 107 0 ≤ 12 := h.1 (107, 0, 0, 12) (List.mem_of_getElem? (i := 82) rfl)
theorem st_107_0 {q : Mem → Prop} {ws : List (Int × Int)} {as : List Int} {M0 M : Mem} {v : Int} (h : St q ws as M0 M) (hm : ((107, 0) : Int × Int) ∈ ws) (hv : 0 ≤ v ∧ v ≤ 12) (hq : q (wr M 107 0 v)) : St q ws as M0 (wr M 107 0 v) := St.wf 82 h (by decide) hm rfl (by decide +kernel) (by decide +kernel) (by decide +kernel) hv hq
theorem ir_107_1 {M : Mem} (h : Iv M) : 0 ≤ rd M 107 1 ∧ rd M 107 1 ≤ 1 := h.1 (107, 1, 0, 1) (List.mem_of_getElem? (i := 83) rfl)
theorem st_107_1 {q : Mem → Prop} {ws : List (Int × Int)} {as : List Int} {M0 M : Mem} {v : Int} (h : St q ws as M0 M) (hm : ((107, 1) : Int × Int) ∈ ws) (hv : 0 ≤ v ∧ v ≤ 1) (hq : q (wr M 107 1 v)) : St q ws as M0 (wr M 107 1 v) := St.wf 83 h (by decide) hm rfl (by decide +kernel) (by decide +kernel) (by decide +kernel) hv hq
theorem ir_113_0 {M : Mem} (h : Iv M) : 0 ≤ rd M 113 0 ∧ rd M 113 0 ≤ 6 := h.1 (113, 0, 0, 6) (List.mem_of_getElem? (i := 84) rfl)
theorem st_113_0 {q : Mem → Prop} {ws : List (Int × Int)} {as : List Int} {M0 M : Mem} {v : Int} (h : St q ws as M0 M) (hm : ((113, 0) : Int × Int) ∈ ws) (hv : 0 ≤ v ∧ v ≤ 6) (hq : q (wr M 113 0 v)) : St q ws as M0 (wr M 113 0 v) := St.wf 84 h (by decide) hm rfl (by decide +kernel) (by decide +kernel) (by decide +kernel) hv hq
theorem ir_113_7 {M : Mem} (h : Iv M) : 0 ≤ rd M 113 7 ∧ rd M 113 7 ≤ 6 := h.1 (113, 7, 0, 6) (List.mem_of_getElem? (i := 85) rfl)
theorem st_113_7 {q : Mem → Prop} {ws : List (Int × Int)} {as : List Int} {M0 M : Mem} {v : Int} (h : St q ws as M0 M) (hm : ((113, 7) : Int × Int) ∈ ws) (hv : 0 ≤ v ∧ v ≤ 6) (hq : q (wr M 113 7 v)) : St q ws as M0 (wr M 113 7 v) := St.wf 85 h (by decide) hm rfl (by decide +kernel) (by decide +kernel) (by decide +kernel) hv hq
theorem ir_120_1 {M : Mem} (h : Iv M) : 0 ≤ rd M 120 1 ∧ rd M 120 1 ≤ 900 := h.1 (120, 1, 0, 900) (List.mem_of_getElem? (i := 86) rfl)
theorem st_120_1 {q : Mem → Prop} {ws : List (Int × Int)} {as : List Int} {M0 M : Mem} {v : Int} (h : St q ws as M0 M) (hm : ((120, 1) : Int × Int) ∈ ws) (hv : 0 ≤ v ∧ v ≤ 900) (hq : q (wr M 120 1 v)) : St q ws as M0 (wr M 120 1 v) := St.wf 86 h (by decide) hm rfl (by decide +kernel) (by decide +kernel) (by decide +kernel) hv hq
theorem ir_120_2 {M : Mem} (h : Iv M) : 0 ≤ rd M 120 2 ∧ rd M 120 2 ≤ 900 := h.1 (120, 2, 0, 900) (List.mem_of_getElem? (i := 87) rfl)
theorem st_120_2 {q : Mem → Prop} {ws : List (Int × Int)} {as : List Int} {M0 M : Mem} {v : Int} (h : St q ws as M0 M) (hm : ((120, 2) : Int × Int) ∈ ws) (hv : 0 ≤ v ∧ v ≤ 900) (hq : q (wr M 120 2 v)) : St q ws as M0 (wr M 120 2 v) := St.wf 87 h (by decide) hm rfl (by decide +kernel) (by decide +kernel) (by decide +kernel) hv hq
theorem ir_120_3 {M : Mem} (h : Iv M) : 0 ≤ rd M 120 3 ∧ rd M 120 3 ≤ 3 := h.1 (120, 3, 0, 3) (List.mem_of_getElem? (i := 88) rfl)
theorem st_120_3 {q : Mem → Prop} {ws : List (Int × Int)} {as : List Int} {M0 M : Mem} {v : Int} (h : St q ws as M0 M) (hm : ((120, 3) : Int × Int) ∈ ws) (hv : 0 ≤ v ∧ v ≤ 3) (hq : q (wr M 120 3 v)) : St q ws as M0 (wr M 120 3 v) := St.wf 88 h (by decide) hm rfl (by decide +kernel) (by decide +kernel) (by decide +kernel) hv hq
theorem ir_120_4 {M : Mem} (h : Iv M) : 0 ≤ rd M 120 4 ∧ rd M 120 4 ≤ 900 := h.1 (120, 4, 0, 900) (List.mem_of_getElem? (i := 89) rfl)
theorem st_120_4 {q : Mem → Prop} {ws : List (Int × Int)} {as : List Int} {M0 M : Mem} {v : Int} (h : St q ws as M0 M) (hm : ((120, 4) : Int × Int) ∈ ws) (hv : 0 ≤ v ∧ v ≤ 900) (hq : q (wr M 120 4 v)) : St q ws as M0 (wr M 120 4 v) := St.wf 89 h (by decide) hm rfl (by decide +kernel) (by decide +kernel) (by decide +kernel) hv hq
theorem ir_120_5 {M : Mem} (h : Iv M) : 0 ≤ rd M 120 5 ∧ rd M 120 5 ≤ 900 := h.1 (120, 5, 0, 900) (List.mem_of_getElem? (i := 90) rfl)
theorem st_120_5 {q : Mem → Prop} {ws : List (Int × Int)} {as : List Int} {M0 M : Mem} {v : Int} (h : St q ws as M0 M) (hm : ((120, 5) : Int × Int) ∈ ws) (hv : 0 ≤ v ∧ v ≤ 900) (hq : q (wr M 120 5 v)) : St q ws as M0 (wr M 120 5 v) := St.wf 90 h (by decide) hm rfl (by decide +kernel) (by decide +kernel) (by decide +kernel) hv hq
theorem ir_120_6 {M : Mem} (h : Iv M) : -2147483648 ≤ rd M 120 6 ∧ rd M 120 6 ≤ 2147483647 := h.1 (120, 6, -2147483648, 2147483647) (List.mem_of_getElem? (i := 91) rfl)
theorem st_120_6 {q : Mem → Prop} {ws : List (Int × Int)} {as : List Int} {M0 M : Mem} {v : Int} (h : St q ws as M0 M) (hm : ((120, 6) : Int × Int) ∈ ws) (hv : -2147483648 ≤ v ∧ v ≤ 2147483647) (hq : q (wr M 120 6 v)) : St q ws as M0 (wr M 120 6 v) := St.wf 91 h (by decide) hm rfl (by decide +kernel) (by decide +kernel) (by decide +kernel) hv hq
theorem ir_120_7 {M : Mem} (h : Iv M) : -9223372036854775808 ≤ rd M 120 7 ∧ rd M 120 7 ≤ 9223372036854775807 := h.1 (120, 7, -9223372036854775808, 9223372036854775807) (List.mem_of_getElem? (i := 92) rfl)
theorem st_120_7 {q : Mem → Prop} {ws : List (Int × Int)} {as : List Int} {M0 M : Mem} {v : Int} (h : St q ws as M0 M) (hm : ((120, 7) : Int × Int) ∈ ws) (hv : -9223372036854775808 ≤ v ∧ v ≤ 9223372036854775807) (hq : q (wr M 120 7 v)) : St q ws as M0 (wr M 120 7 v) := St.wf 92 h (by decide) hm rfl (by decide +kernel) (by decide +kernel) (by decide +kernel) hv hq
theorem ir_120_8 {M : Mem} (h : Iv M) : 0 ≤ rd M 120 8 ∧ rd M 120 8 ≤ 5 := h.1 (120, 8, 0, 5) (List.mem_of_getElem? (i := 93) rfl)
theorem st_120_8 {q : Mem → Prop} {ws : List (Int × Int)} {as : List Int} {M0 M : Mem} {v : Int} (h : St q ws as M0 M) (hm : ((120, 8) : Int × Int) ∈ ws) (hv : 0 ≤ v ∧ v ≤ 5) (hq : q (wr M 120 8 v)) : St q ws as M0 (wr M 120 8 v) := St.wf 93 h (by decide) hm rfl (by decide +kernel) (by decide +kernel) (by decide +kernel) hv hq
theorem ir_120_9 {M : Mem} (h : Iv M) : -2147483648 ≤ rd M 120 9 ∧ rd M 120 9 ≤ 2147483647 := h.1 (120, 9, -2147483648, 2147483647) (List.mem_of_getElem? (i := 94) rfl)
theorem st_120_9 {q : Mem → Prop} {ws : List (Int × Int)} {as : List Int} {M0 M : Mem} {v : Int} (h : St q ws as M0 M) (hm : ((120, 9) : Int × Int) ∈ ws) (hv : -2147483648 ≤ v ∧ v ≤ 2147483647) (hq : q (wr M 120 9 v)) : St q ws as M0 (wr M 120 9 v) := St.wf 94 h (by decide) hm rfl (by decide +kernel) (by decide +kernel) (by decide +kernel) hv hq
theorem ir_120_10 {M : Mem} (h : Iv M) : -2147483648 ≤ rd M 120 10 ∧ rd M 120 10 ≤ 2147483647 := h.1 (120, 10, -2147483648, 2147483647) (List.mem_of_getElem? (i := 95) rfl)
theorem st_120_10 {q : Mem → Prop} {ws : List (Int × Int)} {as : List Int} {M0 M : Mem} {v : Int} (h : St q ws as M0 M) (hm : ((120, 10) : Int × Int) ∈ ws) (hv : -2147483648 ≤ v ∧ v ≤ 2147483647) (hq : q (wr M 120 10 v)) : St q ws as M0 (wr M 120 10 v) := St.wf 95 h (by decide) hm rfl (by decide +kernel) (by decide +kernel) (by decide +kernel) hv hq
theorem ir_120_11 {M : Mem} (h : Iv M) : -2147483648 ≤ rd M 120 11 ∧ rd M 120 11 ≤ 2147483647 := h.1 (120, 11, -2147483648, 2147483647) (List.mem_of_getElem? (i := 96) rfl)
theorem st_120_11 {q : Mem → Prop} {ws : List (Int × Int)} {as : List Int} {M0 M : Mem} {v : Int} (h : St q ws as M0 M) (hm : ((120, 11) : Int × Int) ∈ ws) (hv : -2147483648 ≤ v ∧ v ≤ 2147483647) (hq : q (wr M 120 11 v)) : St q ws as M0 (wr M 120 11 v) := St.wf 96 h (by decide) hm rfl (by decide +kernel) (by decide +kernel) (by decide +kernel) hv hq
theorem ir_120_12 {M : Mem} (h : Iv M) : 0 ≤ rd M 120 12 ∧ rd M 120 12 ≤ 1 := h.1 (120, 12, 0, 1) (List.mem_of_getElem? (i := 97) rfl)
theorem st_120_12 {q : Mem → Prop} {ws : List (Int × Int)} {as : List Int} {M0 M : Mem} {v : Int} (h : St q ws as M0 M) (hm : ((120, 12) : Int × Int) ∈ ws) (hv : 0 ≤ v ∧ v ≤ 1) (hq : q (wr M 120 12 v)) : St q ws as M0 (wr M 120 12 v) := St.wf 97 h (by decide) hm rfl (by decide +kernel) (by decide +kernel) (by decide +kernel) hv hq
theorem ir_120_36 {M : Mem} (h : Iv M) : 0 ≤ rd M 120 36 ∧ rd M 120 36 ≤ 900 := h.1 (120, 36, 0, 900) (List.mem_of_getElem? (i := 98) rfl)
theorem st_120_36 {q : Mem → Prop} {ws : List (Int × Int)} {as : List Int} {M0 M : Mem} {v : Int} (h : St q ws as M0 M) (hm : ((120, 36) : Int × Int) ∈ ws) (hv : 0 ≤ v ∧ v ≤ 900) (hq : q (wr M 120 36 v)) : St q ws as M0 (wr M 120 36 v) := St.wf 98 h (by decide) hm rfl (by decide +kernel) (by decide +kernel) (by decide +kernel) hv hq
theorem ir_120_37 {M : Mem} (h : Iv M) : 0 ≤ rd M 120 37 ∧ rd M 120 37 ≤ 1 := h.1 (120, 37, 0, 1) (List.mem_of_getElem? (i := 99) rfl)
theorem st_120_37 {q : Mem → Prop} {ws : List (Int × Int)} {as : List Int} {M0 M : Mem} {v : Int} (h : St q ws as M0 M) (hm : ((120, 37) : Int × Int) ∈ ws) (hv : 0 ≤ v ∧ v ≤ 1) (hq : q (wr M 120 37 v)) : St q ws as M0 (wr M 120 37 v) := St.wf 99 h (by decide) hm rfl (by decide +kernel) (by decide +kernel) (by decide +kernel) hv hq
theorem ir_120_43 {M : Mem} (h : Iv M) : 0 ≤ rd M 120 43 ∧ rd M 120 43 ≤ 20 := h.1 (120, 43, 0, 20) (List.mem_of_getElem? (i := 100) rfl)
theorem st_120_43 {q : Mem → Prop} {ws : List (Int × Int)} {as : List Int} {M0 M : Mem} {v : Int} (h : St q ws as M0 M) (hm : ((120, 43) : Int × Int) ∈ ws) (hv : 0 ≤ v ∧ v ≤ 20) (hq : q (wr M 120 43 v)) : St q ws as M0 (wr M 120 43 v) := St.wf 100 h (by decide) hm rfl (by decide +kernel) (by decide +kernel) (by decide +kernel) hv hq
theorem ir_120_44 {M : Mem} (h : Iv M) : 0 ≤ rd M 120 44 ∧ rd M 120 44 ≤ 8 := h.1 (120, 44, 0, 8) (List.mem_of_getElem? (i := 101) rfl)
theorem st_120_44 {q : Mem → Prop} {ws : List (Int × Int)} {as : List Int} {M0 M : Mem} {v : Int} (h : St q ws as M0 M) (hm : ((120, 44) : Int × Int) ∈ ws) (hv : 0 ≤ v ∧ v ≤ 8) (hq : q (wr M 120 44 v)) : St q ws as M0 (wr M 120 44 v) := St.wf 101 h (by decide) hm rfl (by decide +kernel) (by decide +kernel) (by decide +kernel) hv hq
theorem ir_120_46 {M : Mem} (h : Iv M) : 0 ≤ rd M 120 46 ∧ rd M 120 46 ≤ 500 := h.1 (120, 46, 0, 500) (List.mem_of_getElem? (i := 102) rfl)
theorem st_120_46 {q : Mem → Prop} {ws : List (Int × Int)} {as : List Int} {M0 M : Mem} {v : Int} (h : St q ws as M0 M) (hm : ((120, 46) : Int × Int) ∈ ws) (hv : 0 ≤ v ∧ v ≤ 500) (hq : q (wr M 120 46 v)) : St q ws as M0 (wr M 120 46 v) := St.wf 102 h (by decide) hm rfl (by decide +kernel) (by decide +kernel) (by decide +kernel) hv hq
theorem ir_120_47 {M : Mem} (h : Iv M) : 0 ≤ rd M 120 47 ∧ rd M 120 47 ≤ 1 := h.1 (120, 47, 0, 1) (List.mem_of_getElem? (i := 103) rfl)
theorem st_120_47 {q : Mem → Prop} {ws : List (Int × Int)} {as : List Int} {M0 M : Mem} {v : Int} (h : St q ws as M0 M) (hm : ((120, 47) : Int × Int) ∈ ws) (hv : 0 ≤ v ∧ v ≤ 1) (hq : q (wr M 120 47 v)) : St q ws as M0 (wr M 120 47 v) := St.wf 103 h (by decide) hm rfl (by decide +kernel) (by decide +kernel) (by decide +kernel) hv hq
theorem ir_120_50 {M : Mem} (h : Iv M) : 0 ≤ rd M 120 50 ∧ rd M 120 50 ≤ 20 := h.1 (120, 50, 0, 20) (List.mem_of_getElem? (i := 104) rfl)
theorem st_120_50 {q : Mem → Prop} {ws : List (Int × Int)} {as : List Int} {M0 M : Mem} {v : Int} (h : St q ws as M0 M) (hm : ((120, 50) : Int × Int) ∈ ws) (hv : 0 ≤ v ∧ v ≤ 20) (hq : q (wr M 120 50 v)) : St q ws as M0 (wr M 120 50 v) := St.wf 104 h (by decide) hm rfl (by decide +kernel) (by decide +kernel) (by decide +kernel) hv hq
theorem ir_120_59 {M : Mem} (h : Iv M) : -1 ≤ rd M 120 59 ∧ rd M 120 59 ≤ 5 := h.1 (120, 59, -1, 5) (List.mem_of_getElem? (i := 105) rfl)
theorem st_120_59 {q : Mem → Prop} {ws : List (Int × Int)} {as : List Int} {M0 M : Mem} {v : Int} (h : St q ws as M0 M) (hm : ((120, 59) : Int × Int) ∈ ws) (hv : -1 ≤ v ∧ v ≤ 5) (hq : q (wr M 120 59 v)) : St q ws as M0 (wr M 120 59 v) := St.wf 105 h (by decide) hm rfl (by decide +kernel) (by decide +kernel) (by decide +kernel) hv hq
theorem ir_120_60 {M : Mem} (h : Iv M) : -2147483648 ≤ rd M 120 60 ∧ rd M 120 60 ≤ 2147483647 := h.1 (120, 60, -2147483648, 2147483647) (List.mem_of_getElem? (i := 106) rfl)
theorem st_120_60 {q : Mem → Prop} {ws : List (Int × Int)} {as : List Int} {M0 M : Mem} {v : Int} (h : St q ws as M0 M) (hm : ((120, 60) : Int × Int) ∈ ws) (hv : -2147483648 ≤ v ∧ v ≤ 2147483647) (hq : q (wr M 120 60 v)) : St q ws as M0 (wr M 120 60 v) := St.wf 106 h (by decide) hm rfl (by decide +kernel) (by decide +kernel) (by decide +kernel) hv hq
theorem ir_120_61 {M : Mem} (h : Iv M) : 0 ≤ rd M 120 61 ∧ rd M 120 61 ≤ 3 := h.1 (120, 61, 0, 3) (List.mem_of_getElem? (i := 107) rfl)
theorem st_120_61 {q : Mem → Prop} {ws : List (Int × Int)} {as : List Int} {M0 M : Mem} {v : Int} (h : St q ws as M0 M) (hm : ((120, 61) : Int × Int) ∈ ws) (hv : 0 ≤ v ∧ v ≤ 3) (hq : q (wr M 120 61 v)) : St q ws as M0 (wr M 120 61 v) := St.wf 107 h (by decide) hm rfl (by decide +kernel) (by decide +kernel) (by decide +kernel) hv hq
theorem ir_120_62 {M : Mem} (h : Iv M) : 0 ≤ rd M 120 62 ∧ rd M 120 62 ≤ 2060 := h.1 (120, 62, 0, 2060) (List.mem_of_getElem? (i := 108) rfl)
theorem st_120_62 {q : Mem → Prop} {ws : List (Int × Int)} {as : List Int} {M0 M : Mem} {v : Int} (h : St q ws as M0 M) (hm : ((120, 62) : Int × Int) ∈ ws) (hv : 0 ≤ v ∧ v ≤ 2060) (hq : q (wr M 120 62 v)) : St q ws as M0 (wr M 120 62 v) := St.wf 108 h (by decide) hm rfl (by decide +kernel) (by decide +kernel) (by decide +kernel) hv hq
theorem ir_120_63 {M : Mem} (h : Iv M) : -9223372036854775808 ≤ rd M 120 63 ∧ rd M 120 63 ≤ 9223372036854775807 := h.1 (120, 63, -9223372036854775808, 9223372036854775807) (List.mem_of_getElem? (i := 109) rfl)
theorem st_120_63 {q : Mem → Prop} {ws : List (Int × Int)} {as : List Int} {M0 M : Mem} {v : Int} (h : St q ws as M0 M) (hm : ((120, 63) : Int × Int) ∈ ws) (hv : -9223372036854775808 ≤ v ∧ v ≤ 9223372036854775807) (hq : q (wr M 120 63 v)) : St q ws as M0 (wr M 120 63 v) := St.wf 109 h (by decide) hm rfl (by decide +kernel) (by decide +kernel) (by decide +kernel) hv hq
theorem ir_120_64 {M : Mem} (h : Iv M) : -9223372036854775808 ≤ rd M 120 64 ∧ rd M 120 64 ≤ 9223372036854775807 := h.1 (120, 64, -9223372036854775808, 9223372036854775807) (List.mem_of_getElem? (i := 110) rfl)
theorem st_120_64 {q : Mem → Prop} {ws : List (Int × Int)} {as : List Int} {M0 M : Mem} {v : Int} (h : St q ws as M0 M) (hm : ((120, 64) : Int × Int) ∈ ws) (hv : -9223372036854775808 ≤ v ∧ v ≤ 9223372036854775807) (hq : q (wr M 120 64 v)) : St q ws as M0 (wr M 120 64 v) := St.wf 110 h (by decide) hm rfl (by decide +kernel) (by decide +kernel) (by decide +kernel) hv hq
theorem ir_120_65 {M : Mem} (h : Iv M) : -2147483648 ≤ rd M 120 65 ∧ rd M 120 65 ≤ 2147483647 := h.1 (120, 65, -2147483648, 2147483647) (List.mem_of_getElem? (i := 111) rfl)
theorem st_120_65 {q : Mem → Prop} {ws : List (Int × Int)} {as : List Int} {M0 M : Mem} {v : Int} (h : St q ws as M0 M) (hm : ((120, 65) : Int × Int) ∈ ws) (hv : -2147483648 ≤ v ∧ v ≤ 2147483647) (hq : q (wr M 120 65 v)) : St q ws as M0 (wr M 120 65 v) := St.wf 111 h (by decide) hm rfl (by decide +kernel) (by decide +kernel) (by decide +kernel) hv hq
theorem ir_120_66 {M : Mem} (h : Iv M) : -2147483648 ≤ rd M 120 66 ∧ rd M 120 66 ≤ 2147483647 := h.1 (120, 66, -2147483648, 2147483647) (List.mem_of_getElem? (i := 112) rfl)
theorem st_120_66 {q : Mem → Prop} {ws : List (Int × Int)} {as : List Int} {M0 M : Mem} {v : Int} (h : St q ws as M0 M) (hm : ((120, 66) : Int × Int) ∈ ws) (hv : -2147483648 ≤ v ∧ v ≤ 2147483647) (hq : q (wr M 120 66 v)) : St q ws as M0 (wr M 120 66 v) := St.wf 112 h (by decide) hm rfl (by decide +kernel) (by decide +kernel) (by decide +kernel) hv hq
theorem ir_120_67 {M : Mem} (h : Iv M) : -2147483648 ≤ rd M 120 67 ∧ rd M 120 67 ≤ 2147483647 := h.1 (120, 67, -2147483648, 2147483647) (List.mem_of_getElem? (i := 113) rfl)
theorem st_120_67 {q : Mem → Prop} {ws : List (Int × Int)} {as : List Int} {M0 M : Mem} {v : Int} (h : St q ws as M0 M) (hm : ((120, 67) : Int × Int) ∈ ws) (hv : -2147483648 ≤ v ∧ v ≤ 2147483647) (hq : q (wr M 120 67 v)) : St q ws as M0 (wr M 120 67 v) := St.wf 113 h (by decide) hm rfl (by decide +kernel) (by decide +kernel) (by decide +kernel) hv hq
theorem ir_120_68 {M : Mem} (h : Iv M) : 0 ≤ rd M 120 68 ∧ rd M 120 68 ≤ 2 := h.1 (120, 68, 0, 2) (List.mem_of_getElem? (i := 114) rfl)
theorem st_120_68 {q : Mem → Prop} {ws : List (Int × Int)} {as : List Int} {M0 M : Mem} {v : Int} (h : St q ws as M0 M) (hm : ((120, 68) : Int × Int) ∈ ws) (hv : 0 ≤ v ∧ v ≤ 2) (hq : q (wr M 120 68 v)) : St q ws as M0 (wr M 120 68 v) := St.wf 114 h (by decide) hm rfl (by decide +kernel) (by decide +kernel) (by decide +kernel) hv hq
theorem ir_120_70 {M : Mem} (h : Iv M) : 0 ≤ rd M 120 70 ∧ rd M 120 70 ≤ 1 := h.1 (120, 70, 0, 1) (List.mem_of_getElem? (i := 115) rfl)
theorem st_120_70 {q : Mem → Prop} {ws : List (Int × Int)} {as : List Int} {M0 M : Mem} {v : Int} (h : St q ws as M0 M) (hm : ((120, 70) : Int × Int) ∈ ws) (hv : 0 ≤ v ∧ v ≤ 1) (hq : q (wr M 120 70 v)) : St q ws as M0 (wr M 120 70 v) := St.wf 115 h (by decide) hm rfl (by decide +kernel) (by decide +kernel) (by decide +kernel) hv hq
theorem ir_120_75 {M : Mem} (h : Iv M) : 0 ≤ rd M 120 75 ∧ rd M 120 75 ≤ 2100 := h.1 (120, 75, 0, 2100) (List.mem_of_getElem? (i := 116) rfl)
theorem st_120_75 {q : Mem → Prop} {ws : List (Int × Int)} {as : List Int} {M0 M : Mem} {v : Int} (h : St q ws as M0 M) (hm : ((120, 75) : Int × Int) ∈ ws) (hv : 0 ≤ v ∧ v ≤ 2100) (hq : q (wr M 120 75 v)) : St q ws as M0 (wr M 120 75 v) := St.wf 116 h (by decide) hm rfl (by decide +kernel) (by decide +kernel) (by decide +kernel) hv hq
theorem ir_120_79 {M : Mem} (h : Iv M) : 0 ≤ rd M 120 79 ∧ rd M 120 79 ≤ 2100 := h.1 (120, 79, 0, 2100) (List.mem_of_getElem? (i := 117) rfl)
theorem st_120_79 {q : Mem → Prop} {ws : List (Int × Int)} {as : List Int} {M0 M : Mem} {v : Int} (h : St q ws as M0 M) (hm : ((120, 79) : Int × Int) ∈ ws) (hv : 0 ≤ v ∧ v ≤ 2100) (hq : q (wr M 120 79 v)) : St q ws as M0 (wr M 120 79 v) := St.wf 117 h (by decide) hm rfl (by decide +kernel) (by decide +kernel) (by decide +kernel) hv hq
theorem ir_120_84 {M : Mem} (h : Iv M) : -2147483648 ≤ rd M 120 84 ∧ rd M 120 84 ≤ 2147483647 := h.1 (120, 84, -2147483648, 2147483647) (List.mem_of_getElem? (i := 118) rfl)
theorem st_120_84 {q : Mem → Prop} {ws : List (Int × Int)} {as : List Int} {M0 M : Mem} {v : Int} (h : St q ws as M0 M) (hm : ((120, 84) : Int × Int) ∈ ws) (hv : -2147483648 ≤ v ∧ v ≤ 2147483647) (hq : q (wr M 120 84 v)) : St q ws as M0 (wr M 120 84 v) := St.wf 118 h (by decide) hm rfl (by decide +kernel) (by decide +kernel) (by decide +kernel) hv hq
theorem ir_120_85 {M : Mem} (h : Iv M) : 0 ≤ rd M 120 85 ∧ rd M 120 85 ≤ 1 := h.1 (120, 85, 0, 1) (List.mem_of_getElem? (i := 119) rfl)
theorem st_120_85 {q : Mem → Prop} {ws : List (Int × Int)} {as : List Int} {M0 M : Mem} {v : Int} (h : St q ws as M0 M) (hm : ((120, 85) : Int × Int) ∈ ws) (hv : 0 ≤ v ∧ v ≤ 1) (hq : q (wr M 120 85 v)) : St q ws as M0 (wr M 120 85 v) := St.wf 119 h (by decide) hm rfl (by decide +kernel) (by decide +kernel) (by decide +kernel) hv hq
theorem ir_120_86 {M : Mem} (h : Iv M) : 0 ≤ rd M 120 86 ∧ rd M 120 86 ≤ 2060 := h.1 (120, 86, 0, 2060) (List.mem_of_getElem? (i := 120) rfl)
theorem st_120_86 {q : Mem → Prop} {ws : List (Int × Int)} {as : List Int} {M0 M : Mem} {v : Int} (h : St q ws as M0 M) (hm : ((120, 86) : Int × Int) ∈ ws) (hv : 0 ≤ v ∧ v ≤ 2060) (hq : q (wr M 120 86 v)) : St q ws as M0 (wr M 120 86 v) := St.wf 120 h (by decide) hm rfl (by decide +kernel) (by decide +kernel) (by decide +kernel) hv hq
theorem ir_120_87 {M : Mem} (h : Iv M) : -9223372036854775808 ≤ rd M 120 87 ∧ rd M 120 87 ≤ 9223372036854775807 := h.1 (120, 87, -9223372036854775808, 9223372036854775807) (List.mem_of_getElem? (i := 121) rfl)
theorem st_120_87 {q : Mem → Prop} {ws : List (Int × Int)} {as : List Int} {M0 M : Mem} {v : Int} (h : St q ws as M0 M) (hm : ((120, 87) : Int × Int) ∈ ws) (hv : -9223372036854775808 ≤ v ∧ v ≤ 9223372036854775807) (hq : q (wr M 120 87 v)) : St q ws as M0 (wr M 120 87 v) := St.wf 121 h (by decide) hm rfl (by decide +kernel) (by decide +kernel) (by decide +kernel) hv hq
theorem ir_120_88 {M : Mem} (h : Iv M) : -2147483648 ≤ rd M 120 88 ∧ rd M 120 88 ≤ 2147483647 := h.1 (120, 88, -2147483648, 2147483647) (List.mem_of_getElem? (i := 122) rfl)
theorem st_120_88 {q : Mem → Prop} {ws : List (Int × Int)} {as : List Int} {M0 M : Mem} {v : Int} (h : St q ws as M0 M) (hm : ((120, 88) : Int × Int) ∈ ws) (hv : -2147483648 ≤ v ∧ v ≤ 2147483647) (hq : q (wr M 120 88 v)) : St q ws as M0 (wr M 120 88 v) := St.wf 122 h (by decide) hm rfl (by decide +kernel) (by decide +kernel) (by decide +kernel) hv hq
theorem ir_120_89 {M : Mem} (h : Iv M) : -2147483648 ≤ rd M 120 89 ∧ rd M 120 89 ≤ 2147483647 := h.1 (120, 89, -2147483648, 2147483647) (List.mem_of_getElem? (i := 123) rfl)
theorem st_120_89 {q : Mem → Prop} {ws : List (Int × Int)} {as : List Int} {M0 M : Mem} {v : Int} (h : St q ws as M0 M) (hm : ((120, 89) : Int × Int) ∈ ws) (hv : -2147483648 ≤ v ∧ v ≤ 2147483647) (hq : q (wr M 120 89 v)) : St q ws as M0 (wr M 120 89 v) := St.wf 123 h (by decide) hm rfl (by decide +kernel) (by decide +kernel) (by decide +kernel) hv hq
theorem ir_120_90 {M : Mem} (h : Iv M) : -2147483648 ≤ rd M 120 90 ∧ rd M 120 90 ≤ 2147483647 := h.1 (120, 90, -2147483648, 2147483647) (List.mem_of_getElem? (i := 124) rfl)
theorem st_120_90 {q : Mem → Prop} {ws : List (Int × Int)} {as : List Int} {M0 M : Mem} {v : Int} (h : St q ws as M0 M) (hm : ((120, 90) : Int × Int) ∈ ws) (hv : -2147483648 ≤ v ∧ v ≤ 2147483647) (hq : q (wr M 120 90 v)) : St q ws as M0 (wr M 120 90 v) := St.wf 124 h (by decide) hm rfl (by decide +kernel) (by decide +kernel) (by decide +kernel) hv hq
theorem ir_120_91 {M : Mem} (h : Iv M) : -2147483648 ≤ rd M 120 91 ∧ rd M 120 91 ≤ 2147483647 := h.1 (120, 91, -2147483648, 2147483647) (List.mem_of_getElem? (i := 125) rfl)
theorem st_120_91 {q : Mem → Prop} {ws : List (Int × Int)} {as : List Int} {M0 M : Mem} {v : Int} (h : St q ws as M0 M) (hm : ((120, 91) : Int × Int) ∈ ws) (hv : -2147483648 ≤ v ∧ v ≤ 2147483647) (hq : q (wr M 120 91 v)) : St q ws as M0 (wr M 120 91 v) := St.wf 125 h (by decide) hm rfl (by decide +kernel) (by decide +kernel) (by decide +kernel) hv hq
theorem ir_120_95 {M : Mem} (h : Iv M) : 0 ≤ rd M 120 95 ∧ rd M 120 95 ≤ 2100 := h.1 (120, 95, 0, 2100) (List.mem_of_getElem? (i := 126) rfl)
theorem st_120_95 {q : Mem → Prop} {ws : List (Int × Int)} {as : List Int} {M0 M : Mem} {v : Int} (h : St q ws as M0 M) (hm : ((120, 95) : Int × Int) ∈ ws) (hv : 0 ≤ v ∧ v ≤ 2100) (hq : q (wr M 120 95 v)) : St q ws as M0 (wr M 120 95 v) := St.wf 126 h (by decide) hm rfl (by decide +kernel) (by decide +kernel) (by decide +kernel) hv hq
theorem ir_120_96 {M : Mem} (h : Iv M) : 0 ≤ rd M 120 96 ∧ rd M 120 96 ≤ 2100 := h.1 (120, 96, 0, 2100) (List.mem_of_getElem? (i := 127) rfl)
theorem st_120_96 {q : Mem → Prop} {ws : List (Int × Int)} {as : List Int} {M0 M : Mem} {v : Int} (h : St q ws as M0 M) (hm : ((120, 96) : Int × Int) ∈ ws) (hv : 0 ≤ v ∧ v ≤ 2100) (hq : q (wr M 120 96 v)) : St q ws as M0 (wr M 120 96 v) := St.wf 127 h (by decide) hm rfl (by decide +kernel) (by decide +kernel) (by decide +kernel) hv hq
theorem ir_120_97 {M : Mem} (h : Iv M) : 0 ≤ rd M 120 97 ∧ rd M 120 97 ≤ 2100 := h.1 (120, 97, 0, 2100) (List.mem_of_getElem? (i := 128) rfl)
theorem st_120_97 {q : Mem → Prop} {ws : List (Int × Int)} {as : List Int} {M0 M : Mem} {v : Int} (h : St q ws as M0 M) (hm : ((120, 97) : Int × Int) ∈ ws) (hv : 0 ≤ v ∧ v ≤ 2100) (hq : q (wr M 120 97 v)) : St q ws as M0 (wr M 120 97 v) := St.wf 128 h (by decide) hm rfl (by decide +kernel) (by decide +kernel) (by decide +kernel) hv hq
theorem ir_120_98 {M : Mem} (h : Iv M) : 0 ≤ rd M 120 98 ∧ rd M 120 98 ≤ 2100 := h.1 (120, 98, 0, 2100) (List.mem_of_getElem? (i := 129) rfl)
theorem st_120_98 {q : Mem → Prop} {ws : List (Int × Int)} {as : List Int} {M0 M : Mem} {v : Int} (h : St q ws as M0 M) (hm : ((120, 98) : Int × Int) ∈ ws) (hv : 0 ≤ v ∧ v ≤ 2100) (hq : q (wr M 120 98 v)) : St q ws as M0 (wr M 120 98 v) := St.wf 129 h (by decide) hm rfl (by decide +kernel) (by decide +kernel) (by decide +kernel) hv hq
theorem ir_120_99 {M : Mem} (h : Iv M) : -2147483648 ≤ rd M 120 99 ∧ rd M 120 99 ≤ 2147483647 := h.1 (120, 99, -2147483648, 2147483647) (List.mem_of_getElem? (i := 130) rfl)
theorem st_120_99 {q : Mem → Prop} {ws : List (Int × Int)} {as : List Int} {M0 M : Mem} {v : Int} (h : St q ws as M0 M) (hm : ((120, 99) : Int × Int) ∈ ws) (hv : -2147483648 ≤ v ∧ v ≤ 2147483647) (hq : q (wr M 120 99 v)) : St q ws as M0 (wr M 120 99 v) := St.wf 130 h (by decide) hm rfl (by decide +kernel) (by decide +kernel) (by decide +kernel) hv hq
theorem ir_120_101 {M : Mem} (h : Iv M) : 0 ≤ rd M 120 101 ∧ rd M 120 101 ≤ 8 := h.1 (120, 101, 0, 8) (List.mem_of_getElem? (i := 131) rfl)
theorem st_120_101 {q : Mem → Prop} {ws : List (Int × Int)} {as : List Int} {M0 M : Mem} {v : Int} (h : St q ws as M0 M) (hm : ((120, 101) : Int × Int) ∈ ws) (hv : 0 ≤ v ∧ v ≤ 8) (hq : q (wr M 120 101 v)) : St q ws as M0 (wr M 120 101 v) := St.wf 131 h (by decide) hm rfl (by decide +kernel) (by decide +kernel) (by decide +kernel) hv hq
theorem ir_120_104 {M : Mem} (h : Iv M) : 0 ≤ rd M 120 104 ∧ rd M 120 104 ≤ 1 := h.1 (120, 104, 0, 1) (List.mem_of_getElem? (i := 132) rfl)
theorem st_120_104 {q : Mem → Prop} {ws : List (Int × Int)} {as : List Int} {M0 M : Mem} {v : Int} (h : St q ws as M0 M) (hm : ((120, 104) : Int × Int) ∈ ws) (hv : 0 ≤ v ∧ v ≤ 1) (hq : q (wr M 120 104 v)) : St q ws as M0 (wr M 120 104 v) := St.wf 132 h (by decide) hm rfl (by decide +kernel) (by decide +kernel) (by decide +kernel) hv hq
theorem ir_120_106 {M : Mem} (h : Iv M) : 0 ≤ rd M 120 106 ∧ rd M 120 106 ≤ 12 := h.1 (120, 106, 0, 12) (List.mem_of_getElem? (i := 133) rfl)
theorem st_120_106 {q : Mem → Prop} {ws : List (Int × Int)} {as : List Int} {M0 M : Mem} {v : Int} (h : St q ws as M0 M) (hm : ((120, 106) : Int × Int) ∈ ws) (hv : 0 ≤ v ∧ v ≤ 12) (hq : q (wr M 120 106 v)) : St q ws as M0 (wr M 120 106 v) := St.wf 133 h (by decide) hm rfl (by decide +kernel) (by decide +kernel) (by decide +kernel) hv hq
theorem ir_120_109 {M : Mem} (h : Iv M) : 0 ≤ rd M 120 109 ∧ rd M 120 109 ≤ 1 := h.1 (120, 109, 0, 1) (List.mem_of_getElem? (i := 134) rfl)
theorem st_120_109 {q : Mem → Prop} {ws : List (Int × Int)} {as : List Int} {M0 M : Mem} {v : Int} (h : St q ws as M0 M) (hm : ((120, 109) : Int × Int) ∈ ws) (hv : 0 ≤ v ∧ v ≤ 1) (hq : q (wr M 120 109 v)) : St q ws as M0 (wr M 120 109 v) := St.wf 134 h (by decide) hm rfl (by decide +kernel) (by decide +kernel) (by decide +kernel) hv hq
theorem ir_120_113 {M : Mem} (h : Iv M) : 0 ≤ rd M 120 113 ∧ rd M 120 113 ≤ 6 := h.1 (120, 113, 0, 6) (List.mem_of_getElem? (i := 135) rfl)
theorem st_120_113 {q : Mem → Prop} {ws : List (Int × Int)} {as : List Int} {M0 M : Mem} {v : Int} (h : St q ws as M0 M) (hm : ((120, 113) : Int × Int) ∈ ws) (hv : 0 ≤ v ∧ v ≤ 6) (hq : q (wr M 120 113 v)) : St q ws as M0 (wr M 120 113 v) := St.wf 135 h (by decide) hm rfl (by decide +kernel) (by decide +kernel) (by decide +kernel) hv hq
theorem ir_120_117 {M : Mem} (h : Iv M) : 0 ≤ rd M 120 117 ∧ rd M 120 117 ≤ 6 := h.1 (120, 117, 0, 6) (List.mem_of_getElem? (i := 136) rfl)
theorem st_120_117 {q : Mem → Prop} {ws : List (Int × Int)} {as : List Int} {M0 M : Mem} {v : Int} (h : St q ws as M0 M) (hm : ((120, 117) : Int × Int) ∈ ws) (hv : 0 ≤ v ∧ v ≤ 6) (hq : q (wr M 120 117 v)) : St q ws as M0 (wr M 120 117 v) := St.wf 136 h (by decide) hm rfl (by decide +kernel) (by decide +kernel) (by decide +kernel) hv hq
theorem ir_122_0 {M : Mem} (h : Iv M) : -2147483648 ≤ rd M 122 0 ∧ rd M 122 0 ≤ 2147483647 := h.1 (122, 0, -2147483648, 2147483647) (List.mem_of_getElem? (i := 137) rfl)
theorem st_122_0 {q : Mem → Prop} {ws : List (Int × Int)} {as : List Int} {M0 M : Mem} {v : Int} (h : St q ws as M0 M) (hm : ((122, 0) : Int × Int) ∈ ws) (hv : -2147483648 ≤ v ∧ v ≤ 2147483647) (hq : q (wr M 122 0 v)) : St q ws as M0 (wr M 122 0 v) := St.wf 137 h (by decide) hm rfl (by decide +kernel) (by decide +kernel) (by decide +kernel) hv hq
theorem ir_122_1 {M : Mem} (h : Iv M) : -2147483648 ≤ rd M 122 1 ∧ rd M 122 1 ≤ 2147483647 := h.1 (122, 1, -2147483648, 2147483647) (List.mem_of_getElem? (i := 138) rfl)
theorem st_122_1 {q : Mem → Prop} {ws : List (Int × Int)} {as : List Int} {M0 M : Mem} {v : Int} (h : St q ws as M0 M) (hm : ((122, 1) : Int × Int) ∈ ws) (hv : -2147483648 ≤ v ∧ v ≤ 2147483647) (hq : q (wr M 122 1 v)) : St q ws as M0 (wr M 122 1 v) := St.wf 138 h (by decide) hm rfl (by decide +kernel) (by decide +kernel) (by decide +kernel) hv hq
theorem ir_123_0 {M : Mem} (h : Iv M) : -2147483648 ≤ rd M 123 0 ∧ rd M 123 0 ≤ 2147483647 := h.1 (123, 0, -2147483648, 2147483647) (List.mem_of_getElem? (i := 139) rfl)
theorem st_123_0 {q : Mem → Prop} {ws : List (Int × Int)} {as : List Int} {M0 M : Mem} {v : Int} (h : St q ws as M0 M) (hm : ((123, 0) : Int × Int) ∈ ws) (hv : -2147483648 ≤ v ∧ v ≤ 2147483647) (hq : q (wr M 123 0 v)) : St q ws as M0 (wr M 123 0 v) := St.wf 139 h (by decide) hm rfl (by decide +kernel) (by decide +kernel) (by decide +kernel) hv hq
theorem ir_123_1 {M : Mem} (h : Iv M) : -2147483648 ≤ rd M 123 1 ∧ rd M 123 1 ≤ 2147483647 := h.1 (123, 1, -2147483648, 2147483647) (List.mem_of_getElem? (i := 140) rfl)
theorem st_123_1 {q : Mem → Prop} {ws : List (Int × Int)} {as : List Int} {M0 M : Mem} {v : Int} (h : St q ws as M0 M) (hm : ((123, 1) : Int × Int) ∈ ws) (hv : -2147483648 ≤ v ∧ v ≤ 2147483647) (hq : q (wr M 123 1 v)) : St q ws as M0 (wr M 123 1 v) := St.wf 140 h (by decide) hm rfl (by decide +kernel) (by decide +kernel) (by decide +kernel) hv hq
theorem ir_124_0 {M : Mem} (h : Iv M) : -2147483648 ≤ rd M 124 0 ∧ rd M 124 0 ≤ 2147483647 := h.1 (124, 0, -2147483648, 2147483647) (List.mem_of_getElem? (i := 141) rfl)
theorem st_124_0 {q : Mem → Prop} {ws : List (Int × Int)} {as : List Int} {M0 M : Mem} {v : Int} (h : St q ws as M0 M) (hm : ((124, 0) : Int × Int) ∈ ws) (hv : -2147483648 ≤ v ∧ v ≤ 2147483647) (hq : q (wr M 124 0 v)) : St q ws as M0 (wr M 124 0 v) := St.wf 141 h (by decide) hm rfl (by decide +kernel) (by decide +kernel) (by decide +kernel) hv hq
theorem ir_124_1 {M : Mem} (h : Iv M) : -2147483648 ≤ rd M 124 1 ∧ rd M 124 1 ≤ 2147483647 := h.1 (124, 1, -2147483648, 2147483647) (List.mem_of_getElem? (i := 142) rfl)
theorem st_124_1 {q : Mem → Prop} {ws : List (Int × Int)} {as : List Int} {M0 M : Mem} {v : Int} (h : St q ws as M0 M) (hm : ((124, 1) : Int × Int) ∈ ws) (hv : -2147483648 ≤ v ∧ v ≤ 2147483647) (hq : q (wr M 124 1 v)) : St q ws as M0 (wr M 124 1 v) := St.wf 142 h (by decide) hm rfl (by decide +kernel) (by decide +kernel) (by decide +kernel) hv hq
theorem ir_125_0 {M : Mem} (h : Iv M) : -2147483648 ≤ rd M 125 0 ∧ rd M 125 0 ≤ 2147483647 := h.1 (125, 0, -2147483648, 2147483647) (List.mem_of_getElem? (i := 143) rfl)
theorem st_125_0 {q : Mem → Prop} {ws : List (Int × Int)} {as : List Int} {M0 M : Mem} {v : Int} (h : St q ws as M0 M) (hm : ((125, 0) : Int × Int) ∈ ws) (hv : -2147483648 ≤ v ∧ v ≤ 2147483647) (hq : q (wr M 125 0 v)) : St q ws as M0 (wr M 125 0 v) := St.wf 143 h (by decide) hm rfl (by decide +kernel) (by decide +kernel) (by decide +kernel) hv hq
theorem ir_125_1 {M : Mem} (h : Iv M) : -2147483648 ≤ rd M 125 1 ∧ rd M 125 1 ≤ 2147483647 := h.1 (125, 1, -2147483648, 2147483647) (List.mem_of_getElem? (i := 144) rfl)
theorem st_125_1 {q : Mem → Prop} {ws : List (Int × Int)} {as : List Int} {M0 M : Mem} {v : Int} (h : St q ws as M0 M) (hm : ((125, 1) : Int × Int) ∈ ws) (hv : -2147483648 ≤ v ∧ v ≤ 2147483647) (hq : q (wr M 125 1 v)) : St q ws as M0 (wr M 125 1 v) := St.wf 144 h (by decide) hm rfl (by decide +kernel) (by decide +kernel) (by decide +kernel) hv hq
theorem ir_126_0 {M : Mem} (h : Iv M) : 0 ≤ rd M 126 0 ∧ rd M 126 0 ≤ 6 := h.1 (126, 0, 0, 6) (List.mem_of_getElem? (i := 145) rfl)
theorem st_126_0 {q : Mem → Prop} {ws : List (Int × Int)} {as : List Int} {M0 M : Mem} {v : Int} (h : St q ws as M0 M) (hm : ((126, 0) : Int × Int) ∈ ws) (hv : 0 ≤ v ∧ v ≤ 6) (hq : q (wr M 126 0 v)) : St q ws as M0 (wr M 126 0 v) := St.wf 145 h (by decide) hm rfl (by decide +kernel) (by decide +kernel) (by decide +kernel) hv hq
theorem ir_126_1 {M : Mem} (h : Iv M) : 0 ≤ rd M 126 1 ∧ rd M 126 1 ≤ 6 := h.1 (126, 1, 0, 6) (List.mem_of_getElem? (i := 146) rfl)
theorem st_126_1 {q : Mem → Prop} {ws : List (Int × Int)} {as : List Int} {M0 M : Mem} {v : Int} (h : St q ws as M0 M) (hm : ((126, 1) : Int × Int) ∈ ws) (hv : 0 ≤ v ∧ v ≤ 6) (hq : q (wr M 126 1 v)) : St q ws as M0 (wr M 126 1 v) := St.wf 146 h (by decide) hm rfl (by decide +kernel) (by decide +kernel) (by decide +kernel) hv hq
theorem ir_127_0 {M : Mem} (h : Iv M) : 0 ≤ rd M 127 0 ∧ rd M 127 0 ≤ 3 := h.1 (127, 0, 0, 3) (List.mem_of_getElem? (i := 147) rfl)
theorem st_127_0 {q : Mem → Prop} {ws : List (Int × Int)} {as : List Int} {M0 M : Mem} {v : Int} (h : St q ws as M0 M) (hm : ((127, 0) : Int × Int) ∈ ws) (hv : 0 ≤ v ∧ v ≤ 3) (hq : q (wr M 127 0 v)) : St q ws as M0 (wr M 127 0 v) := St.wf 147 h (by decide) hm rfl (by decide +kernel) (by decide +kernel) (by decide +kernel) hv hq
theorem ir_127_1 {M : Mem} (h : Iv M) : 0 ≤ rd M 127 1 ∧ rd M 127 1 ≤ 3 := h.1 (127, 1, 0, 3) (List.mem_of_getElem? (i := 148) rfl)
theorem st_127_1 {q : Mem → Prop} {ws : List (Int × Int)} {as : List Int} {M0 M : Mem} {v : Int} (h : St q ws as M0 M) (hm : ((127, 1) : Int × Int) ∈ ws) (hv : 0 ≤ v ∧ v ≤ 3) (hq : q (wr M 127 1 v)) : St q ws as M0 (wr M 127 1 v) := St.wf 148 h (by decide) hm rfl (by decide +kernel) (by decide +kernel) (by decide +kernel) hv hq
theorem ir_128_0 {M : Mem} (h : Iv M) : 0 ≤ rd M 128 0 ∧ rd M 128 0 ≤ 6 := h.1 (128, 0, 0, 6) (List.mem_of_getElem? (i := 149) rfl)
theorem st_128_0 {q : Mem → Prop} {ws : List (Int × Int)} {as : List Int} {M0 M : Mem} {v : Int} (h : St q ws as M0 M) (hm : ((128, 0) : Int × Int) ∈ ws) (hv : 0 ≤ v ∧ v ≤ 6) (hq : q (wr M 128 0 v)) : St q ws as M0 (wr M 128 0 v) := St.wf 149 h (by decide) hm rfl (by decide +kernel) (by decide +kernel) (by decide +kernel) hv hq
theorem ir_128_1 {M : Mem} (h : Iv M) : 0 ≤ rd M 128 1 ∧ rd M 128 1 ≤ 6 := h.1 (128, 1, 0, 6) (List.mem_of_getElem? (i := 150) rfl)
theorem st_128_1 {q : Mem → Prop} {ws : List (Int × Int)} {as : List Int} {M0 M : Mem} {v : Int} (h : St q ws as M0 M) (hm : ((128, 1) : Int × Int) ∈ ws) (hv : 0 ≤ v ∧ v ≤ 6) (hq : q (wr M 128 1 v)) : St q ws as M0 (wr M 128 1 v) := St.wf 150 h (by decide) hm rfl (by decide +kernel) (by decide +kernel) (by decide +kernel) hv hq
theorem ir_129_0 {M : Mem} (h : Iv M) : 0 ≤ rd M 129 0 ∧ rd M 129 0 ≤ 60 := h.1 (129, 0, 0, 60) (List.mem_of_getElem? (i := 151) rfl)
theorem st_129_0 {q : Mem → Prop} {ws : List (Int × Int)} {as : List Int} {M0 M : Mem} {v : Int} (h : St q ws as M0 M) (hm : ((129, 0) : Int × Int) ∈ ws) (hv : 0 ≤ v ∧ v ≤ 60) (hq : q (wr M 129 0 v)) : St q ws as M0 (wr M 129 0 v) := St.wf 151 h (by decide) hm rfl (by decide +kernel) (by decide +kernel) (by decide +kernel) hv hq
theorem ir_129_1 {M : Mem} (h : Iv M) : 0 ≤ rd M 129 1 ∧ rd M 129 1 ≤ 60 := h.1 (129, 1, 0, 60) (List.mem_of_getElem? (i := 152) rfl)
theorem st_129_1 {q : Mem → Prop} {ws : List (Int × Int)} {as : List Int} {M0 M : Mem} {v : Int} (h : St q ws as M0 M) (hm : ((129, 1) : Int × Int) ∈ ws) (hv : 0 ≤ v ∧ v ≤ 60) (hq : q (wr M 129 1 v)) : St q ws as M0 (wr M 129 1 v) := St.wf 152 h (by decide) hm rfl (by decide +kernel) (by decide +kernel) (by decide +kernel) hv hq
theorem ir_136_0 {M : Mem} (h : Iv M) : 0 ≤ rd M 136 0 ∧ rd M 136 0 ≤ 200 := h.1 (136, 0, 0, 200) (List.mem_of_getElem? (i := 153) rfl)
theorem st_136_0 {q : Mem → Prop} {ws : List (Int × Int)} {as : List Int} {M0 M : Mem} {v : Int} (h : St q ws as M0 M) (hm : ((136, 0) : Int × Int) ∈ ws) (hv : 0 ≤ v ∧ v ≤ 200) (hq : q (wr M 136 0 v)) : St q ws as M0 (wr M 136 0 v) := St.wf 153 h (by decide) hm rfl (by decide +kernel) (by decide +kernel) (by decide +kernel) hv hq
theorem ir_136_1 {M : Mem} (h : Iv M) : 0 ≤ rd M 136 1 ∧ rd M 136 1 ≤ 200 := h.1 (136, 1, 0, 200) (List.mem_of_getElem? (i := 154) rfl)
theorem st_136_1 {q : Mem → Prop} {ws : List (Int × Int)} {as : List Int} {M0 M : Mem} {v : Int} (h : St q ws as M0 M) (hm : ((136, 1) : Int × Int) ∈ ws) (hv : 0 ≤ v ∧ v ≤ 200) (hq : q (wr M 136 1 v)) : St q ws as M0 (wr M 136 1 v) := St.wf 154 h (by decide) hm rfl (by decide +kernel) (by decide +kernel) (by decide +kernel) hv hq
theorem arp_8 {M : Mem} (h : Iv M) {j : Int} (h0 : 0 ≤ j) (h1 : j < 3) : 0 ≤ rd M 8 j ∧ rd M 8 j ≤ 6 := by
  obtain rfl | rfl | rfl : j = 0 ∨ j = 1 ∨ j = 2 := by omega
  · have := ir_8_0 h; omega
  · have := ir_8_1 h; omega
  · have := ir_8_2 h; omega
theorem arp_28 {M : Mem} (h : Iv M) {j : Int} (h0 : 0 ≤ j) (h1 : j < 3) : 0 ≤ rd M 28 j ∧ rd M 28 j ≤ 6 := by
  obtain rfl | rfl | rfl : j = 0 ∨ j = 1 ∨ j = 2 := by omega
  · have := ir_28_0 h; omega
  · have := ir_28_1 h; omega
  · have := ir_28_2 h; omega
theorem arp_122 {M : Mem} (h : Iv M) {j : Int} (h0 : 0 ≤ j) (h1 : j < 2) : -2147483648 ≤ rd M 122 j ∧ rd M 122 j ≤ 2147483647 := by
  obtain rfl | rfl : j = 0 ∨ j = 1 := by omega
  · have := ir_122_0 h; omega
  · have := ir_122_1 h; omega
theorem arp_123 {M : Mem} (h : Iv M) {j : Int} (h0 : 0 ≤ j) (h1 : j < 2) : -2147483648 ≤ rd M 123 j ∧ rd M 123 j ≤ 2147483647 := by
  obtain rfl | rfl : j = 0 ∨ j = 1 := by omega
  · have := ir_123_0 h; omega
  · have := ir_123_1 h; omega
theorem arp_124 {M : Mem} (h : Iv M) {j : Int} (h0 : 0 ≤ j) (h1 : j < 2) : -2147483648 ≤ rd M 124 j ∧ rd M 124 j ≤ 2147483647 := by
  obtain rfl | rfl : j = 0 ∨ j = 1 := by omega
  · have := ir_124_0 h; omega
  · have := ir_124_1 h; omega
theorem arp_125 {M : Mem} (h : Iv M) {j : Int} (h0 : 0 ≤ j) (h1 : j < 2) : -2147483648 ≤ rd M 125 j ∧ rd M 125 j ≤ 2147483647 := by
  obtain rfl | rfl : j = 0 ∨ j = 1 := by omega
  · have := ir_125_0 h; omega
  · have := ir_125_1 h; omega
theorem arp_126 {M : Mem} (h : Iv M) {j : Int} (h0 : 0 ≤ j) (h1 : j < 2) : 0 ≤ rd M 126 j ∧ rd M 126 j ≤ 6 := by
  obtain rfl | rfl : j = 0 ∨ j = 1 := by omega
  · have := ir_126_0 h; omega
  · have := ir_126_1 h; omega
theorem arp_127 {M : Mem} (h : Iv M) {j : Int} (h0 : 0 ≤ j) (h1 : j < 2) : 0 ≤ rd M 127 j ∧ rd M 127 j ≤ 3 := by
  obtain rfl | rfl : j = 0 ∨ j = 1 := by omega
  · have := ir_127_0 h; omega
  · have := ir_127_1 h; omega
theorem arp_128 {M : Mem} (h : Iv M) {j : Int} (h0 : 0 ≤ j) (h1 : j < 2) : 0 ≤ rd M 128 j ∧ rd M 128 j ≤ 6 := by
  obtain rfl | rfl : j = 0 ∨ j = 1 := by omega
  · have := ir_128_0 h; omega
  · have := ir_128_1 h; omega
theorem arp_129 {M : Mem} (h : Iv M) {j : Int} (h0 : 0 ≤ j) (h1 : j < 2) : 0 ≤ rd M 129 j ∧ rd M 129 j ≤ 60 := by
  obtain rfl | rfl : j = 0 ∨ j = 1 := by omega
  · have := ir_129_0 h; omega
  · have := ir_129_1 h; omega
theorem arp_136 {M : Mem} (h : Iv M) {j : Int} (h0 : 0 ≤ j) (h1 : j < 2) : 0 ≤ rd M 136 j ∧ rd M 136 j ≤ 200 := by
  obtain rfl | rfl : j = 0 ∨ j = 1 := by omega
  · have := ir_136_0 h; omega
  · have := ir_136_1 h; omega
theorem ar_1 {M : Mem} (h : Iv M) (j : Int) : -128 ≤ rd M 1 j ∧ rd M 1 j ≤ 127 := h.2 (1, -128, 127) (List.mem_of_getElem? (i := 0) rfl) j
theorem sw_1 {q : Mem → Prop} {ws : List (Int × Int)} {as : List Int} {M0 M : Mem} {M2 : Mem} (h : St q ws as M0 M) (hm : (1 : Int) ∈ as) (hT : mT M2 = mT M) (hn : M2.1 = M.1) (hz : M2.2.1 = M.2.1) (ho : ∀ y i : Int, y ≠ 1 → rd M2 y i = rd M y i) (hv : ∀ i : Int, -128 ≤ rd M2 1 i ∧ rd M2 1 i ≤ 127) (hq : q M2) : St q ws as M0 M2 := St.wa 0 h (by decide) hm rfl (by decide +kernel) (by decide +kernel) (by decide +kernel) hT hn hz ho hv hq
theorem sa_1 {q : Mem → Prop} {ws : List (Int × Int)} {as : List Int} {M0 M : Mem} {i v : Int} (h : St q ws as M0 M) (hm : (1 : Int) ∈ as) (hv : -128 ≤ v ∧ v ≤ 127) (hq : q (wr M 1 i v)) : St q ws as M0 (wr M 1 i v) := sw_1 h hm rfl rfl rfl (fun y j hy => rd_wn M (fun c => hy c.1)) (fun j => by rw [rd_wr]; split; exact hv; exact ar_1 h.1.2.1 j) hq
theorem sf_1 {q : Mem → Prop} {ws : List (Int × Int)} {as : List Int} {M0 M : Mem} {v : Int} (N : Nat) (h : St q ws as M0 M) (hm : (1 : Int) ∈ as) (hv : -128 ≤ v ∧ v ≤ 127) (hq : q (fil M 1 N v)) : St q ws as M0 (fil M 1 N v) := sw_1 (M := M) h hm rfl rfl rfl (fun y j hy => by rw [rd_fil, if_neg (fun c => hy c.1)]) (fun j => by rw [rd_fil]; split; exact hv; exact ar_1 h.1.2.1 j) hq
theorem ar_3 {M : Mem} (h : Iv M) (j : Int) : -2147483648 ≤ rd M 3 j ∧ rd M 3 j ≤ 2147483647 := h.2 (3, -2147483648, 2147483647) (List.mem_of_getElem? (i := 1) rfl) j
theorem sw_3 {q : Mem → Prop} {ws : List (Int × Int)} {as : List Int} {M0 M : Mem} {M2 : Mem} (h : St q ws as M0 M) (hm : (3 : Int) ∈ as) (hT : mT M2 = mT M) (hn : M2.1 = M.1) (hz : M2.2.1 = M.2.1) (ho : ∀ y i : Int, y ≠ 3 → rd M2 y i = rd M y i) (hv : ∀ i : Int, -2147483648 ≤ rd M2 3 i ∧ rd M2 3 i ≤ 2147483647) (hq : q M2) : St q ws as M0 M2 := St.wa 1 h (by decide) hm rfl (by decide +kernel) (by decide +kernel) (by decide +kernel) hT hn hz ho hv hq
theorem sa_3 {q : Mem → Prop} {ws : List (Int × Int)} {as : List Int} {M0 M : Mem} {i v : Int} (h : St q ws as M0 M) (hm : (3 : Int) ∈ as) (hv : -2147483648 ≤ v ∧ v ≤ 2147483647) (hq : q (wr M 3 i v)) : St q ws as M0 (wr M 3 i v) := sw_3 h hm rfl rfl rfl (fun y j hy => rd_wn M (fun c => hy c.1)) (fun j => by rw [rd_wr]; split; exact hv; exact ar_3 h.1.2.1 j) hq
theorem sf_3 {q : Mem → Prop} {ws : List (Int × Int)} {as : List Int} {M0 M : Mem} {v : Int} (N : Nat) (h : St q ws as M0 M) (hm : (3 : Int) ∈ as) (hv : -2147483648 ≤ v ∧ v ≤ 2147483647) (hq : q (fil M 3 N v)) : St q ws as M0 (fil M 3 N v) := sw_3 (M := M) h hm rfl rfl rfl (fun y j hy => by rw [rd_fil, if_neg (fun c => hy c.1)]) (fun j => by rw [rd_fil]; split; exact hv; exact ar_3 h.1.2.1 j) hq
theorem ar_4 {M : Mem} (h : Iv M) (j : Int) : -2147483648 ≤ rd M 4 j ∧ rd M 4 j ≤ 2147483647 := h.2 (4, -2147483648, 2147483647) (List.mem_of_getElem? (i := 2) rfl) j
theorem sw_4 {q : Mem → Prop} {ws : List (Int × Int)} {as : List Int} {M0 M : Mem} {M2 : Mem} (h : St q ws as M0 M) (hm : (4 : Int) ∈ as) (hT : mT M2 = mT M) (hn : M2.1 = M.1) (hz : M2.2.1 = M.2.1) (ho : ∀ y i : Int, y ≠ 4 → rd M2 y i = rd M y i) (hv : ∀ i : Int, -2147483648 ≤ rd M2 4 i ∧ rd M2 4 i ≤ 2147483647) (hq : q M2) : St q ws as M0 M2 := St.wa 2 h (by decide) hm rfl (by decide +kernel) (by decide +kernel) (by decide +kernel) hT hn hz ho hv hq
theorem sa_4 {q : Mem → Prop} {ws : List (Int × Int)} {as : List Int} {M0 M : Mem} {i v : Int} (h : St q ws as M0 M) (hm : (4 : Int) ∈ as) (hv : -2147483648 ≤ v ∧ v ≤ 2147483647) (hq : q (wr M 4 i v)) : St q ws as M0 (wr M 4 i v) := sw_4 h hm rfl rfl rfl (fun y j hy => rd_wn M (fun c => hy c.1)) (fun j => by rw [rd_wr]; split; exact hv; exact ar_4 h.1.2.1 j) hq
theorem sf_4 {q : Mem → Prop} {ws : List (Int × Int)} {as : List Int} {M0 M : Mem} {v : Int} (N : Nat) (h : St q ws as M0 M) (hm : (4 : Int) ∈ as) (hv : -2147483648 ≤ v ∧ v ≤ 2147483647) (hq : q (fil M 4 N v)) : St q ws as M0 (fil M 4 N v) := sw_4 (M := M) h hm rfl rfl rfl (fun y j hy => by rw [rd_fil, if_neg (fun c => hy c.1)]) (fun j => by rw [rd_fil]; split; exact hv; exact ar_4 h.1.2.1 j) hq
theorem ar_5 {M : Mem} (h : Iv M) (j : Int) : -2147483648 ≤ rd M 5 j ∧ rd M 5 j ≤ 2147483647 := h.2 (5, -2147483648, 2147483647) (List.mem_of_getElem? (i := 3) rfl) j
theorem sw_5 {q : Mem → Prop} {ws : List (Int × Int)} {as : List Int} {M0 M : Mem} {M2 : Mem} (h : St q ws as M0 M) (hm : (5 : Int) ∈ as) (hT : mT M2 = mT M) (hn : M2.1 = M.1) (hz : M2.2.1 = M.2.1) (ho : ∀ y i : Int, y ≠ 5 → rd M2 y i = rd M y i) (hv : ∀ i : Int, -2147483648 ≤ rd M2 5 i ∧ rd M2 5 i ≤ 2147483647) (hq : q M2) : St q ws as M0 M2 := St.wa 3 h (by decide) hm rfl (by decide +kernel) (by decide +kernel) (by decide +kernel) hT hn hz ho hv hq
theorem sa_5 {q : Mem → Prop} {ws : List (Int × Int)} {as : List Int} {M0 M : Mem} {i v : Int} (h : St q ws as M0 M) (hm : (5 : Int) ∈ as) (hv : -2147483648 ≤ v ∧ v ≤ 2147483647) (hq : q (wr M 5 i v)) : St q ws as M0 (wr M 5 i v) := sw_5 h hm rfl rfl rfl (fun y j hy => rd_wn M (fun c => hy c.1)) (fun j => by rw [rd_wr]; split; exact hv; exact ar_5 h.1.2.1 j) hq
theorem sf_5 {q : Mem → Prop} {ws : List (Int × Int)} {as : List Int} {M0 M : Mem} {v : Int} (N : Nat) (h : St q ws as M0 M) (hm : (5 : Int) ∈ as) (hv : -2147483648 ≤ v ∧ v ≤ 2147483647) (hq : q (fil M 5 N v)) : St q ws as M0 (fil M 5 N v) := sw_5 (M := M) h hm rfl rfl rfl (fun y j hy => by rw [rd_fil, if_neg (fun c => hy c.1)]) (fun j => by rw [rd_fil]; split; exact hv; exact ar_5 h.1.2.1 j) hq
theorem ar_9 {M : Mem} (h : Iv M) (j : Int) : -1 ≤ rd M 9 j ∧ rd M 9 j ≤ 999 := h.2 (9, -1, 999) (List.mem_of_getElem? (i := 4) rfl) j
theorem sw_9 {q : Mem → Prop} {ws : List (Int × Int)} {as : List Int} {M0 M : Mem} {M2 : Mem} (h : St q ws as M0 M) (hm : (9 : Int) ∈ as) (hT : mT M2 = mT M) (hn : M2.1 = M.1) (hz : M2.2.1 = M.2.1) (ho : ∀ y i : Int, y ≠ 9 → rd M2 y i = rd M y i) (hv : ∀ i : Int, -1 ≤ rd M2 9 i ∧ rd M2 9 i ≤ 999) (hq : q M2) : St q ws as M0 M2 := St.wa 4 h (by decide) hm rfl (by decide +kernel) (by decide +kernel) (by decide +kernel) hT hn hz ho hv hq
theorem sa_9 {q : Mem → Prop} {ws : List (Int × Int)} {as : List Int} {M0 M : Mem} {i v : Int} (h : St q ws as M0 M) (hm : (9 : Int) ∈ as) (hv : -1 ≤ v ∧ v ≤ 999) (hq : q (wr M 9 i v)) : St q ws as M0 (wr M 9 i v) := sw_9 h hm rfl rfl rfl (fun y j hy => rd_wn M (fun c => hy c.1)) (fun j => by rw [rd_wr]; split; exact hv; exact ar_9 h.1.2.1 j) hq
theorem sf_9 {q : Mem → Prop} {ws : List (Int × Int)} {as : List Int} {M0 M : Mem} {v : Int} (N : Nat) (h : St q ws as M0 M) (hm : (9 : Int) ∈ as) (hv : -1 ≤ v ∧ v ≤ 999) (hq : q (fil M 9 N v)) : St q ws as M0 (fil M 9 N v) := sw_9 (M := M) h hm rfl rfl rfl (fun y j hy => by rw [rd_fil, if_neg (fun c => hy c.1)]) (fun j => by rw [rd_fil]; split; exact hv; exact ar_9 h.1.2.1 j) hq
theorem ar_10 {M : Mem} (h : Iv M) (j : Int) : -1 ≤ rd M 10 j ∧ rd M 10 j ≤ 20 := h.2 (10, -1, 20) (List.mem_of_getElem? (i := 5) rfl) j
theorem sw_10 {q : Mem → Prop} {ws : List (Int × Int)} {as : List Int} {M0 M : Mem} {M2 : Mem} (h : St q ws as M0 M) (hm : (10 : Int) ∈ as) (hT : mT M2 = mT M) (hn : M2.1 = M.1) (hz : M2.2.1 = M.2.1) (ho : ∀ y i : Int, y ≠ 10 → rd M2 y i = rd M y i) (hv : ∀ i : Int, -1 ≤ rd M2 10 i ∧ rd M2 10 i ≤ 20) (hq : q M2) : St q ws as M0 M2 := St.wa 5 h (by decide) hm rfl (by decide +kernel) (by decide +kernel) (by decide +kernel) hT hn hz ho hv hq
theorem sa_10 {q : Mem → Prop} {ws : List (Int × Int)} {as : List Int} {M0 M : Mem} {i v : Int} (h : St q ws as M0 M) (hm : (10 : Int) ∈ as) (hv : -1 ≤ v ∧ v ≤ 20) (hq : q (wr M 10 i v)) : St q ws as M0 (wr M 10 i v) := sw_10 h hm rfl rfl rfl (fun y j hy => rd_wn M (fun c => hy c.1)) (fun j => by rw [rd_wr]; split; exact hv; exact ar_10 h.1.2.1 j) hq
theorem sf_10 {q : Mem → Prop} {ws : List (Int × Int)} {as : List Int} {M0 M : Mem} {v : Int} (N : Nat) (h : St q ws as M0 M) (hm : (10 : Int) ∈ as) (hv : -1 ≤ v ∧ v ≤ 20) (hq : q (fil M 10 N v)) : St q ws as M0 (fil M 10 N v) := sw_10 (M := M) h hm rfl rfl rfl (fun y j hy => by rw [rd_fil, if_neg (fun c => hy c.1)]) (fun j => by rw [rd_fil]; split; exact hv; exact ar_10 h.1.2.1 j) hq
theorem ar_11 {M : Mem} (h : Iv M) (j : Int) : 0 ≤ rd M 11 j ∧ rd M 11 j ≤ 50 := h.2 (11, 0, 50) (List.mem_of_getElem? (i := 6) rfl) j
theorem sw_11 {q : Mem → Prop} {ws : List (Int × Int)} {as : List Int} {M0 M : Mem} {M2 : Mem} (h : St q ws as M0 M) (hm : (11 : Int) ∈ as) (hT : mT M2 = mT M) (hn : M2.1 = M.1) (hz : M2.2.1 = M.2.1) (ho : ∀ y i : Int, y ≠ 11 → rd M2 y i = rd M y i) (hv : ∀ i : Int, 0 ≤ rd M2 11 i ∧ rd M2 11 i ≤ 50) (hq : q M2) : St q ws as M0 M2 := St.wa 6 h (by decide) hm rfl (by decide +kernel) (by decide +kernel) (by decide +kernel) hT hn hz ho hv hq
theorem sa_11 {q : Mem → Prop} {ws : List (Int × Int)} {as : List Int} {M0 M : Mem} {i v : Int} (h : St q ws as M0 M) (hm : (11 : Int) ∈ as) (hv : 0 ≤ v ∧ v ≤ 50) (hq : q (wr M 11 i v)) : St q ws as M0 (wr M 11 i v) := sw_11 h hm rfl rfl rfl (fun y j hy => rd_wn M (fun c => hy c.1)) (fun j => by rw [rd_wr]; split; exact hv; exact ar_11 h.1.2.1 j) hq
theorem sf_11 {q : Mem → Prop} {ws : List (Int × Int)} {as : List Int} {M0 M : Mem} {v : Int} (N : Nat) (h : St q ws as M0 M) (hm : (11 : Int) ∈ as) (hv : 0 ≤ v ∧ v ≤ 50) (hq : q (fil M 11 N v)) : St q ws as M0 (fil M 11 N v) := sw_11 (M := M) h hm rfl rfl rfl (fun y j hy => by rw [rd_fil, if_neg (fun c => hy c.1)]) (fun j => by rw [rd_fil]; split; exact hv; exact ar_11 h.1.2.1 j) hq
theorem ar_12 {M : Mem} (h : Iv M) (j : Int) : -1 ≤ rd M 12 j ∧ rd M 12 j ≤ 99 := h.2 (12, -1, 99) (List.mem_of_getElem? (i := 7) rfl) j
theorem sw_12 {q : Mem → Prop} {ws : List (Int × Int)} {as : List Int} {M0 M : Mem} {M2 : Mem} (h : St q ws as M0 M) (hm : (12 : Int) ∈ as) (hT : mT M2 = mT M) (hn : M2.1 = M.1) (hz : M2.2.1 = M.2.1) (ho : ∀ y i : Int, y ≠ 12 → rd M2 y i = rd M y i) (hv : ∀ i : Int, -1 ≤ rd M2 12 i ∧ rd M2 12 i ≤ 99) (hq : q M2) : St q ws as M0 M2 := St.wa 7 h (by decide) hm rfl (by decide +kernel) (by decide +kernel) (by decide +kernel) hT hn hz ho hv hq
theorem sa_12 {q : Mem → Prop} {ws : List (Int × Int)} {as : List Int} {M0 M : Mem} {i v : Int} (h : St q ws as M0 M) (hm : (12 : Int) ∈ as) (hv : -1 ≤ v ∧ v ≤ 99) (hq : q (wr M 12 i v)) : St q ws as M0 (wr M 12 i v) := sw_12 h hm rfl rfl rfl (fun y j hy => rd_wn M (fun c => hy c.1)) (fun j => by rw [rd_wr]; split; exact hv; exact ar_12 h.1.2.1 j) hq
theorem sf_12 {q : Mem → Prop} {ws : List (Int × Int)} {as : List Int} {M0 M : Mem} {v : Int} (N : Nat) (h : St q ws as M0 M) (hm : (12 : Int) ∈ as) (hv : -1 ≤ v ∧ v ≤ 99) (hq : q (fil M 12 N v)) : St q ws as M0 (fil M 12 N v) := sw_12 (M := M) h hm rfl rfl rfl (fun y j hy => by rw [rd_fil, if_neg (fun c => hy c.1)]) (fun j => by rw [rd_fil]; split; exact hv; exact ar_12 h.1.2.1 j) hq
theorem ar_13 {M : Mem} (h : Iv M) (j : Int) : -1 ≤ rd M 13 j ∧ rd M 13 j ≤ 99 := h.2 (13, -1, 99) (List.mem_of_getElem? (i := 8) rfl) j
theorem sw_13 {q : Mem → Prop} {ws : List (Int × Int)} {as : List Int} {M0 M : Mem} {M2 : Mem} (h : St q ws as M0 M) (hm : (13 : Int) ∈ as) (hT : mT M2 = mT M) (hn : M2.1 = M.1) (hz : M2.2.1 = M.2.1) (ho : ∀ y i : Int, y ≠ 13 → rd M2 y i = rd M y i) (hv : ∀ i : Int, -1 ≤ rd M2 13 i ∧ rd M2 13 i ≤ 99) (hq : q M2) : St q ws as M0 M2 := St.wa 8 h (by decide) hm rfl (by decide +kernel) (by decide +kernel) (by decide +kernel) hT hn hz ho hv hq
theorem sa_13 {q : Mem → Prop} {ws : List (Int × Int)} {as : List Int} {M0 M : Mem} {i v : Int} (h : St q ws as M0 M) (hm : (13 : Int) ∈ as) (hv : -1 ≤ v ∧ v ≤ 99) (hq : q (wr M 13 i v)) : St q ws as M0 (wr M 13 i v) := sw_13 h hm rfl rfl rfl (fun y j hy => rd_wn M (fun c => hy c.1)) (fun j => by rw [rd_wr]; split; exact hv; exact ar_13 h.1.2.1 j) hq
theorem sf_13 {q : Mem → Prop} {ws : List (Int × Int)} {as : List Int} {M0 M : Mem} {v : Int} (N : Nat) (h : St q ws as M0 M) (hm : (13 : Int) ∈ as) (hv : -1 ≤ v ∧ v ≤ 99) (hq : q (fil M 13 N v)) : St q ws as M0 (fil M 13 N v) := sw_13 (M := M) h hm rfl rfl rfl (fun y j hy => by rw [rd_fil, if_neg (fun c => hy c.1)]) (fun j => by rw [rd_fil]; split; exact hv; exact ar_13 h.1.2.1 j) hq
theorem ar_14 {M : Mem} (h : Iv M) (j : Int) : -2147483648 ≤ rd M 14 j ∧ rd M 14 j ≤ 2147483647 := h.2 (14, -2147483648, 2147483647) (List.mem_of_getElem? (i := 9) rfl) j
theorem sw_14 {q : Mem → Prop} {ws : List (Int × Int)} {as : List Int} {M0 M : Mem} {M2 : Mem} (h : St q ws as M0 M) (hm : (14 : Int) ∈ as) (hT : mT M2 = mT M) (hn : M2.1 = M.1) (hz : M2.2.1 = M.2.1) (ho : ∀ y i : Int, y ≠ 14 → rd M2 y i = rd M y i) (hv : ∀ i : Int, -2147483648 ≤ rd M2 14 i ∧ rd M2 14 i ≤ 2147483647) (hq : q M2) : St q ws as M0 M2 := St.wa 9 h (by decide) hm rfl (by decide +kernel) (by decide +kernel) (by decide +kernel) hT hn hz ho hv hq
theorem sa_14 {q : Mem → Prop} {ws : List (Int × Int)} {as : List Int} {M0 M : Mem} {i v : Int} (h : St q ws as M0 M) (hm : (14 : Int) ∈ as) (hv : -2147483648 ≤ v ∧ v ≤ 2147483647) (hq : q (wr M 14 i v)) : St q ws as M0 (wr M 14 i v) := sw_14 h hm rfl rfl rfl (fun y j hy => rd_wn M (fun c => hy c.1)) (fun j => by rw [rd_wr]; split; exact hv; exact ar_14 h.1.2.1 j) hq
theorem sf_14 {q : Mem → Prop} {ws : List (Int × Int)} {as : List Int} {M0 M : Mem} {v : Int} (N : Nat) (h : St q ws as M0 M) (hm : (14 : Int) ∈ as) (hv : -2147483648 ≤ v ∧ v ≤ 2147483647) (hq : q (fil M 14 N v)) : St q ws as M0 (fil M 14 N v) := sw_14 (M := M) h hm rfl rfl rfl (fun y j hy => by rw [rd_fil, if_neg (fun c => hy c.1)]) (fun j => by rw [rd_fil]; split; exact hv; exact ar_14 h.1.2.1 j) hq
theorem ar_16 {M : Mem} (h : Iv M) (j : Int) : -2147483648 ≤ rd M 16 j ∧ rd M 16 j ≤ 2147483647 := h.2 (16, -2147483648, 2147483647) (List.mem_of_getElem? (i := 10) rfl) j
theorem sw_16 {q : Mem → Prop} {ws : List (Int × Int)} {as : List Int} {M0 M : Mem} {M2 : Mem} (h : St q ws as M0 M) (hm : (16 : Int) ∈ as) (hT : mT M2 = mT M) (hn : M2.1 = M.1) (hz : M2.2.1 = M.2.1) (ho : ∀ y i : Int, y ≠ 16 → rd M2 y i = rd M y i) (hv : ∀ i : Int, -2147483648 ≤ rd M2 16 i ∧ rd M2 16 i ≤ 2147483647) (hq : q M2) : St q ws as M0 M2 := St.wa 10 h (by decide) hm rfl (by decide +kernel) (by decide +kernel) (by decide +kernel) hT hn hz ho hv hq
theorem sa_16 {q : Mem → Prop} {ws : List (Int × Int)} {as : List Int} {M0 M : Mem} {i v : Int} (h : St q ws as M0 M) (hm : (16 : Int) ∈ as) (hv : -2147483648 ≤ v ∧ v ≤ 2147483647) (hq : q (wr M 16 i v)) : St q ws as M0 (wr M 16 i v) := sw_16 h hm rfl rfl rfl (fun y j hy => rd_wn M (fun c => hy c.1)) (fun j => by rw [rd_wr]; split; exact hv; exact ar_16 h.1.2.1 j) hq
theorem sf_16 {q : Mem → Prop} {ws : List (Int × Int)} {as : List Int} {M0 M : Mem} {v : Int} (N : Nat) (h : St q ws as M0 M) (hm : (16 : Int) ∈ as) (hv : -2147483648 ≤ v ∧ v ≤ 2147483647) (hq : q (fil M 16 N v)) : St q ws as M0 (fil M 16 N v) := sw_16 (M := M) h hm rfl rfl rfl (fun y j hy => by rw [rd_fil, if_neg (fun c => hy c.1)]) (fun j => by rw [rd_fil]; split; exact hv; exact ar_16 h.1.2.1 j) hq
theorem ar_17 {M : Mem} (h : Iv M) (j : Int) : 0 ≤ rd M 17 j ∧ rd M 17 j ≤ 5 := h.2 (17, 0, 5) (List.mem_of_getElem? (i := 11) rfl) j
theorem sw_17 {q : Mem → Prop} {ws : List (Int × Int)} {as : List Int} {M0 M : Mem} {M2 : Mem} (h : St q ws as M0 M) (hm : (17 : Int) ∈ as) (hT : mT M2 = mT M) (hn : M2.1 = M.1) (hz : M2.2.1 = M.2.1) (ho : ∀ y i : Int, y ≠ 17 → rd M2 y i = rd M y i) (hv : ∀ i : Int, 0 ≤ rd M2 17 i ∧ rd M2 17 i ≤ 5) (hq : q M2) : St q ws as M0 M2 := St.wa 11 h (by decide) hm rfl (by decide +kernel) (by decide +kernel) (by decide +kernel) hT hn hz ho hv hq
theorem sa_17 {q : Mem → Prop} {ws : List (Int × Int)} {as : List Int} {M0 M : Mem} {i v : Int} (h : St q ws as M0 M) (hm : (17 : Int) ∈ as) (hv : 0 ≤ v ∧ v ≤ 5) (hq : q (wr M 17 i v)) : St q ws as M0 (wr M 17 i v) := sw_17 h hm rfl rfl rfl (fun y j hy => rd_wn M (fun c => hy c.1)) (fun j => by rw [rd_wr]; split; exact hv; exact ar_17 h.1.2.1 j) hq
theorem sf_17 {q : Mem → Prop} {ws : List (Int × Int)} {as : List Int} {M0 M : Mem} {v : Int} (N : Nat) (h : St q ws as M0 M) (hm : (17 : Int) ∈ as) (hv : 0 ≤ v ∧ v ≤ 5) (hq : q (fil M 17 N v)) : St q ws as M0 (fil M 17 N v) := sw_17 (M := M) h hm rfl rfl rfl (fun y j hy => by rw [rd_fil, if_neg (fun c => hy c.1)]) (fun j => by rw [rd_fil]; split; exact hv; exact ar_17 h.1.2.1 j) hq
theorem ar_18 {M : Mem} (h : Iv M) (j : Int) : 0 ≤ rd M 18 j ∧ rd M 18 j ≤ 900 := h.2 (18, 0, 900) (List.mem_of_getElem? (i := 12) rfl) j
theorem sw_18 {q : Mem → Prop} {ws : List (Int × Int)} {as : List Int} {M0 M : Mem} {M2 : Mem} (h : St q ws as M0 M) (hm : (18 : Int) ∈ as) (hT : mT M2 = mT M) (hn : M2.1 = M.1) (hz : M2.2.1 = M.2.1) (ho : ∀ y i : Int, y ≠ 18 → rd M2 y i = rd M y i) (hv : ∀ i : Int, 0 ≤ rd M2 18 i ∧ rd M2 18 i ≤ 900) (hq : q M2) : St q ws as M0 M2 := St.wa 12 h (by decide) hm rfl (by decide +kernel) (by decide +kernel) (by decide +kernel) hT hn hz ho hv hq
theorem sa_18 {q : Mem → Prop} {ws : List (Int × Int)} {as : List Int} {M0 M : Mem} {i v : Int} (h : St q ws as M0 M) (hm : (18 : Int) ∈ as) (hv : 0 ≤ v ∧ v ≤ 900) (hq : q (wr M 18 i v)) : St q ws as M0 (wr M 18 i v) := sw_18 h hm rfl rfl rfl (fun y j hy => rd_wn M (fun c => hy c.1)) (fun j => by rw [rd_wr]; split; exact hv; exact ar_18 h.1.2.1 j) hq
theorem sf_18 {q : Mem → Prop} {ws : List (Int × Int)} {as : List Int} {M0 M : Mem} {v : Int} (N : Nat) (h : St q ws as M0 M) (hm : (18 : Int) ∈ as) (hv : 0 ≤ v ∧ v ≤ 900) (hq : q (fil M 18 N v)) : St q ws as M0 (fil M 18 N v) := sw_18 (M := M) h hm rfl rfl rfl (fun y j hy => by rw [rd_fil, if_neg (fun c => hy c.1)]) (fun j => by rw [rd_fil]; split; exact hv; exact ar_18 h.1.2.1 j) hq
theorem ar_19 {M : Mem} (h : Iv M) (j : Int) : -2147483648 ≤ rd M 19 j ∧ rd M 19 j ≤ 2147483647 := h.2 (19, -2147483648, 2147483647) (List.mem_of_getElem? (i := 13) rfl) j
theorem sw_19 {q : Mem → Prop} {ws : List (Int × Int)} {as : List Int} {M0 M : Mem} {M2 : Mem} (h : St q ws as M0 M) (hm : (19 : Int) ∈ as) (hT : mT M2 = mT M) (hn : M2.1 = M.1) (hz : M2.2.1 = M.2.1) (ho : ∀ y i : Int, y ≠ 19 → rd M2 y i = rd M y i) (hv : ∀ i : Int, -2147483648 ≤ rd M2 19 i ∧ rd M2 19 i ≤ 2147483647) (hq : q M2) : St q ws as M0 M2 := St.wa 13 h (by decide) hm rfl (by decide +kernel) (by decide +kernel) (by decide +kernel) hT hn hz ho hv hq
theorem sa_19 {q : Mem → Prop} {ws : List (Int × Int)} {as : List Int} {M0 M : Mem} {i v : Int} (h : St q ws as M0 M) (hm : (19 : Int) ∈ as) (hv : -2147483648 ≤ v ∧ v ≤ 2147483647) (hq : q (wr M 19 i v)) : St q ws as M0 (wr M 19 i v) := sw_19 h hm rfl rfl rfl (fun y j hy => rd_wn M (fun c => hy c.1)) (fun j => by rw [rd_wr]; split; exact hv; exact ar_19 h.1.2.1 j) hq
theorem sf_19 {q : Mem → Prop} {ws : List (Int × Int)} {as : List Int} {M0 M : Mem} {v : Int} (N : Nat) (h : St q ws as M0 M) (hm : (19 : Int) ∈ as) (hv : -2147483648 ≤ v ∧ v ≤ 2147483647) (hq : q (fil M 19 N v)) : St q ws as M0 (fil M 19 N v) := sw_19 (M := M) h hm rfl rfl rfl (fun y j hy => by rw [rd_fil, if_neg (fun c => hy c.1)]) (fun j => by rw [rd_fil]; split; exact hv; exact ar_19 h.1.2.1 j) hq
theorem ar_20 {M : Mem} (h : Iv M) (j : Int) : -2147483648 ≤ rd M 20 j ∧ rd M 20 j ≤ 2147483647 := h.2 (20, -2147483648, 2147483647) (List.mem_of_getElem? (i := 14) rfl) j
theorem sw_20 {q : Mem → Prop} {ws : List (Int × Int)} {as : List Int} {M0 M : Mem} {M2 : Mem} (h : St q ws as M0 M) (hm : (20 : Int) ∈ as) (hT : mT M2 = mT M) (hn : M2.1 = M.1) (hz : M2.2.1 = M.2.1) (ho : ∀ y i : Int, y ≠ 20 → rd M2 y i = rd M y i) (hv : ∀ i : Int, -2147483648 ≤ rd M2 20 i ∧ rd M2 20 i ≤ 2147483647) (hq : q M2) : St q ws as M0 M2 := St.wa 14 h (by decide) hm rfl (by decide +kernel) (by decide +kernel) (by decide +kernel) hT hn hz ho hv hq
theorem sa_20 {q : Mem → Prop} {ws : List (Int × Int)} {as : List Int} {M0 M : Mem} {i v : Int} (h : St q ws as M0 M) (hm : (20 : Int) ∈ as) (hv : -2147483648 ≤ v ∧ v ≤ 2147483647) (hq : q (wr M 20 i v)) : St q ws as M0 (wr M 20 i v) := sw_20 h hm rfl rfl rfl (fun y j hy => rd_wn M (fun c => hy c.1)) (fun j => by rw [rd_wr]; split; exact hv; exact ar_20 h.1.2.1 j) hq
theorem sf_20 {q : Mem → Prop} {ws : List (Int × Int)} {as : List Int} {M0 M : Mem} {v : Int} (N : Nat) (h : St q ws as M0 M) (hm : (20 : Int) ∈ as) (hv : -2147483648 ≤ v ∧ v ≤ 2147483647) (hq : q (fil M 20 N v)) : St q ws as M0 (fil M 20 N v) := sw_20 (M := M) h hm rfl rfl rfl (fun y j hy => by rw [rd_fil, if_neg (fun c => hy c.1)]) (fun j => by rw [rd_fil]; split; exact hv; exact ar_20 h.1.2.1 j) hq
theorem ar_21 {M : Mem} (h : Iv M) (j : Int) : -1 ≤ rd M 21 j ∧ rd M 21 j ≤ 59 := h.2 (21, -1, 59) (List.mem_of_getElem? (i := 15) rfl) j
theorem sw_21 {q : Mem → Prop} {ws : List (Int × Int)} {as : List Int} {M0 M : Mem} {M2 : Mem} (h : St q ws as M0 M) (hm : (21 : Int) ∈ as) (hT : mT M2 = mT M) (hn : M2.1 = M.1) (hz : M2.2.1 = M.2.1) (ho : ∀ y i : Int, y ≠ 21 → rd M2 y i = rd M y i) (hv : ∀ i : Int, -1 ≤ rd M2 21 i ∧ rd M2 21 i ≤ 59) (hq : q M2) : St q ws as M0 M2 := St.wa 15 h (by decide) hm rfl (by decide +kernel) (by decide +kernel) (by decide +kernel) hT hn hz ho hv hq
theorem sa_21 {q : Mem → Prop} {ws : List (Int × Int)} {as : List Int} {M0 M : Mem} {i v : Int} (h : St q ws as M0 M) (hm : (21 : Int) ∈ as) (hv : -1 ≤ v ∧ v ≤ 59) (hq : q (wr M 21 i v)) : St q ws as M0 (wr M 21 i v) := sw_21 h hm rfl rfl rfl (fun y j hy => rd_wn M (fun c => hy c.1)) (fun j => by rw [rd_wr]; split; exact hv; exact ar_21 h.1.2.1 j) hq
theorem sf_21 {q : Mem → Prop} {ws : List (Int × Int)} {as : List Int} {M0 M : Mem} {v : Int} (N : Nat) (h : St q ws as M0 M) (hm : (21 : Int) ∈ as) (hv : -1 ≤ v ∧ v ≤ 59) (hq : q (fil M 21 N v)) : St q ws as M0 (fil M 21 N v) := sw_21 (M := M) h hm rfl rfl rfl (fun y j hy => by rw [rd_fil, if_neg (fun c => hy c.1)]) (fun j => by rw [rd_fil]; split; exact hv; exact ar_21 h.1.2.1 j) hq
theorem ar_22 {M : Mem} (h : Iv M) (j : Int) : -1 ≤ rd M 22 j ∧ rd M 22 j ≤ 59 := h.2 (22, -1, 59) (List.mem_of_getElem? (i := 16) rfl) j
theorem sw_22 {q : Mem → Prop} {ws : List (Int × Int)} {as : List Int} {M0 M : Mem} {M2 : Mem} (h : St q ws as M0 M) (hm : (22 : Int) ∈ as) (hT : mT M2 = mT M) (hn : M2.1 = M.1) (hz : M2.2.1 = M.2.1) (ho : ∀ y i : Int, y ≠ 22 → rd M2 y i = rd M y i) (hv : ∀ i : Int, -1 ≤ rd M2 22 i ∧ rd M2 22 i ≤ 59) (hq : q M2) : St q ws as M0 M2 := St.wa 16 h (by decide) hm rfl (by decide +kernel) (by decide +kernel) (by decide +kernel) hT hn hz ho hv hq
theorem sa_22 {q : Mem → Prop} {ws : List (Int × Int)} {as : List Int} {M0 M : Mem} {i v : Int} (h : St q ws as M0 M) (hm : (22 : Int) ∈ as) (hv : -1 ≤ v ∧ v ≤ 59) (hq : q (wr M 22 i v)) : St q ws as M0 (wr M 22 i v) := sw_22 h hm rfl rfl rfl (fun y j hy => rd_wn M (fun c => hy c.1)) (fun j => by rw [rd_wr]; split; exact hv; exact ar_22 h.1.2.1 j) hq
theorem sf_22 {q : Mem → Prop} {ws : List (Int × Int)} {as : List Int} {M0 M : Mem} {v : Int} (N : Nat) (h : St q ws as M0 M) (hm : (22 : Int) ∈ as) (hv : -1 ≤ v ∧ v ≤ 59) (hq : q (fil M 22 N v)) : St q ws as M0 (fil M 22 N v) := sw_22 (M := M) h hm rfl rfl rfl (fun y j hy => by rw [rd_fil, if_neg (fun c => hy c.1)]) (fun j => by rw [rd_fil]; split; exact hv; exact ar_22 h.1.2.1 j) hq
theorem ar_23 {M : Mem} (h : Iv M) (j : Int) : 0 ≤ rd M 23 j ∧ rd M 23 j ≤ 60 := h.2 (23, 0, 60) (List.mem_of_getElem? (i := 17) rfl) j
theorem sw_23 {q : Mem → Prop} {ws : List (Int × Int)} {as : List Int} {M0 M : Mem} {M2 : Mem} (h : St q ws as M0 M) (hm : (23 : Int) ∈ as) (hT : mT M2 = mT M) (hn : M2.1 = M.1) (hz : M2.2.1 = M.2.1) (ho : ∀ y i : Int, y ≠ 23 → rd M2 y i = rd M y i) (hv : ∀ i : Int, 0 ≤ rd M2 23 i ∧ rd M2 23 i ≤ 60) (hq : q M2) : St q ws as M0 M2 := St.wa 17 h (by decide) hm rfl (by decide +kernel) (by decide +kernel) (by decide +kernel) hT hn hz ho hv hq
theorem sa_23 {q : Mem → Prop} {ws : List (Int × Int)} {as : List Int} {M0 M : Mem} {i v : Int} (h : St q ws as M0 M) (hm : (23 : Int) ∈ as) (hv : 0 ≤ v ∧ v ≤ 60) (hq : q (wr M 23 i v)) : St q ws as M0 (wr M 23 i v) := sw_23 h hm rfl rfl rfl (fun y j hy => rd_wn M (fun c => hy c.1)) (fun j => by rw [rd_wr]; split; exact hv; exact ar_23 h.1.2.1 j) hq
theorem sf_23 {q : Mem → Prop} {ws : List (Int × Int)} {as : List Int} {M0 M : Mem} {v : Int} (N : Nat) (h : St q ws as M0 M) (hm : (23 : Int) ∈ as) (hv : 0 ≤ v ∧ v ≤ 60) (hq : q (fil M 23 N v)) : St q ws as M0 (fil M 23 N v) := sw_23 (M := M) h hm rfl rfl rfl (fun y j hy => by rw [rd_fil, if_neg (fun c => hy c.1)]) (fun j => by rw [rd_fil]; split; exact hv; exact ar_23 h.1.2.1 j) hq
theorem ar_24 {M : Mem} (h : Iv M) (j : Int) : -2147483648 ≤ rd M 24 j ∧ rd M 24 j ≤ 2147483647 := h.2 (24, -2147483648, 2147483647) (List.mem_of_getElem? (i := 18) rfl) j
theorem swX_24 {q : Mem → Prop} {ws : List (Int × Int)} {as : List Int} {M0 M : Mem} {M2 : Mem} (h : St q ws as M0 M) (hm : (24 : Int) ∈ as) (hT : mT M2 = mT M) (hn : M2.1 = M.1) (ho : ∀ y i : Int, y ≠ 24 → rd M2 y i = rd M y i) (hv : ∀ i : Int, -2147483648 ≤ rd M2 24 i ∧ rd M2 24 i ≤ 2147483647) (hx : Xp q M2) : St q ws as M0 M2 := St.waX 18 h (by decide) hm rfl (by decide +kernel) (by decide +kernel) (by decide +kernel) hT hn ho hv hx
theorem saX_24 {q : Mem → Prop} {ws : List (Int × Int)} {as : List Int} {M0 M : Mem} {i v : Int} (h : St q ws as M0 M) (hm : (24 : Int) ∈ as) (hv : -2147483648 ≤ v ∧ v ≤ 2147483647) (hx : Xp q (wr M 24 i v)) : St q ws as M0 (wr M 24 i v) := swX_24 h hm rfl rfl (fun y j hy => rd_wn M (fun c => hy c.1)) (fun j => by rw [rd_wr]; split; exact hv; exact ar_24 h.1.2.1 j) hx
theorem ar_25 {M : Mem} (h : Iv M) (j : Int) : -2147483648 ≤ rd M 25 j ∧ rd M 25 j ≤ 2147483647 := h.2 (25, -2147483648, 2147483647) (List.mem_of_getElem? (i := 19) rfl) j
theorem swX_25 {q : Mem → Prop} {ws : List (Int × Int)} {as : List Int} {M0 M : Mem} {M2 : Mem} (h : St q ws as M0 M) (hm : (25 : Int) ∈ as) (hT : mT M2 = mT M) (hn : M2.1 = M.1) (ho : ∀ y i : Int, y ≠ 25 → rd M2 y i = rd M y i) (hv : ∀ i : Int, -2147483648 ≤ rd M2 25 i ∧ rd M2 25 i ≤ 2147483647) (hx : Xp q M2) : St q ws as M0 M2 := St.waX 19 h (by decide) hm rfl (by decide +kernel) (by decide +kernel) (by decide +kernel) hT hn ho hv hx
theorem saX_25 {q : Mem → Prop} {ws : List (Int × Int)} {as : List Int} {M0 M : Mem} {i v : Int} (h : St q ws as M0 M) (hm : (25 : Int) ∈ as) (hv : -2147483648 ≤ v ∧ v ≤ 2147483647) (hx : Xp q (wr M 25 i v)) : St q ws as M0 (wr M 25 i v) := swX_25 h hm rfl rfl (fun y j hy => rd_wn M (fun c => hy c.1)) (fun j => by rw [rd_wr]; split; exact hv; exact ar_25 h.1.2.1 j) hx
theorem ar_26 {M : Mem} (h : Iv M) (j : Int) : -2147483648 ≤ rd M 26 j ∧ rd M 26 j ≤ 2147483647 := h.2 (26, -2147483648, 2147483647) (List.mem_of_getElem? (i := 20) rfl) j
theorem sw_26 {q : Mem → Prop} {ws : List (Int × Int)} {as : List Int} {M0 M : Mem} {M2 : Mem} (h : St q ws as M0 M) (hm : (26 : Int) ∈ as) (hT : mT M2 = mT M) (hn : M2.1 = M.1) (hz : M2.2.1 = M.2.1) (ho : ∀ y i : Int, y ≠ 26 → rd M2 y i = rd M y i) (hv : ∀ i : Int, -2147483648 ≤ rd M2 26 i ∧ rd M2 26 i ≤ 2147483647) (hq : q M2) : St q ws as M0 M2 := St.wa 20 h (by decide) hm rfl (by decide +kernel) (by decide +kernel) (by decide +kernel) hT hn hz ho hv hq
theorem sa_26 {q : Mem → Prop} {ws : List (Int × Int)} {as : List Int} {M0 M : Mem} {i v : Int} (h : St q ws as M0 M) (hm : (26 : Int) ∈ as) (hv : -2147483648 ≤ v ∧ v ≤ 2147483647) (hq : q (wr M 26 i v)) : St q ws as M0 (wr M 26 i v) := sw_26 h hm rfl rfl rfl (fun y j hy => rd_wn M (fun c => hy c.1)) (fun j => by rw [rd_wr]; split; exact hv; exact ar_26 h.1.2.1 j) hq
theorem sf_26 {q : Mem → Prop} {ws : List (Int × Int)} {as : List Int} {M0 M : Mem} {v : Int} (N : Nat) (h : St q ws as M0 M) (hm : (26 : Int) ∈ as) (hv : -2147483648 ≤ v ∧ v ≤ 2147483647) (hq : q (fil M 26 N v)) : St q ws as M0 (fil M 26 N v) := sw_26 (M := M) h hm rfl rfl rfl (fun y j hy => by rw [rd_fil, if_neg (fun c => hy c.1)]) (fun j => by rw [rd_fil]; split; exact hv; exact ar_26 h.1.2.1 j) hq
theorem ar_29 {M : Mem} (h : Iv M) (j : Int) : -1 ≤ rd M 29 j ∧ rd M 29 j ≤ 999 := h.2 (29, -1, 999) (List.mem_of_getElem? (i := 21) rfl) j
theorem sw_29 {q : Mem → Prop} {ws : List (Int × Int)} {as : List Int} {M0 M : Mem} {M2 : Mem} (h : St q ws as M0 M) (hm : (29 : Int) ∈ as) (hT : mT M2 = mT M) (hn : M2.1 = M.1) (hz : M2.2.1 = M.2.1) (ho : ∀ y i : Int, y ≠ 29 → rd M2 y i = rd M y i) (hv : ∀ i : Int, -1 ≤ rd M2 29 i ∧ rd M2 29 i ≤ 999) (hq : q M2) : St q ws as M0 M2 := St.wa 21 h (by decide) hm rfl (by decide +kernel) (by decide +kernel) (by decide +kernel) hT hn hz ho hv hq
theorem sa_29 {q : Mem → Prop} {ws : List (Int × Int)} {as : List Int} {M0 M : Mem} {i v : Int} (h : St q ws as M0 M) (hm : (29 : Int) ∈ as) (hv : -1 ≤ v ∧ v ≤ 999) (hq : q (wr M 29 i v)) : St q ws as M0 (wr M 29 i v) := sw_29 h hm rfl rfl rfl (fun y j hy => rd_wn M (fun c => hy c.1)) (fun j => by rw [rd_wr]; split; exact hv; exact ar_29 h.1.2.1 j) hq
theorem sf_29 {q : Mem → Prop} {ws : List (Int × Int)} {as : List Int} {M0 M : Mem} {v : Int} (N : Nat) (h : St q ws as M0 M) (hm : (29 : Int) ∈ as) (hv : -1 ≤ v ∧ v ≤ 999) (hq : q (fil M 29 N v)) : St q ws as M0 (fil M 29 N v) := sw_29 (M := M) h hm rfl rfl rfl (fun y j hy => by rw [rd_fil, if_neg (fun c => hy c.1)]) (fun j => by rw [rd_fil]; split; exact hv; exact ar_29 h.1.2.1 j) hq
theorem ar_30 {M : Mem} (h : Iv M) (j : Int) : -1 ≤ rd M 30 j ∧ rd M 30 j ≤ 20 := h.2 (30, -1, 20) (List.mem_of_getElem? (i := 22) rfl) j
theorem sw_30 {q : Mem → Prop} {ws : List (Int × Int)} {as : List Int} {M0 M : Mem} {M2 : Mem} (h : St q ws as M0 M) (hm : (30 : Int) ∈ as) (hT : mT M2 = mT M) (hn : M2.1 = M.1) (hz : M2.2.1 = M.2.1) (ho : ∀ y i : Int, y ≠ 30 → rd M2 y i = rd M y i) (hv : ∀ i : Int, -1 ≤ rd M2 30 i ∧ rd M2 30 i ≤ 20) (hq : q M2) : St q ws as M0 M2 := St.wa 22 h (by decide) hm rfl (by decide +kernel) (by decide +kernel) (by decide +kernel) hT hn hz ho hv hq
theorem sa_30 {q : Mem → Prop} {ws : List (Int × Int)} {as : List Int} {M0 M : Mem} {i v : Int} (h : St q ws as M0 M) (hm : (30 : Int) ∈ as) (hv : -1 ≤ v ∧ v ≤ 20) (hq : q (wr M 30 i v)) : St q ws as M0 (wr M 30 i v) := sw_30 h hm rfl rfl rfl (fun y j hy => rd_wn M (fun c => hy c.1)) (fun j => by rw [rd_wr]; split; exact hv; exact ar_30 h.1.2.1 j) hq
theorem sf_30 {q : Mem → Prop} {ws : List (Int × Int)} {as : List Int} {M0 M : Mem} {v : Int} (N : Nat) (h : St q ws as M0 M) (hm : (30 : Int) ∈ as) (hv : -1 ≤ v ∧ v ≤ 20) (hq : q (fil M 30 N v)) : St q ws as M0 (fil M 30 N v) := sw_30 (M := M) h hm rfl rfl rfl (fun y j hy => by rw [rd_fil, if_neg (fun c => hy c.1)]) (fun j => by rw [rd_fil]; split; exact hv; exact ar_30 h.1.2.1 j) hq
theorem ar_31 {M : Mem} (h : Iv M) (j : Int) : 0 ≤ rd M 31 j ∧ rd M 31 j ≤ 50 := h.2 (31, 0, 50) (List.mem_of_getElem? (i := 23) rfl) j
theorem sw_31 {q : Mem → Prop} {ws : List (Int × Int)} {as : List Int} {M0 M : Mem} {M2 : Mem} (h : St q ws as M0 M) (hm : (31 : Int) ∈ as) (hT : mT M2 = mT M) (hn : M2.1 = M.1) (hz : M2.2.1 = M.2.1) (ho : ∀ y i : Int, y ≠ 31 → rd M2 y i = rd M y i) (hv : ∀ i : Int, 0 ≤ rd M2 31 i ∧ rd M2 31 i ≤ 50) (hq : q M2) : St q ws as M0 M2 := St.wa 23 h (by decide) hm rfl (by decide +kernel) (by decide +kernel) (by decide +kernel) hT hn hz ho hv hq
theorem sa_31 {q : Mem → Prop} {ws : List (Int × Int)} {as : List Int} {M0 M : Mem} {i v : Int} (h : St q ws as M0 M) (hm : (31 : Int) ∈ as) (hv : 0 ≤ v ∧ v ≤ 50) (hq : q (wr M 31 i v)) : St q ws as M0 (wr M 31 i v) := sw_31 h hm rfl rfl rfl (fun y j hy => rd_wn M (fun c => hy c.1)) (fun j => by rw [rd_wr]; split; exact hv; exact ar_31 h.1.2.1 j) hq
theorem sf_31 {q : Mem → Prop} {ws : List (Int × Int)} {as : List Int} {M0 M : Mem} {v : Int} (N : Nat) (h : St q ws as M0 M) (hm : (31 : Int) ∈ as) (hv : 0 ≤ v ∧ v ≤ 50) (hq : q (fil M 31 N v)) : St q ws as M0 (fil M 31 N v) := sw_31 (M := M) h hm rfl rfl rfl (fun y j hy => by rw [rd_fil, if_neg (fun c => hy c.1)]) (fun j => by rw [rd_fil]; split; exact hv; exact ar_31 h.1.2.1 j) hq
theorem ar_32 {M : Mem} (h : Iv M) (j : Int) : -1 ≤ rd M 32 j ∧ rd M 32 j ≤ 99 := h.2 (32, -1, 99) (List.mem_of_getElem? (i := 24) rfl) j
theorem sw_32 {q : Mem → Prop} {ws : List (Int × Int)} {as : List Int} {M0 M : Mem} {M2 : Mem} (h : St q ws as M0 M) (hm : (32 : Int) ∈ as) (hT : mT M2 = mT M) (hn : M2.1 = M.1) (hz : M2.2.1 = M.2.1) (ho : ∀ y i : Int, y ≠ 32 → rd M2 y i = rd M y i) (hv : ∀ i : Int, -1 ≤ rd M2 32 i ∧ rd M2 32 i ≤ 99) (hq : q M2) : St q ws as M0 M2 := St.wa 24 h (by decide) hm rfl (by decide +kernel) (by decide +kernel) (by decide +kernel) hT hn hz ho hv hq
theorem sa_32 {q : Mem → Prop} {ws : List (Int × Int)} {as : List Int} {M0 M : Mem} {i v : Int} (h : St q ws as M0 M) (hm : (32 : Int) ∈ as) (hv : -1 ≤ v ∧ v ≤ 99) (hq : q (wr M 32 i v)) : St q ws as M0 (wr M 32 i v) := sw_32 h hm rfl rfl rfl (fun y j hy => rd_wn M (fun c => hy c.1)) (fun j => by rw [rd_wr]; split; exact hv; exact ar_32 h.1.2.1 j) hq
theorem sf_32 {q : Mem → Prop} {ws : List (Int × Int)} {as : List Int} {M0 M : Mem} {v : Int} (N : Nat) (h : St q ws as M0 M) (hm : (32 : Int) ∈ as) (hv : -1 ≤ v ∧ v ≤ 99) (hq : q (fil M 32 N v)) : St q ws as M0 (fil M 32 N v) := sw_32 (M := M) h hm rfl rfl rfl (fun y j hy => by rw [rd_fil, if_neg (fun c => hy c.1)]) (fun j => by rw [rd_fil]; split; exact hv; exact ar_32 h.1.2.1 j) hq
theorem ar_33 {M : Mem} (h : Iv M) (j : Int) : -1 ≤ rd M 33 j ∧ rd M 33 j ≤ 99 := h.2 (33, -1, 99) (List.mem_of_getElem? (i := 25) rfl) j
theorem sw_33 {q : Mem → Prop} {ws : List (Int × Int)} {as : List Int} {M0 M : Mem} {M2 : Mem} (h : St q ws as M0 M) (hm : (33 : Int) ∈ as) (hT : mT M2 = mT M) (hn : M2.1 = M.1) (hz : M2.2.1 = M.2.1) (ho : ∀ y i : Int, y ≠ 33 → rd M2 y i = rd M y i) (hv : ∀ i : Int, -1 ≤ rd M2 33 i ∧ rd M2 33 i ≤ 99) (hq : q M2) : St q ws as M0 M2 := St.wa 25 h (by decide) hm rfl (by decide +kernel) (by decide +kernel) (by decide +kernel) hT hn hz ho hv hq
theorem sa_33 {q : Mem → Prop} {ws : List (Int × Int)} {as : List Int} {M0 M : Mem} {i v : Int} (h : St q ws as M0 M) (hm : (33 : Int) ∈ as) (hv : -1 ≤ v ∧ v ≤ 99) (hq : q (wr M 33 i v)) : St q ws as M0 (wr M 33 i v) := sw_33 h hm rfl rfl rfl (fun y j hy => rd_wn M (fun c => hy c.1)) (fun j => by rw [rd_wr]; split; exact hv; exact ar_33 h.1.2.1 j) hq
theorem sf_33 {q : Mem → Prop} {ws : List (Int × Int)} {as : List Int} {M0 M : Mem} {v : Int} (N : Nat) (h : St q ws as M0 M) (hm : (33 : Int) ∈ as) (hv : -1 ≤ v ∧ v ≤ 99) (hq : q (fil M 33 N v)) : St q ws as M0 (fil M 33 N v) := sw_33 (M := M) h hm rfl rfl rfl (fun y j hy => by rw [rd_fil, if_neg (fun c => hy c.1)]) (fun j => by rw [rd_fil]; split; exact hv; exact ar_33 h.1.2.1 j) hq
theorem ar_34 {M : Mem} (h : Iv M) (j : Int) : -2147483648 ≤ rd M 34 j ∧ rd M 34 j ≤ 2147483647 := h.2 (34, -2147483648, 2147483647) (List.mem_of_getElem? (i := 26) rfl) j
theorem sw_34 {q : Mem → Prop} {ws : List (Int × Int)} {as : List Int} {M0 M : Mem} {M2 : Mem} (h : St q ws as M0 M) (hm : (34 : Int) ∈ as) (hT : mT M2 = mT M) (hn : M2.1 = M.1) (hz : M2.2.1 = M.2.1) (ho : ∀ y i : Int, y ≠ 34 → rd M2 y i = rd M y i) (hv : ∀ i : Int, -2147483648 ≤ rd M2 34 i ∧ rd M2 34 i ≤ 2147483647) (hq : q M2) : St q ws as M0 M2 := St.wa 26 h (by decide) hm rfl (by decide +kernel) (by decide +kernel) (by decide +kernel) hT hn hz ho hv hq
theorem sa_34 {q : Mem → Prop} {ws : List (Int × Int)} {as : List Int} {M0 M : Mem} {i v : Int} (h : St q ws as M0 M) (hm : (34 : Int) ∈ as) (hv : -2147483648 ≤ v ∧ v ≤ 2147483647) (hq : q (wr M 34 i v)) : St q ws as M0 (wr M 34 i v) := sw_34 h hm rfl rfl rfl (fun y j hy => rd_wn M (fun c => hy c.1)) (fun j => by rw [rd_wr]; split; exact hv; exact ar_34 h.1.2.1 j) hq
theorem sf_34 {q : Mem → Prop} {ws : List (Int × Int)} {as : List Int} {M0 M : Mem} {v : Int} (N : Nat) (h : St q ws as M0 M) (hm : (34 : Int) ∈ as) (hv : -2147483648 ≤ v ∧ v ≤ 2147483647) (hq : q (fil M 34 N v)) : St q ws as M0 (fil M 34 N v) := sw_34 (M := M) h hm rfl rfl rfl (fun y j hy => by rw [rd_fil, if_neg (fun c => hy c.1)]) (fun j => by rw [rd_fil]; split; exact hv; exact ar_34 h.1.2.1 j) hq
theorem ar_36 {M : Mem} (h : Iv M) (j : Int) : -2147483648 ≤ rd M 36 j ∧ rd M 36 j ≤ 2147483647 := h.2 (36, -2147483648, 2147483647) (List.mem_of_getElem? (i := 27) rfl) j
theorem sw_36 {q : Mem → Prop} {ws : List (Int × Int)} {as : List Int} {M0 M : Mem} {M2 : Mem} (h : St q ws as M0 M) (hm : (36 : Int) ∈ as) (hT : mT M2 = mT M) (hn : M2.1 = M.1) (hz : M2.2.1 = M.2.1) (ho : ∀ y i : Int, y ≠ 36 → rd M2 y i = rd M y i) (hv : ∀ i : Int, -2147483648 ≤ rd M2 36 i ∧ rd M2 36 i ≤ 2147483647) (hq : q M2) : St q ws as M0 M2 := St.wa 27 h (by decide) hm rfl (by decide +kernel) (by decide +kernel) (by decide +kernel) hT hn hz ho hv hq
theorem sa_36 {q : Mem → Prop} {ws : List (Int × Int)} {as : List Int} {M0 M : Mem} {i v : Int} (h : St q ws as M0 M) (hm : (36 : Int) ∈ as) (hv : -2147483648 ≤ v ∧ v ≤ 2147483647) (hq : q (wr M 36 i v)) : St q ws as M0 (wr M 36 i v) := sw_36 h hm rfl rfl rfl (fun y j hy => rd_wn M (fun c => hy c.1)) (fun j => by rw [rd_wr]; split; exact hv; exact ar_36 h.1.2.1 j) hq
theorem sf_36 {q : Mem → Prop} {ws : List (Int × Int)} {as : List Int} {M0 M : Mem} {v : Int} (N : Nat) (h : St q ws as M0 M) (hm : (36 : Int) ∈ as) (hv : -2147483648 ≤ v ∧ v ≤ 2147483647) (hq : q (fil M 36 N v)) : St q ws as M0 (fil M 36 N v) := sw_36 (M := M) h hm rfl rfl rfl (fun y j hy => by rw [rd_fil, if_neg (fun c => hy c.1)]) (fun j => by rw [rd_fil]; split; exact hv; exact ar_36 h.1.2.1 j) hq
theorem ar_37 {M : Mem} (h : Iv M) (j : Int) : 0 ≤ rd M 37 j ∧ rd M 37 j ≤ 5 := h.2 (37, 0, 5) (List.mem_of_getElem? (i := 28) rfl) j
theorem sw_37 {q : Mem → Prop} {ws : List (Int × Int)} {as : List Int} {M0 M : Mem} {M2 : Mem} (h : St q ws as M0 M) (hm : (37 : Int) ∈ as) (hT : mT M2 = mT M) (hn : M2.1 = M.1) (hz : M2.2.1 = M.2.1) (ho : ∀ y i : Int, y ≠ 37 → rd M2 y i = rd M y i) (hv : ∀ i : Int, 0 ≤ rd M2 37 i ∧ rd M2 37 i ≤ 5) (hq : q M2) : St q ws as M0 M2 := St.wa 28 h (by decide) hm rfl (by decide +kernel) (by decide +kernel) (by decide +kernel) hT hn hz ho hv hq
theorem sa_37 {q : Mem → Prop} {ws : List (Int × Int)} {as : List Int} {M0 M : Mem} {i v : Int} (h : St q ws as M0 M) (hm : (37 : Int) ∈ as) (hv : 0 ≤ v ∧ v ≤ 5) (hq : q (wr M 37 i v)) : St q ws as M0 (wr M 37 i v) := sw_37 h hm rfl rfl rfl (fun y j hy => rd_wn M (fun c => hy c.1)) (fun j => by rw [rd_wr]; split; exact hv; exact ar_37 h.1.2.1 j) hq
theorem sf_37 {q : Mem → Prop} {ws : List (Int × Int)} {as : List Int} {M0 M : Mem} {v : Int} (N : Nat) (h : St q ws as M0 M) (hm : (37 : Int) ∈ as) (hv : 0 ≤ v ∧ v ≤ 5) (hq : q (fil M 37 N v)) : St q ws as M0 (fil M 37 N v) := sw_37 (M := M) h hm rfl rfl rfl (fun y j hy => by rw [rd_fil, if_neg (fun c => hy c.1)]) (fun j => by rw [rd_fil]; split; exact hv; exact ar_37 h.1.2.1 j) hq
theorem ar_38 {M : Mem} (h : Iv M) (j : Int) : 0 ≤ rd M 38 j ∧ rd M 38 j ≤ 900 := h.2 (38, 0, 900) (List.mem_of_getElem? (i := 29) rfl) j
theorem sw_38 {q : Mem → Prop} {ws : List (Int × Int)} {as : List Int} {M0 M : Mem} {M2 : Mem} (h : St q ws as M0 M) (hm : (38 : Int) ∈ as) (hT : mT M2 = mT M) (hn : M2.1 = M.1) (hz : M2.2.1 = M.2.1) (ho : ∀ y i : Int, y ≠ 38 → rd M2 y i = rd M y i) (hv : ∀ i : Int, 0 ≤ rd M2 38 i ∧ rd M2 38 i ≤ 900) (hq : q M2) : St q ws as M0 M2 := St.wa 29 h (by decide) hm rfl (by decide +kernel) (by decide +kernel) (by decide +kernel) hT hn hz ho hv hq
theorem sa_38 {q : Mem → Prop} {ws : List (Int × Int)} {as : List Int} {M0 M : Mem} {i v : Int} (h : St q ws as M0 M) (hm : (38 : Int) ∈ as) (hv : 0 ≤ v ∧ v ≤ 900) (hq : q (wr M 38 i v)) : St q ws as M0 (wr M 38 i v) := sw_38 h hm rfl rfl rfl (fun y j hy => rd_wn M (fun c => hy c.1)) (fun j => by rw [rd_wr]; split; exact hv; exact ar_38 h.1.2.1 j) hq
theorem sf_38 {q : Mem → Prop} {ws : List (Int × Int)} {as : List Int} {M0 M : Mem} {v : Int} (N : Nat) (h : St q ws as M0 M) (hm : (38 : Int) ∈ as) (hv : 0 ≤ v ∧ v ≤ 900) (hq : q (fil M 38 N v)) : St q ws as M0 (fil M 38 N v) := sw_38 (M := M) h hm rfl rfl rfl (fun y j hy => by rw [rd_fil, if_neg (fun c => hy c.1)]) (fun j => by rw [rd_fil]; split; exact hv; exact ar_38 h.1.2.1 j) hq
theorem ar_39 {M : Mem} (h : Iv M) (j : Int) : -2147483648 ≤ rd M 39 j ∧ rd M 39 j ≤ 2147483647 := h.2 (39, -2147483648, 2147483647) (List.mem_of_getElem? (i := 30) rfl) j
theorem sw_39 {q : Mem → Prop} {ws : List (Int × Int)} {as : List Int} {M0 M : Mem} {M2 : Mem} (h : St q ws as M0 M) (hm : (39 : Int) ∈ as) (hT : mT M2 = mT M) (hn : M2.1 = M.1) (hz : M2.2.1 = M.2.1) (ho : ∀ y i : Int, y ≠ 39 → rd M2 y i = rd M y i) (hv : ∀ i : Int, -2147483648 ≤ rd M2 39 i ∧ rd M2 39 i ≤ 2147483647) (hq : q M2) : St q ws as M0 M2 := St.wa 30 h (by decide) hm rfl (by decide +kernel) (by decide +kernel) (by decide +kernel) hT hn hz ho hv hq
theorem sa_39 {q : Mem → Prop} {ws : List (Int × Int)} {as : List Int} {M0 M : Mem} {i v : Int} (h : St q ws as M0 M) (hm : (39 : Int) ∈ as) (hv : -2147483648 ≤ v ∧ v ≤ 2147483647) (hq : q (wr M 39 i v)) : St q ws as M0 (wr M 39 i v) := sw_39 h hm rfl rfl rfl (fun y j hy => rd_wn M (fun c => hy c.1)) (fun j => by rw [rd_wr]; split; exact hv; exact ar_39 h.1.2.1 j) hq
theorem sf_39 {q : Mem → Prop} {ws : List (Int × Int)} {as : List Int} {M0 M : Mem} {v : Int} (N : Nat) (h : St q ws as M0 M) (hm : (39 : Int) ∈ as) (hv : -2147483648 ≤ v ∧ v ≤ 2147483647) (hq : q (fil M 39 N v)) : St q ws as M0 (fil M 39 N v) := sw_39 (M := M) h hm rfl rfl rfl (fun y j hy => by rw [rd_fil, if_neg (fun c => hy c.1)]) (fun j => by rw [rd_fil]; split; exact hv; exact ar_39 h.1.2.1 j) hq
theorem ar_40 {M : Mem} (h : Iv M) (j : Int) : -2147483648 ≤ rd M 40 j ∧ rd M 40 j ≤ 2147483647 := h.2 (40, -2147483648, 2147483647) (List.mem_of_getElem? (i := 31) rfl) j
theorem sw_40 {q : Mem → Prop} {ws : List (Int × Int)} {as : List Int} {M0 M : Mem} {M2 : Mem} (h : St q ws as M0 M) (hm : (40 : Int) ∈ as) (hT : mT M2 = mT M) (hn : M2.1 = M.1) (hz : M2.2.1 = M.2.1) (ho : ∀ y i : Int, y ≠ 40 → rd M2 y i = rd M y i) (hv : ∀ i : Int, -2147483648 ≤ rd M2 40 i ∧ rd M2 40 i ≤ 2147483647) (hq : q M2) : St q ws as M0 M2 := St.wa 31 h (by decide) hm rfl (by decide +kernel) (by decide +kernel) (by decide +kernel) hT hn hz ho hv hq
theorem sa_40 {q : Mem → Prop} {ws : List (Int × Int)} {as : List Int} {M0 M : Mem} {i v : Int} (h : St q ws as M0 M) (hm : (40 : Int) ∈ as) (hv : -2147483648 ≤ v ∧ v ≤ 2147483647) (hq : q (wr M 40 i v)) : St q ws as M0 (wr M 40 i v) := sw_40 h hm rfl rfl rfl (fun y j hy => rd_wn M (fun c => hy c.1)) (fun j => by rw [rd_wr]; split; exact hv; exact ar_40 h.1.2.1 j) hq
theorem sf_40 {q : Mem → Prop} {ws : List (Int × Int)} {as : List Int} {M0 M : Mem} {v : Int} (N : Nat) (h : St q ws as M0 M) (hm : (40 : Int) ∈ as) (hv : -2147483648 ≤ v ∧ v ≤ 2147483647) (hq : q (fil M 40 N v)) : St q ws as M0 (fil M 40 N v) := sw_40 (M := M) h hm rfl rfl rfl (fun y j hy => by rw [rd_fil, if_neg (fun c => hy c.1)]) (fun j => by rw [rd_fil]; split; exact hv; exact ar_40 h.1.2.1 j) hq
theorem ar_41 {M : Mem} (h : Iv M) (j : Int) : -1 ≤ rd M 41 j ∧ rd M 41 j ≤ 59 := h.2 (41, -1, 59) (List.mem_of_getElem? (i := 32) rfl) j
theorem sw_41 {q : Mem → Prop} {ws : List (Int × Int)} {as : List Int} {M0 M : Mem} {M2 : Mem} (h : St q ws as M0 M) (hm : (41 : Int) ∈ as) (hT : mT M2 = mT M) (hn : M2.1 = M.1) (hz : M2.2.1 = M.2.1) (ho : ∀ y i : Int, y ≠ 41 → rd M2 y i = rd M y i) (hv : ∀ i : Int, -1 ≤ rd M2 41 i ∧ rd M2 41 i ≤ 59) (hq : q M2) : St q ws as M0 M2 := St.wa 32 h (by decide) hm rfl (by decide +kernel) (by decide +kernel) (by decide +kernel) hT hn hz ho hv hq
theorem sa_41 {q : Mem → Prop} {ws : List (Int × Int)} {as : List Int} {M0 M : Mem} {i v : Int} (h : St q ws as M0 M) (hm : (41 : Int) ∈ as) (hv : -1 ≤ v ∧ v ≤ 59) (hq : q (wr M 41 i v)) : St q ws as M0 (wr M 41 i v) := sw_41 h hm rfl rfl rfl (fun y j hy => rd_wn M (fun c => hy c.1)) (fun j => by rw [rd_wr]; split; exact hv; exact ar_41 h.1.2.1 j) hq
theorem sf_41 {q : Mem → Prop} {ws : List (Int × Int)} {as : List Int} {M0 M : Mem} {v : Int} (N : Nat) (h : St q ws as M0 M) (hm : (41 : Int) ∈ as) (hv : -1 ≤ v ∧ v ≤ 59) (hq : q (fil M 41 N v)) : St q ws as M0 (fil M 41 N v) := sw_41 (M := M) h hm rfl rfl rfl (fun y j hy => by rw [rd_fil, if_neg (fun c => hy c.1)]) (fun j => by rw [rd_fil]; split; exact hv; exact ar_41 h.1.2.1 j) hq
theorem ar_42 {M : Mem} (h : Iv M) (j : Int) : -1 ≤ rd M 42 j ∧ rd M 42 j ≤ 59 := h.2 (42, -1, 59) (List.mem_of_getElem? (i := 33) rfl) j
theorem sw_42 {q : Mem → Prop} {ws : List (Int × Int)} {as : List Int} {M0 M : Mem} {M2 : Mem} (h : St q ws as M0 M) (hm : (42 : Int) ∈ as) (hT : mT M2 = mT M) (hn : M2.1 = M.1) (hz : M2.2.1 = M.2.1) (ho : ∀ y i : Int, y ≠ 42 → rd M2 y i = rd M y i) (hv : ∀ i : Int, -1 ≤ rd M2 42 i ∧ rd M2 42 i ≤ 59) (hq : q M2) : St q ws as M0 M2 := St.wa 33 h (by decide) hm rfl (by decide +kernel) (by decide +kernel) (by decide +kernel) hT hn hz ho hv hq
theorem sa_42 {q : Mem → Prop} {ws : List (Int × Int)} {as : List Int} {M0 M : Mem} {i v : Int} (h : St q ws as M0 M) (hm : (42 : Int) ∈ as) (hv : -1 ≤ v ∧ v ≤ 59) (hq : q (wr M 42 i v)) : St q ws as M0 (wr M 42 i v) := sw_42 h hm rfl rfl rfl (fun y j hy => rd_wn M (fun c => hy c.1)) (fun j => by rw [rd_wr]; split; exact hv; exact ar_42 h.1.2.1 j) hq
theorem sf_42 {q : Mem → Prop} {ws : List (Int × Int)} {as : List Int} {M0 M : Mem} {v : Int} (N : Nat) (h : St q ws as M0 M) (hm : (42 : Int) ∈ as) (hv : -1 ≤ v ∧ v ≤ 59) (hq : q (fil M 42 N v)) : St q ws as M0 (fil M 42 N v) := sw_42 (M := M) h hm rfl rfl rfl (fun y j hy => by rw [rd_fil, if_neg (fun c => hy c.1)]) (fun j => by rw [rd_fil]; split; exact hv; exact ar_42 h.1.2.1 j) hq
theorem ar_43 {M : Mem} (h : Iv M) (j : Int) : 0 ≤ rd M 43 j ∧ rd M 43 j ≤ 60 := h.2 (43, 0, 60) (List.mem_of_getElem? (i := 34) rfl) j
theorem sw_43 {q : Mem → Prop} {ws : List (Int × Int)} {as : List Int} {M0 M : Mem} {M2 : Mem} (h : St q ws as M0 M) (hm : (43 : Int) ∈ as) (hT : mT M2 = mT M) (hn : M2.1 = M.1) (hz : M2.2.1 = M.2.1) (ho : ∀ y i : Int, y ≠ 43 → rd M2 y i = rd M y i) (hv : ∀ i : Int, 0 ≤ rd M2 43 i ∧ rd M2 43 i ≤ 60) (hq : q M2) : St q ws as M0 M2 := St.wa 34 h (by decide) hm rfl (by decide +kernel) (by decide +kernel) (by decide +kernel) hT hn hz ho hv hq
theorem sa_43 {q : Mem → Prop} {ws : List (Int × Int)} {as : List Int} {M0 M : Mem} {i v : Int} (h : St q ws as M0 M) (hm : (43 : Int) ∈ as) (hv : 0 ≤ v ∧ v ≤ 60) (hq : q (wr M 43 i v)) : St q ws as M0 (wr M 43 i v) := sw_43 h hm rfl rfl rfl (fun y j hy => rd_wn M (fun c => hy c.1)) (fun j => by rw [rd_wr]; split; exact hv; exact ar_43 h.1.2.1 j) hq
theorem sf_43 {q : Mem → Prop} {ws : List (Int × Int)} {as : List Int} {M0 M : Mem} {v : Int} (N : Nat) (h : St q ws as M0 M) (hm : (43 : Int) ∈ as) (hv : 0 ≤ v ∧ v ≤ 60) (hq : q (fil M 43 N v)) : St q ws as M0 (fil M 43 N v) := sw_43 (M := M) h hm rfl rfl rfl (fun y j hy => by rw [rd_fil, if_neg (fun c => hy c.1)]) (fun j => by rw [rd_fil]; split; exact hv; exact ar_43 h.1.2.1 j) hq
theorem ar_44 {M : Mem} (h : Iv M) (j : Int) : -2147483648 ≤ rd M 44 j ∧ rd M 44 j ≤ 2147483647 := h.2 (44, -2147483648, 2147483647) (List.mem_of_getElem? (i := 35) rfl) j
theorem swX_44 {q : Mem → Prop} {ws : List (Int × Int)} {as : List Int} {M0 M : Mem} {M2 : Mem} (h : St q ws as M0 M) (hm : (44 : Int) ∈ as) (hT : mT M2 = mT M) (hn : M2.1 = M.1) (ho : ∀ y i : Int, y ≠ 44 → rd M2 y i = rd M y i) (hv : ∀ i : Int, -2147483648 ≤ rd M2 44 i ∧ rd M2 44 i ≤ 2147483647) (hx : Xp q M2) : St q ws as M0 M2 := St.waX 35 h (by decide) hm rfl (by decide +kernel) (by decide +kernel) (by decide +kernel) hT hn ho hv hx
theorem saX_44 {q : Mem → Prop} {ws : List (Int × Int)} {as : List Int} {M0 M : Mem} {i v : Int} (h : St q ws as M0 M) (hm : (44 : Int) ∈ as) (hv : -2147483648 ≤ v ∧ v ≤ 2147483647) (hx : Xp q (wr M 44 i v)) : St q ws as M0 (wr M 44 i v) := swX_44 h hm rfl rfl (fun y j hy => rd_wn M (fun c => hy c.1)) (fun j => by rw [rd_wr]; split; exact hv; exact ar_44 h.1.2.1 j) hx
theorem ar_45 {M : Mem} (h : Iv M) (j : Int) : -2147483648 ≤ rd M 45 j ∧ rd M 45 j ≤ 2147483647 := h.2 (45, -2147483648, 2147483647) (List.mem_of_getElem? (i := 36) rfl) j
theorem swX_45 {q : Mem → Prop} {ws : List (Int × Int)} {as : List Int} {M0 M : Mem} {M2 : Mem} (h : St q ws as M0 M) (hm : (45 : Int) ∈ as) (hT : mT M2 = mT M) (hn : M2.1 = M.1) (ho : ∀ y i : Int, y ≠ 45 → rd M2 y i = rd M y i) (hv : ∀ i : Int, -2147483648 ≤ rd M2 45 i ∧ rd M2 45 i ≤ 2147483647) (hx : Xp q M2) : St q ws as M0 M2 := St.waX 36 h (by decide) hm rfl (by decide +kernel) (by decide +kernel) (by decide +kernel) hT hn ho hv hx
theorem saX_45 {q : Mem → Prop} {ws : List (Int × Int)} {as : List Int} {M0 M : Mem} {i v : Int} (h : St q ws as M0 M) (hm : (45 : Int) ∈ as) (hv : -2147483648 ≤ v ∧ v ≤ 2147483647) (hx : Xp q (wr M 45 i v)) : St q ws as M0 (wr M 45 i v) := swX_45 h hm rfl rfl (fun y j hy => rd_wn M (fun c => hy c.1)) (fun j => by rw [rd_wr]; split; exact hv; exact ar_45 h.1.2.1 j) hx
theorem ar_46 {M : Mem} (h : Iv M) (j : Int) : -2147483648 ≤ rd M 46 j ∧ rd M 46 j ≤ 2147483647 := h.2 (46, -2147483648, 2147483647) (List.mem_of_getElem? (i := 37) rfl) j
theorem sw_46 {q : Mem → Prop} {ws : List (Int × Int)} {as : List Int} {M0 M : Mem} {M2 : Mem} (h : St q ws as M0 M) (hm : (46 : Int) ∈ as) (hT : mT M2 = mT M) (hn : M2.1 = M.1) (hz : M2.2.1 = M.2.1) (ho : ∀ y i : Int, y ≠ 46 → rd M2 y i = rd M y i) (hv : ∀ i : Int, -2147483648 ≤ rd M2 46 i ∧ rd M2 46 i ≤ 2147483647) (hq : q M2) : St q ws as M0 M2 := St.wa 37 h (by decide) hm rfl (by decide +kernel) (by decide +kernel) (by decide +kernel) hT hn hz ho hv hq
theorem sa_46 {q : Mem → Prop} {ws : List (Int × Int)} {as : List Int} {M0 M : Mem} {i v : Int} (h : St q ws as M0 M) (hm : (46 : Int) ∈ as) (hv : -2147483648 ≤ v ∧ v ≤ 2147483647) (hq : q (wr M 46 i v)) : St q ws as M0 (wr M 46 i v) := sw_46 h hm rfl rfl rfl (fun y j hy => rd_wn M (fun c => hy c.1)) (fun j => by rw [rd_wr]; split; exact hv; exact ar_46 h.1.2.1 j) hq
theorem sf_46 {q : Mem → Prop} {ws : List (Int × Int)} {as : List Int} {M0 M : Mem} {v : Int} (N : Nat) (h : St q ws as M0 M) (hm : (46 : Int) ∈ as) (hv : -2147483648 ≤ v ∧ v ≤ 2147483647) (hq : q (fil M 46 N v)) : St q ws as M0 (fil M 46 N v) := sw_46 (M := M) h hm rfl rfl rfl (fun y j hy => by rw [rd_fil, if_neg (fun c => hy c.1)]) (fun j => by rw [rd_fil]; split; exact hv; exact ar_46 h.1.2.1 j) hq
theorem ar_47 {M : Mem} (h : Iv M) (j : Int) : -2147483648 ≤ rd M 47 j ∧ rd M 47 j ≤ 2147483647 := h.2 (47, -2147483648, 2147483647) (List.mem_of_getElem? (i := 38) rfl) j
theorem sw_47 {q : Mem → Prop} {ws : List (Int × Int)} {as : List Int} {M0 M : Mem} {M2 : Mem} (h : St q ws as M0 M) (hm : (47 : Int) ∈ as) (hT : mT M2 = mT M) (hn : M2.1 = M.1) (hz : M2.2.1 = M.2.1) (ho : ∀ y i : Int, y ≠ 47 → rd M2 y i = rd M y i) (hv : ∀ i : Int, -2147483648 ≤ rd M2 47 i ∧ rd M2 47 i ≤ 2147483647) (hq : q M2) : St q ws as M0 M2 := St.wa 38 h (by decide) hm rfl (by decide +kernel) (by decide +kernel) (by decide +kernel) hT hn hz ho hv hq
theorem sa_47 {q : Mem → Prop} {ws : List (Int × Int)} {as : List Int} {M0 M : Mem} {i v : Int} (h : St q ws as M0 M) (hm : (47 : Int) ∈ as) (hv : -2147483648 ≤ v ∧ v ≤ 2147483647) (hq : q (wr M 47 i v)) : St q ws as M0 (wr M 47 i v) := sw_47 h hm rfl rfl rfl (fun y j hy => rd_wn M (fun c => hy c.1)) (fun j => by rw [rd_wr]; split; exact hv; exact ar_47 h.1.2.1 j) hq
theorem sf_47 {q : Mem → Prop} {ws : List (Int × Int)} {as : List Int} {M0 M : Mem} {v : Int} (N : Nat) (h : St q ws as M0 M) (hm : (47 : Int) ∈ as) (hv : -2147483648 ≤ v ∧ v ≤ 2147483647) (hq : q (fil M 47 N v)) : St q ws as M0 (fil M 47 N v) := sw_47 (M := M) h hm rfl rfl rfl (fun y j hy => by rw [rd_fil, if_neg (fun c => hy c.1)]) (fun j => by rw [rd_fil]; split; exact hv; exact ar_47 h.1.2.1 j) hq
theorem ar_49 {M : Mem} (h : Iv M) (j : Int) : -2147483648 ≤ rd M 49 j ∧ rd M 49 j ≤ 2147483647 := h.2 (49, -2147483648, 2147483647) (List.mem_of_getElem? (i := 39) rfl) j
theorem sw_49 {q : Mem → Prop} {ws : List (Int × Int)} {as : List Int} {M0 M : Mem} {M2 : Mem} (h : St q ws as M0 M) (hm : (49 : Int) ∈ as) (hT : mT M2 = mT M) (hn : M2.1 = M.1) (hz : M2.2.1 = M.2.1) (ho : ∀ y i : Int, y ≠ 49 → rd M2 y i = rd M y i) (hv : ∀ i : Int, -2147483648 ≤ rd M2 49 i ∧ rd M2 49 i ≤ 2147483647) (hq : q M2) : St q ws as M0 M2 := St.wa 39 h (by decide) hm rfl (by decide +kernel) (by decide +kernel) (by decide +kernel) hT hn hz ho hv hq
theorem sa_49 {q : Mem → Prop} {ws : List (Int × Int)} {as : List Int} {M0 M : Mem} {i v : Int} (h : St q ws as M0 M) (hm : (49 : Int) ∈ as) (hv : -2147483648 ≤ v ∧ v ≤ 2147483647) (hq : q (wr M 49 i v)) : St q ws as M0 (wr M 49 i v) := sw_49 h hm rfl rfl rfl (fun y j hy => rd_wn M (fun c => hy c.1)) (fun j => by rw [rd_wr]; split; exact hv; exact ar_49 h.1.2.1 j) hq
theorem sf_49 {q : Mem → Prop} {ws : List (Int × Int)} {as : List Int} {M0 M : Mem} {v : Int} (N : Nat) (h : St q ws as M0 M) (hm : (49 : Int) ∈ as) (hv : -2147483648 ≤ v ∧ v ≤ 2147483647) (hq : q (fil M 49 N v)) : St q ws as M0 (fil M 49 N v) := sw_49 (M := M) h hm rfl rfl rfl (fun y j hy => by rw [rd_fil, if_neg (fun c => hy c.1)]) (fun j => by rw [rd_fil]; split; exact hv; exact ar_49 h.1.2.1 j) hq
theorem ar_50 {M : Mem} (h : Iv M) (j : Int) : -2147483648 ≤ rd M 50 j ∧ rd M 50 j ≤ 2147483647 := h.2 (50, -2147483648, 2147483647) (List.mem_of_getElem? (i := 40) rfl) j
theorem sw_50 {q : Mem → Prop} {ws : List (Int × Int)} {as : List Int} {M0 M : Mem} {M2 : Mem} (h : St q ws as M0 M) (hm : (50 : Int) ∈ as) (hT : mT M2 = mT M) (hn : M2.1 = M.1) (hz : M2.2.1 = M.2.1) (ho : ∀ y i : Int, y ≠ 50 → rd M2 y i = rd M y i) (hv : ∀ i : Int, -2147483648 ≤ rd M2 50 i ∧ rd M2 50 i ≤ 2147483647) (hq : q M2) : St q ws as M0 M2 := St.wa 40 h (by decide) hm rfl (by decide +kernel) (by decide +kernel) (by decide +kernel) hT hn hz ho hv hq
theorem sa_50 {q : Mem → Prop} {ws : List (Int × Int)} {as : List Int} {M0 M : Mem} {i v : Int} (h : St q ws as M0 M) (hm : (50 : Int) ∈ as) (hv : -2147483648 ≤ v ∧ v ≤ 2147483647) (hq : q (wr M 50 i v)) : St q ws as M0 (wr M 50 i v) := sw_50 h hm rfl rfl rfl (fun y j hy => rd_wn M (fun c => hy c.1)) (fun j => by rw [rd_wr]; split; exact hv; exact ar_50 h.1.2.1 j) hq
theorem sf_50 {q : Mem → Prop} {ws : List (Int × Int)} {as : List Int} {M0 M : Mem} {v : Int} (N : Nat) (h : St q ws as M0 M) (hm : (50 : Int) ∈ as) (hv : -2147483648 ≤ v ∧ v ≤ 2147483647) (hq : q (fil M 50 N v)) : St q ws as M0 (fil M 50 N v) := sw_50 (M := M) h hm rfl rfl rfl (fun y j hy => by rw [rd_fil, if_neg (fun c => hy c.1)]) (fun j => by rw [rd_fil]; split; exact hv; exact ar_50 h.1.2.1 j) hq
theorem ar_51 {M : Mem} (h : Iv M) (j : Int) : -2147483648 ≤ rd M 51 j ∧ rd M 51 j ≤ 2147483647 := h.2 (51, -2147483648, 2147483647) (List.mem_of_getElem? (i := 41) rfl) j
theorem sw_51 {q : Mem → Prop} {ws : List (Int × Int)} {as : List Int} {M0 M : Mem} {M2 : Mem} (h : St q ws as M0 M) (hm : (51 : Int) ∈ as) (hT : mT M2 = mT M) (hn : M2.1 = M.1) (hz : M2.2.1 = M.2.1) (ho : ∀ y i : Int, y ≠ 51 → rd M2 y i = rd M y i) (hv : ∀ i : Int, -2147483648 ≤ rd M2 51 i ∧ rd M2 51 i ≤ 2147483647) (hq : q M2) : St q ws as M0 M2 := St.wa 41 h (by decide) hm rfl (by decide +kernel) (by decide +kernel) (by decide +kernel) hT hn hz ho hv hq
theorem sa_51 {q : Mem → Prop} {ws : List (Int × Int)} {as : List Int} {M0 M : Mem} {i v : Int} (h : St q ws as M0 M) (hm : (51 : Int) ∈ as) (hv : -2147483648 ≤ v ∧ v ≤ 2147483647) (hq : q (wr M 51 i v)) : St q ws as M0 (wr M 51 i v) := sw_51 h hm rfl rfl rfl (fun y j hy => rd_wn M (fun c => hy c.1)) (fun j => by rw [rd_wr]; split; exact hv; exact ar_51 h.1.2.1 j) hq
theorem sf_51 {q : Mem → Prop} {ws : List (Int × Int)} {as : List Int} {M0 M : Mem} {v : Int} (N : Nat) (h : St q ws as M0 M) (hm : (51 : Int) ∈ as) (hv : -2147483648 ≤ v ∧ v ≤ 2147483647) (hq : q (fil M 51 N v)) : St q ws as M0 (fil M 51 N v) := sw_51 (M := M) h hm rfl rfl rfl (fun y j hy => by rw [rd_fil, if_neg (fun c => hy c.1)]) (fun j => by rw [rd_fil]; split; exact hv; exact ar_51 h.1.2.1 j) hq
theorem ar_52 {M : Mem} (h : Iv M) (j : Int) : -2147483648 ≤ rd M 52 j ∧ rd M 52 j ≤ 2147483647 := h.2 (52, -2147483648, 2147483647) (List.mem_of_getElem? (i := 42) rfl) j
theorem sw_52 {q : Mem → Prop} {ws : List (Int × Int)} {as : List Int} {M0 M : Mem} {M2 : Mem} (h : St q ws as M0 M) (hm : (52 : Int) ∈ as) (hT : mT M2 = mT M) (hn : M2.1 = M.1) (hz : M2.2.1 = M.2.1) (ho : ∀ y i : Int, y ≠ 52 → rd M2 y i = rd M y i) (hv : ∀ i : Int, -2147483648 ≤ rd M2 52 i ∧ rd M2 52 i ≤ 2147483647) (hq : q M2) : St q ws as M0 M2 := St.wa 42 h (by decide) hm rfl (by decide +kernel) (by decide +kernel) (by decide +kernel) hT hn hz ho hv hq
theorem sa_52 {q : Mem → Prop} {ws : List (Int × Int)} {as : List Int} {M0 M : Mem} {i v : Int} (h : St q ws as M0 M) (hm : (52 : Int) ∈ as) (hv : -2147483648 ≤ v ∧ v ≤ 2147483647) (hq : q (wr M 52 i v)) : St q ws as M0 (wr M 52 i v) := sw_52 h hm rfl rfl rfl (fun y j hy => rd_wn M (fun c => hy c.1)) (fun j => by rw [rd_wr]; split; exact hv; exact ar_52 h.1.2.1 j) hq
theorem sf_52 {q : Mem → Prop} {ws : List (Int × Int)} {as : List Int} {M0 M : Mem} {v : Int} (N : Nat) (h : St q ws as M0 M) (hm : (52 : Int) ∈ as) (hv : -2147483648 ≤ v ∧ v ≤ 2147483647) (hq : q (fil M 52 N v)) : St q ws as M0 (fil M 52 N v) := sw_52 (M := M) h hm rfl rfl rfl (fun y j hy => by rw [rd_fil, if_neg (fun c => hy c.1)]) (fun j => by rw [rd_fil]; split; exact hv; exact ar_52 h.1.2.1 j) hq
theorem ar_53 {M : Mem} (h : Iv M) (j : Int) : 0 ≤ rd M 53 j ∧ rd M 53 j ≤ 1 := h.2 (53, 0, 1) (List.mem_of_getElem? (i := 43) rfl) j
theorem sw_53 {q : Mem → Prop} {ws : List (Int × Int)} {as : List Int} {M0 M : Mem} {M2 : Mem} (h : St q ws as M0 M) (hm : (53 : Int) ∈ as) (hT : mT M2 = mT M) (hn : M2.1 = M.1) (hz : M2.2.1 = M.2.1) (ho : ∀ y i : Int, y ≠ 53 → rd M2 y i = rd M y i) (hv : ∀ i : Int, 0 ≤ rd M2 53 i ∧ rd M2 53 i ≤ 1) (hq : q M2) : St q ws as M0 M2 := St.wa 43 h (by decide) hm rfl (by decide +kernel) (by decide +kernel) (by decide +kernel) hT hn hz ho hv hq
theorem sa_53 {q : Mem → Prop} {ws : List (Int × Int)} {as : List Int} {M0 M : Mem} {i v : Int} (h : St q ws as M0 M) (hm : (53 : Int) ∈ as) (hv : 0 ≤ v ∧ v ≤ 1) (hq : q (wr M 53 i v)) : St q ws as M0 (wr M 53 i v) := sw_53 h hm rfl rfl rfl (fun y j hy => rd_wn M (fun c => hy c.1)) (fun j => by rw [rd_wr]; split; exact hv; exact ar_53 h.1.2.1 j) hq
theorem sf_53 {q : Mem → Prop} {ws : List (Int × Int)} {as : List Int} {M0 M : Mem} {v : Int} (N : Nat) (h : St q ws as M0 M) (hm : (53 : Int) ∈ as) (hv : 0 ≤ v ∧ v ≤ 1) (hq : q (fil M 53 N v)) : St q ws as M0 (fil M 53 N v) := sw_53 (M := M) h hm rfl rfl rfl (fun y j hy => by rw [rd_fil, if_neg (fun c => hy c.1)]) (fun j => by rw [rd_fil]; split; exact hv; exact ar_53 h.1.2.1 j) hq
theorem ar_54 {M : Mem} (h : Iv M) (j : Int) : -2147483648 ≤ rd M 54 j ∧ rd M 54 j ≤ 2147483647 := h.2 (54, -2147483648, 2147483647) (List.mem_of_getElem? (i := 44) rfl) j
theorem sw_54 {q : Mem → Prop} {ws : List (Int × Int)} {as : List Int} {M0 M : Mem} {M2 : Mem} (h : St q ws as M0 M) (hm : (54 : Int) ∈ as) (hT : mT M2 = mT M) (hn : M2.1 = M.1) (hz : M2.2.1 = M.2.1) (ho : ∀ y i : Int, y ≠ 54 → rd M2 y i = rd M y i) (hv : ∀ i : Int, -2147483648 ≤ rd M2 54 i ∧ rd M2 54 i ≤ 2147483647) (hq : q M2) : St q ws as M0 M2 := St.wa 44 h (by decide) hm rfl (by decide +kernel) (by decide +kernel) (by decide +kernel) hT hn hz ho hv hq
theorem sa_54 {q : Mem → Prop} {ws : List (Int × Int)} {as : List Int} {M0 M : Mem} {i v : Int} (h : St q ws as M0 M) (hm : (54 : Int) ∈ as) (hv : -2147483648 ≤ v ∧ v ≤ 2147483647) (hq : q (wr M 54 i v)) : St q ws as M0 (wr M 54 i v) := sw_54 h hm rfl rfl rfl (fun y j hy => rd_wn M (fun c => hy c.1)) (fun j => by rw [rd_wr]; split; exact hv; exact ar_54 h.1.2.1 j) hq
theorem sf_54 {q : Mem → Prop} {ws : List (Int × Int)} {as : List Int} {M0 M : Mem} {v : Int} (N : Nat) (h : St q ws as M0 M) (hm : (54 : Int) ∈ as) (hv : -2147483648 ≤ v ∧ v ≤ 2147483647) (hq : q (fil M 54 N v)) : St q ws as M0 (fil M 54 N v) := sw_54 (M := M) h hm rfl rfl rfl (fun y j hy => by rw [rd_fil, if_neg (fun c => hy c.1)]) (fun j => by rw [rd_fil]; split; exact hv; exact ar_54 h.1.2.1 j) hq
theorem ar_55 {M : Mem} (h : Iv M) (j : Int) : -2147483648 ≤ rd M 55 j ∧ rd M 55 j ≤ 2147483647 := h.2 (55, -2147483648, 2147483647) (List.mem_of_getElem? (i := 45) rfl) j
theorem sw_55 {q : Mem → Prop} {ws : List (Int × Int)} {as : List Int} {M0 M : Mem} {M2 : Mem} (h : St q ws as M0 M) (hm : (55 : Int) ∈ as) (hT : mT M2 = mT M) (hn : M2.1 = M.1) (hz : M2.2.1 = M.2.1) (ho : ∀ y i : Int, y ≠ 55 → rd M2 y i = rd M y i) (hv : ∀ i : Int, -2147483648 ≤ rd M2 55 i ∧ rd M2 55 i ≤ 2147483647) (hq : q M2) : St q ws as M0 M2 := St.wa 45 h (by decide) hm rfl (by decide +kernel) (by decide +kernel) (by decide +kernel) hT hn hz ho hv hq
theorem sa_55 {q : Mem → Prop} {ws : List (Int × Int)} {as : List Int} {M0 M : Mem} {i v : Int} (h : St q ws as M0 M) (hm : (55 : Int) ∈ as) (hv : -2147483648 ≤ v ∧ v ≤ 2147483647) (hq : q (wr M 55 i v)) : St q ws as M0 (wr M 55 i v) := sw_55 h hm rfl rfl rfl (fun y j hy => rd_wn M (fun c => hy c.1)) (fun j => by rw [rd_wr]; split; exact hv; exact ar_55 h.1.2.1 j) hq
theorem sf_55 {q : Mem → Prop} {ws : List (Int × Int)} {as : List Int} {M0 M : Mem} {v : Int} (N : Nat) (h : St q ws as M0 M) (hm : (55 : Int) ∈ as) (hv : -2147483648 ≤ v ∧ v ≤ 2147483647) (hq : q (fil M 55 N v)) : St q ws as M0 (fil M 55 N v) := sw_55 (M := M) h hm rfl rfl rfl (fun y j hy => by rw [rd_fil, if_neg (fun c => hy c.1)]) (fun j => by rw [rd_fil]; split; exact hv; exact ar_55 h.1.2.1 j) hq
theorem ar_57 {M : Mem} (h : Iv M) (j : Int) : -2147483648 ≤ rd M 57 j ∧ rd M 57 j ≤ 2147483647 := h.2 (57, -2147483648, 2147483647) (List.mem_of_getElem? (i := 46) rfl) j
theorem sw_57 {q : Mem → Prop} {ws : List (Int × Int)} {as : List Int} {M0 M : Mem} {M2 : Mem} (h : St q ws as M0 M) (hm : (57 : Int) ∈ as) (hT : mT M2 = mT M) (hn : M2.1 = M.1) (hz : M2.2.1 = M.2.1) (ho : ∀ y i : Int, y ≠ 57 → rd M2 y i = rd M y i) (hv : ∀ i : Int, -2147483648 ≤ rd M2 57 i ∧ rd M2 57 i ≤ 2147483647) (hq : q M2) : St q ws as M0 M2 := St.wa 46 h (by decide) hm rfl (by decide +kernel) (by decide +kernel) (by decide +kernel) hT hn hz ho hv hq
theorem sa_57 {q : Mem → Prop} {ws : List (Int × Int)} {as : List Int} {M0 M : Mem} {i v : Int} (h : St q ws as M0 M) (hm : (57 : Int) ∈ as) (hv : -2147483648 ≤ v ∧ v ≤ 2147483647) (hq : q (wr M 57 i v)) : St q ws as M0 (wr M 57 i v) := sw_57 h hm rfl rfl rfl (fun y j hy => rd_wn M (fun c => hy c.1)) (fun j => by rw [rd_wr]; split; exact hv; exact ar_57 h.1.2.1 j) hq
theorem sf_57 {q : Mem → Prop} {ws : List (Int × Int)} {as : List Int} {M0 M : Mem} {v : Int} (N : Nat) (h : St q ws as M0 M) (hm : (57 : Int) ∈ as) (hv : -2147483648 ≤ v ∧ v ≤ 2147483647) (hq : q (fil M 57 N v)) : St q ws as M0 (fil M 57 N v) := sw_57 (M := M) h hm rfl rfl rfl (fun y j hy => by rw [rd_fil, if_neg (fun c => hy c.1)]) (fun j => by rw [rd_fil]; split; exact hv; exact ar_57 h.1.2.1 j) hq
theorem ar_58 {M : Mem} (h : Iv M) (j : Int) : -1 ≤ rd M 58 j ∧ rd M 58 j ≤ 59 := h.2 (58, -1, 59) (List.mem_of_getElem? (i := 47) rfl) j
theorem sw_58 {q : Mem → Prop} {ws : List (Int × Int)} {as : List Int} {M0 M : Mem} {M2 : Mem} (h : St q ws as M0 M) (hm : (58 : Int) ∈ as) (hT : mT M2 = mT M) (hn : M2.1 = M.1) (hz : M2.2.1 = M.2.1) (ho : ∀ y i : Int, y ≠ 58 → rd M2 y i = rd M y i) (hv : ∀ i : Int, -1 ≤ rd M2 58 i ∧ rd M2 58 i ≤ 59) (hq : q M2) : St q ws as M0 M2 := St.wa 47 h (by decide) hm rfl (by decide +kernel) (by decide +kernel) (by decide +kernel) hT hn hz ho hv hq
theorem sa_58 {q : Mem → Prop} {ws : List (Int × Int)} {as : List Int} {M0 M : Mem} {i v : Int} (h : St q ws as M0 M) (hm : (58 : Int) ∈ as) (hv : -1 ≤ v ∧ v ≤ 59) (hq : q (wr M 58 i v)) : St q ws as M0 (wr M 58 i v) := sw_58 h hm rfl rfl rfl (fun y j hy => rd_wn M (fun c => hy c.1)) (fun j => by rw [rd_wr]; split; exact hv; exact ar_58 h.1.2.1 j) hq
theorem sf_58 {q : Mem → Prop} {ws : List (Int × Int)} {as : List Int} {M0 M : Mem} {v : Int} (N : Nat) (h : St q ws as M0 M) (hm : (58 : Int) ∈ as) (hv : -1 ≤ v ∧ v ≤ 59) (hq : q (fil M 58 N v)) : St q ws as M0 (fil M 58 N v) := sw_58 (M := M) h hm rfl rfl rfl (fun y j hy => by rw [rd_fil, if_neg (fun c => hy c.1)]) (fun j => by rw [rd_fil]; split; exact hv; exact ar_58 h.1.2.1 j) hq
theorem ar_59 {M : Mem} (h : Iv M) (j : Int) : -2147483648 ≤ rd M 59 j ∧ rd M 59 j ≤ 2147483647 := h.2 (59, -2147483648, 2147483647) (List.mem_of_getElem? (i := 48) rfl) j
theorem sw_59 {q : Mem → Prop} {ws : List (Int × Int)} {as : List Int} {M0 M : Mem} {M2 : Mem} (h : St q ws as M0 M) (hm : (59 : Int) ∈ as) (hT : mT M2 = mT M) (hn : M2.1 = M.1) (hz : M2.2.1 = M.2.1) (ho : ∀ y i : Int, y ≠ 59 → rd M2 y i = rd M y i) (hv : ∀ i : Int, -2147483648 ≤ rd M2 59 i ∧ rd M2 59 i ≤ 2147483647) (hq : q M2) : St q ws as M0 M2 := St.wa 48 h (by decide) hm rfl (by decide +kernel) (by decide +kernel) (by decide +kernel) hT hn hz ho hv hq
theorem sa_59 {q : Mem → Prop} {ws : List (Int × Int)} {as : List Int} {M0 M : Mem} {i v : Int} (h : St q ws as M0 M) (hm : (59 : Int) ∈ as) (hv : -2147483648 ≤ v ∧ v ≤ 2147483647) (hq : q (wr M 59 i v)) : St q ws as M0 (wr M 59 i v) := sw_59 h hm rfl rfl rfl (fun y j hy => rd_wn M (fun c => hy c.1)) (fun j => by rw [rd_wr]; split; exact hv; exact ar_59 h.1.2.1 j) hq
theorem sf_59 {q : Mem → Prop} {ws : List (Int × Int)} {as : List Int} {M0 M : Mem} {v : Int} (N : Nat) (h : St q ws as M0 M) (hm : (59 : Int) ∈ as) (hv : -2147483648 ≤ v ∧ v ≤ 2147483647) (hq : q (fil M 59 N v)) : St q ws as M0 (fil M 59 N v) := sw_59 (M := M) h hm rfl rfl rfl (fun y j hy => by rw [rd_fil, if_neg (fun c => hy c.1)]) (fun j => by rw [rd_fil]; split; exact hv; exact ar_59 h.1.2.1 j) hq
theorem ar_60 {M : Mem} (h : Iv M) (j : Int) : -2147483648 ≤ rd M 60 j ∧ rd M 60 j ≤ 2147483647 := h.2 (60, -2147483648, 2147483647) (List.mem_of_getElem? (i := 49) rfl) j
theorem sw_60 {q : Mem → Prop} {ws : List (Int × Int)} {as : List Int} {M0 M : Mem} {M2 : Mem} (h : St q ws as M0 M) (hm : (60 : Int) ∈ as) (hT : mT M2 = mT M) (hn : M2.1 = M.1) (hz : M2.2.1 = M.2.1) (ho : ∀ y i : Int, y ≠ 60 → rd M2 y i = rd M y i) (hv : ∀ i : Int, -2147483648 ≤ rd M2 60 i ∧ rd M2 60 i ≤ 2147483647) (hq : q M2) : St q ws as M0 M2 := St.wa 49 h (by decide) hm rfl (by decide +kernel) (by decide +kernel) (by decide +kernel) hT hn hz ho hv hq
theorem sa_60 {q : Mem → Prop} {ws : List (Int × Int)} {as : List Int} {M0 M : Mem} {i v : Int} (h : St q ws as M0 M) (hm : (60 : Int) ∈ as) (hv : -2147483648 ≤ v ∧ v ≤ 2147483647) (hq : q (wr M 60 i v)) : St q ws as M0 (wr M 60 i v) := sw_60 h hm rfl rfl rfl (fun y j hy => rd_wn M (fun c => hy c.1)) (fun j => by rw [rd_wr]; split; exact hv; exact ar_60 h.1.2.1 j) hq
theorem sf_60 {q : Mem → Prop} {ws : List (Int × Int)} {as : List Int} {M0 M : Mem} {v : Int} (N : Nat) (h : St q ws as M0 M) (hm : (60 : Int) ∈ as) (hv : -2147483648 ≤ v ∧ v ≤ 2147483647) (hq : q (fil M 60 N v)) : St q ws as M0 (fil M 60 N v) := sw_60 (M := M) h hm rfl rfl rfl (fun y j hy => by rw [rd_fil, if_neg (fun c => hy c.1)]) (fun j => by rw [rd_fil]; split; exact hv; exact ar_60 h.1.2.1 j) hq
theorem ar_61 {M : Mem} (h : Iv M) (j : Int) : -2147483648 ≤ rd M 61 j ∧ rd M 61 j ≤ 2147483647 := h.2 (61, -2147483648, 2147483647) (List.mem_of_getElem? (i := 50) rfl) j
theorem sw_61 {q : Mem → Prop} {ws : List (Int × Int)} {as : List Int} {M0 M : Mem} {M2 : Mem} (h : St q ws as M0 M) (hm : (61 : Int) ∈ as) (hT : mT M2 = mT M) (hn : M2.1 = M.1) (hz : M2.2.1 = M.2.1) (ho : ∀ y i : Int, y ≠ 61 → rd M2 y i = rd M y i) (hv : ∀ i : Int, -2147483648 ≤ rd M2 61 i ∧ rd M2 61 i ≤ 2147483647) (hq : q M2) : St q ws as M0 M2 := St.wa 50 h (by decide) hm rfl (by decide +kernel) (by decide +kernel) (by decide +kernel) hT hn hz ho hv hq
theorem sa_61 {q : Mem → Prop} {ws : List (Int × Int)} {as : List Int} {M0 M : Mem} {i v : Int} (h : St q ws as M0 M) (hm : (61 : Int) ∈ as) (hv : -2147483648 ≤ v ∧ v ≤ 2147483647) (hq : q (wr M 61 i v)) : St q ws as M0 (wr M 61 i v) := sw_61 h hm rfl rfl rfl (fun y j hy => rd_wn M (fun c => hy c.1)) (fun j => by rw [rd_wr]; split; exact hv; exact ar_61 h.1.2.1 j) hq
theorem sf_61 {q : Mem → Prop} {ws : List (Int × Int)} {as : List Int} {M0 M : Mem} {v : Int} (N : Nat) (h : St q ws as M0 M) (hm : (61 : Int) ∈ as) (hv : -2147483648 ≤ v ∧ v ≤ 2147483647) (hq : q (fil M 61 N v)) : St q ws as M0 (fil M 61 N v) := sw_61 (M := M) h hm rfl rfl rfl (fun y j hy => by rw [rd_fil, if_neg (fun c => hy c.1)]) (fun j => by rw [rd_fil]; split; exact hv; exact ar_61 h.1.2.1 j) hq
theorem ar_62 {M : Mem} (h : Iv M) (j : Int) : -2147483648 ≤ rd M 62 j ∧ rd M 62 j ≤ 2147483647 := h.2 (62, -2147483648, 2147483647) (List.mem_of_getElem? (i := 51) rfl) j
theorem sw_62 {q : Mem → Prop} {ws : List (Int × Int)} {as : List Int} {M0 M : Mem} {M2 : Mem} (h : St q ws as M0 M) (hm : (62 : Int) ∈ as) (hT : mT M2 = mT M) (hn : M2.1 = M.1) (hz : M2.2.1 = M.2.1) (ho : ∀ y i : Int, y ≠ 62 → rd M2 y i = rd M y i) (hv : ∀ i : Int, -2147483648 ≤ rd M2 62 i ∧ rd M2 62 i ≤ 2147483647) (hq : q M2) : St q ws as M0 M2 := St.wa 51 h (by decide) hm rfl (by decide +kernel) (by decide +kernel) (by decide +kernel) hT hn hz ho hv hq
theorem sa_62 {q : Mem → Prop} {ws : List (Int × Int)} {as : List Int} {M0 M : Mem} {i v : Int} (h : St q ws as M0 M) (hm : (62 : Int) ∈ as) (hv : -2147483648 ≤ v ∧ v ≤ 2147483647) (hq : q (wr M 62 i v)) : St q ws as M0 (wr M 62 i v) := sw_62 h hm rfl rfl rfl (fun y j hy => rd_wn M (fun c => hy c.1)) (fun j => by rw [rd_wr]; split; exact hv; exact ar_62 h.1.2.1 j) hq
theorem sf_62 {q : Mem → Prop} {ws : List (Int × Int)} {as : List Int} {M0 M : Mem} {v : Int} (N : Nat) (h : St q ws as M0 M) (hm : (62 : Int) ∈ as) (hv : -2147483648 ≤ v ∧ v ≤ 2147483647) (hq : q (fil M 62 N v)) : St q ws as M0 (fil M 62 N v) := sw_62 (M := M) h hm rfl rfl rfl (fun y j hy => by rw [rd_fil, if_neg (fun c => hy c.1)]) (fun j => by rw [rd_fil]; split; exact hv; exact ar_62 h.1.2.1 j) hq
theorem ar_69 {M : Mem} (h : Iv M) (j : Int) : -2147483648 ≤ rd M 69 j ∧ rd M 69 j ≤ 2147483647 := h.2 (69, -2147483648, 2147483647) (List.mem_of_getElem? (i := 52) rfl) j
theorem sw_69 {q : Mem → Prop} {ws : List (Int × Int)} {as : List Int} {M0 M : Mem} {M2 : Mem} (h : St q ws as M0 M) (hm : (69 : Int) ∈ as) (hT : mT M2 = mT M) (hn : M2.1 = M.1) (hz : M2.2.1 = M.2.1) (ho : ∀ y i : Int, y ≠ 69 → rd M2 y i = rd M y i) (hv : ∀ i : Int, -2147483648 ≤ rd M2 69 i ∧ rd M2 69 i ≤ 2147483647) (hq : q M2) : St q ws as M0 M2 := St.wa 52 h (by decide) hm rfl (by decide +kernel) (by decide +kernel) (by decide +kernel) hT hn hz ho hv hq
theorem sa_69 {q : Mem → Prop} {ws : List (Int × Int)} {as : List Int} {M0 M : Mem} {i v : Int} (h : St q ws as M0 M) (hm : (69 : Int) ∈ as) (hv : -2147483648 ≤ v ∧ v ≤ 2147483647) (hq : q (wr M 69 i v)) : St q ws as M0 (wr M 69 i v) := sw_69 h hm rfl rfl rfl (fun y j hy => rd_wn M (fun c => hy c.1)) (fun j => by rw [rd_wr]; split; exact hv; exact ar_69 h.1.2.1 j) hq
theorem sf_69 {q : Mem → Prop} {ws : List (Int × Int)} {as : List Int} {M0 M : Mem} {v : Int} (N : Nat) (h : St q ws as M0 M) (hm : (69 : Int) ∈ as) (hv : -2147483648 ≤ v ∧ v ≤ 2147483647) (hq : q (fil M 69 N v)) : St q ws as M0 (fil M 69 N v) := sw_69 (M := M) h hm rfl rfl rfl (fun y j hy => by rw [rd_fil, if_neg (fun c => hy c.1)]) (fun j => by rw [rd_fil]; split; exact hv; exact ar_69 h.1.2.1 j) hq
theorem ar_75 {M : Mem} (h : Iv M) (j : Int) : -2147483648 ≤ rd M 75 j ∧ rd M 75 j ≤ 2147483647 := h.2 (75, -2147483648, 2147483647) (List.mem_of_getElem? (i := 53) rfl) j
theorem sw_75 {q : Mem → Prop} {ws : List (Int × Int)} {as : List Int} {M0 M : Mem} {M2 : Mem} (h : St q ws as M0 M) (hm : (75 : Int) ∈ as) (hT : mT M2 = mT M) (hn : M2.1 = M.1) (hz : M2.2.1 = M.2.1) (ho : ∀ y i : Int, y ≠ 75 → rd M2 y i = rd M y i) (hv : ∀ i : Int, -2147483648 ≤ rd M2 75 i ∧ rd M2 75 i ≤ 2147483647) (hq : q M2) : St q ws as M0 M2 := St.wa 53 h (by decide) hm rfl (by decide +kernel) (by decide +kernel) (by decide +kernel) hT hn hz ho hv hq
theorem sa_75 {q : Mem → Prop} {ws : List (Int × Int)} {as : List Int} {M0 M : Mem} {i v : Int} (h : St q ws as M0 M) (hm : (75 : Int) ∈ as) (hv : -2147483648 ≤ v ∧ v ≤ 2147483647) (hq : q (wr M 75 i v)) : St q ws as M0 (wr M 75 i v) := sw_75 h hm rfl rfl rfl (fun y j hy => rd_wn M (fun c => hy c.1)) (fun j => by rw [rd_wr]; split; exact hv; exact ar_75 h.1.2.1 j) hq
theorem sf_75 {q : Mem → Prop} {ws : List (Int × Int)} {as : List Int} {M0 M : Mem} {v : Int} (N : Nat) (h : St q ws as M0 M) (hm : (75 : Int) ∈ as) (hv : -2147483648 ≤ v ∧ v ≤ 2147483647) (hq : q (fil M 75 N v)) : St q ws as M0 (fil M 75 N v) := sw_75 (M := M) h hm rfl rfl rfl (fun y j hy => by rw [rd_fil, if_neg (fun c => hy c.1)]) (fun j => by rw [rd_fil]; split; exact hv; exact ar_75 h.1.2.1 j) hq
theorem ar_76 {M : Mem} (h : Iv M) (j : Int) : -2147483648 ≤ rd M 76 j ∧ rd M 76 j ≤ 2147483647 := h.2 (76, -2147483648, 2147483647) (List.mem_of_getElem? (i := 54) rfl) j
theorem sw_76 {q : Mem → Prop} {ws : List (Int × Int)} {as : List Int} {M0 M : Mem} {M2 : Mem} (h : St q ws as M0 M) (hm : (76 : Int) ∈ as) (hT : mT M2 = mT M) (hn : M2.1 = M.1) (hz : M2.2.1 = M.2.1) (ho : ∀ y i : Int, y ≠ 76 → rd M2 y i = rd M y i) (hv : ∀ i : Int, -2147483648 ≤ rd M2 76 i ∧ rd M2 76 i ≤ 2147483647) (hq : q M2) : St q ws as M0 M2 := St.wa 54 h (by decide) hm rfl (by decide +kernel) (by decide +kernel) (by decide +kernel) hT hn hz ho hv hq
theorem sa_76 {q : Mem → Prop} {ws : List (Int × Int)} {as : List Int} {M0 M : Mem} {i v : Int} (h : St q ws as M0 M) (hm : (76 : Int) ∈ as) (hv : -2147483648 ≤ v ∧ v ≤ 2147483647) (hq : q (wr M 76 i v)) : St q ws as M0 (wr M 76 i v) := sw_76 h hm rfl rfl rfl (fun y j hy => rd_wn M (fun c => hy c.1)) (fun j => by rw [rd_wr]; split; exact hv; exact ar_76 h.1.2.1 j) hq
theorem sf_76 {q : Mem → Prop} {ws : List (Int × Int)} {as : List Int} {M0 M : Mem} {v : Int} (N : Nat) (h : St q ws as M0 M) (hm : (76 : Int) ∈ as) (hv : -2147483648 ≤ v ∧ v ≤ 2147483647) (hq : q (fil M 76 N v)) : St q ws as M0 (fil M 76 N v) := sw_76 (M := M) h hm rfl rfl rfl (fun y j hy => by rw [rd_fil, if_neg (fun c => hy c.1)]) (fun j => by rw [rd_fil]; split; exact hv; exact ar_76 h.1.2.1 j) hq
theorem ar_77 {M : Mem} (h : Iv M) (j : Int) : -2147483648 ≤ rd M 77 j ∧ rd M 77 j ≤ 2147483647 := h.2 (77, -2147483648, 2147483647) (List.mem_of_getElem? (i := 55) rfl) j
theorem sw_77 {q : Mem → Prop} {ws : List (Int × Int)} {as : List Int} {M0 M : Mem} {M2 : Mem} (h : St q ws as M0 M) (hm : (77 : Int) ∈ as) (hT : mT M2 = mT M) (hn : M2.1 = M.1) (hz : M2.2.1 = M.2.1) (ho : ∀ y i : Int, y ≠ 77 → rd M2 y i = rd M y i) (hv : ∀ i : Int, -2147483648 ≤ rd M2 77 i ∧ rd M2 77 i ≤ 2147483647) (hq : q M2) : St q ws as M0 M2 := St.wa 55 h (by decide) hm rfl (by decide +kernel) (by decide +kernel) (by decide +kernel) hT hn hz ho hv hq
theorem sa_77 {q : Mem → Prop} {ws : List (Int × Int)} {as : List Int} {M0 M : Mem} {i v : Int} (h : St q ws as M0 M) (hm : (77 : Int) ∈ as) (hv : -2147483648 ≤ v ∧ v ≤ 2147483647) (hq : q (wr M 77 i v)) : St q ws as M0 (wr M 77 i v) := sw_77 h hm rfl rfl rfl (fun y j hy => rd_wn M (fun c => hy c.1)) (fun j => by rw [rd_wr]; split; exact hv; exact ar_77 h.1.2.1 j) hq
theorem sf_77 {q : Mem → Prop} {ws : List (Int × Int)} {as : List Int} {M0 M : Mem} {v : Int} (N : Nat) (h : St q ws as M0 M) (hm : (77 : Int) ∈ as) (hv : -2147483648 ≤ v ∧ v ≤ 2147483647) (hq : q (fil M 77 N v)) : St q ws as M0 (fil M 77 N v) := sw_77 (M := M) h hm rfl rfl rfl (fun y j hy => by rw [rd_fil, if_neg (fun c => hy c.1)]) (fun j => by rw [rd_fil]; split; exact hv; exact ar_77 h.1.2.1 j) hq
theorem ar_78 {M : Mem} (h : Iv M) (j : Int) : -2147483648 ≤ rd M 78 j ∧ rd M 78 j ≤ 2147483647 := h.2 (78, -2147483648, 2147483647) (List.mem_of_getElem? (i := 56) rfl) j
theorem sw_78 {q : Mem → Prop} {ws : List (Int × Int)} {as : List Int} {M0 M : Mem} {M2 : Mem} (h : St q ws as M0 M) (hm : (78 : Int) ∈ as) (hT : mT M2 = mT M) (hn : M2.1 = M.1) (hz : M2.2.1 = M.2.1) (ho : ∀ y i : Int, y ≠ 78 → rd M2 y i = rd M y i) (hv : ∀ i : Int, -2147483648 ≤ rd M2 78 i ∧ rd M2 78 i ≤ 2147483647) (hq : q M2) : St q ws as M0 M2 := St.wa 56 h (by decide) hm rfl (by decide +kernel) (by decide +kernel) (by decide +kernel) hT hn hz ho hv hq
theorem sa_78 {q : Mem → Prop} {ws : List (Int × Int)} {as : List Int} {M0 M : Mem} {i v : Int} (h : St q ws as M0 M) (hm : (78 : Int) ∈ as) (hv : -2147483648 ≤ v ∧ v ≤ 2147483647) (hq : q (wr M 78 i v)) : St q ws as M0 (wr M 78 i v) := sw_78 h hm rfl rfl rfl (fun y j hy => rd_wn M (fun c => hy c.1)) (fun j => by rw [rd_wr]; split; exact hv; exact ar_78 h.1.2.1 j) hq
theorem sf_78 {q : Mem → Prop} {ws : List (Int × Int)} {as : List Int} {M0 M : Mem} {v : Int} (N : Nat) (h : St q ws as M0 M) (hm : (78 : Int) ∈ as) (hv : -2147483648 ≤ v ∧ v ≤ 2147483647) (hq : q (fil M 78 N v)) : St q ws as M0 (fil M 78 N v) := sw_78 (M := M) h hm rfl rfl rfl (fun y j hy => by rw [rd_fil, if_neg (fun c => hy c.1)]) (fun j => by rw [rd_fil]; split; exact hv; exact ar_78 h.1.2.1 j) hq
theorem ar_79 {M : Mem} (h : Iv M) (j : Int) : 0 ≤ rd M 79 j ∧ rd M 79 j ≤ 1 := h.2 (79, 0, 1) (List.mem_of_getElem? (i := 57) rfl) j
theorem sw_79 {q : Mem → Prop} {ws : List (Int × Int)} {as : List Int} {M0 M : Mem} {M2 : Mem} (h : St q ws as M0 M) (hm : (79 : Int) ∈ as) (hT : mT M2 = mT M) (hn : M2.1 = M.1) (hz : M2.2.1 = M.2.1) (ho : ∀ y i : Int, y ≠ 79 → rd M2 y i = rd M y i) (hv : ∀ i : Int, 0 ≤ rd M2 79 i ∧ rd M2 79 i ≤ 1) (hq : q M2) : St q ws as M0 M2 := St.wa 57 h (by decide) hm rfl (by decide +kernel) (by decide +kernel) (by decide +kernel) hT hn hz ho hv hq
theorem sa_79 {q : Mem → Prop} {ws : List (Int × Int)} {as : List Int} {M0 M : Mem} {i v : Int} (h : St q ws as M0 M) (hm : (79 : Int) ∈ as) (hv : 0 ≤ v ∧ v ≤ 1) (hq : q (wr M 79 i v)) : St q ws as M0 (wr M 79 i v) := sw_79 h hm rfl rfl rfl (fun y j hy => rd_wn M (fun c => hy c.1)) (fun j => by rw [rd_wr]; split; exact hv; exact ar_79 h.1.2.1 j) hq
theorem sf_79 {q : Mem → Prop} {ws : List (Int × Int)} {as : List Int} {M0 M : Mem} {v : Int} (N : Nat) (h : St q ws as M0 M) (hm : (79 : Int) ∈ as) (hv : 0 ≤ v ∧ v ≤ 1) (hq : q (fil M 79 N v)) : St q ws as M0 (fil M 79 N v) := sw_79 (M := M) h hm rfl rfl rfl (fun y j hy => by rw [rd_fil, if_neg (fun c => hy c.1)]) (fun j => by rw [rd_fil]; split; exact hv; exact ar_79 h.1.2.1 j) hq
theorem ar_80 {M : Mem} (h : Iv M) (j : Int) : -2147483648 ≤ rd M 80 j ∧ rd M 80 j ≤ 2147483647 := h.2 (80, -2147483648, 2147483647) (List.mem_of_getElem? (i := 58) rfl) j
theorem sw_80 {q : Mem → Prop} {ws : List (Int × Int)} {as : List Int} {M0 M : Mem} {M2 : Mem} (h : St q ws as M0 M) (hm : (80 : Int) ∈ as) (hT : mT M2 = mT M) (hn : M2.1 = M.1) (hz : M2.2.1 = M.2.1) (ho : ∀ y i : Int, y ≠ 80 → rd M2 y i = rd M y i) (hv : ∀ i : Int, -2147483648 ≤ rd M2 80 i ∧ rd M2 80 i ≤ 2147483647) (hq : q M2) : St q ws as M0 M2 := St.wa 58 h (by decide) hm rfl (by decide +kernel) (by decide +kernel) (by decide +kernel) hT hn hz ho hv hq
theorem sa_80 {q : Mem → Prop} {ws : List (Int × Int)} {as : List Int} {M0 M : Mem} {i v : Int} (h : St q ws as M0 M) (hm : (80 : Int) ∈ as) (hv : -2147483648 ≤ v ∧ v ≤ 2147483647) (hq : q (wr M 80 i v)) : St q ws as M0 (wr M 80 i v) := sw_80 h hm rfl rfl rfl (fun y j hy => rd_wn M (fun c => hy c.1)) (fun j => by rw [rd_wr]; split; exact hv; exact ar_80 h.1.2.1 j) hq
theorem sf_80 {q : Mem → Prop} {ws : List (Int × Int)} {as : List Int} {M0 M : Mem} {v : Int} (N : Nat) (h : St q ws as M0 M) (hm : (80 : Int) ∈ as) (hv : -2147483648 ≤ v ∧ v ≤ 2147483647) (hq : q (fil M 80 N v)) : St q ws as M0 (fil M 80 N v) := sw_80 (M := M) h hm rfl rfl rfl (fun y j hy => by rw [rd_fil, if_neg (fun c => hy c.1)]) (fun j => by rw [rd_fil]; split; exact hv; exact ar_80 h.1.2.1 j) hq
theorem ar_81 {M : Mem} (h : Iv M) (j : Int) : -2147483648 ≤ rd M 81 j ∧ rd M 81 j ≤ 2147483647 := h.2 (81, -2147483648, 2147483647) (List.mem_of_getElem? (i := 59) rfl) j
theorem sw_81 {q : Mem → Prop} {ws : List (Int × Int)} {as : List Int} {M0 M : Mem} {M2 : Mem} (h : St q ws as M0 M) (hm : (81 : Int) ∈ as) (hT : mT M2 = mT M) (hn : M2.1 = M.1) (hz : M2.2.1 = M.2.1) (ho : ∀ y i : Int, y ≠ 81 → rd M2 y i = rd M y i) (hv : ∀ i : Int, -2147483648 ≤ rd M2 81 i ∧ rd M2 81 i ≤ 2147483647) (hq : q M2) : St q ws as M0 M2 := St.wa 59 h (by decide) hm rfl (by decide +kernel) (by decide +kernel) (by decide +kernel) hT hn hz ho hv hq
theorem sa_81 {q : Mem → Prop} {ws : List (Int × Int)} {as : List Int} {M0 M : Mem} {i v : Int} (h : St q ws as M0 M) (hm : (81 : Int) ∈ as) (hv : -2147483648 ≤ v ∧ v ≤ 2147483647) (hq : q (wr M 81 i v)) : St q ws as M0 (wr M 81 i v) := sw_81 h hm rfl rfl rfl (fun y j hy => rd_wn M (fun c => hy c.1)) (fun j => by rw [rd_wr]; split; exact hv; exact ar_81 h.1.2.1 j) hq
theorem sf_81 {q : Mem → Prop} {ws : List (Int × Int)} {as : List Int} {M0 M : Mem} {v : Int} (N : Nat) (h : St q ws as M0 M) (hm : (81 : Int) ∈ as) (hv : -2147483648 ≤ v ∧ v ≤ 2147483647) (hq : q (fil M 81 N v)) : St q ws as M0 (fil M 81 N v) := sw_81 (M := M) h hm rfl rfl rfl (fun y j hy => by rw [rd_fil, if_neg (fun c => hy c.1)]) (fun j => by rw [rd_fil]; split; exact hv; exact ar_81 h.1.2.1 j) hq
theorem ar_83 {M : Mem} (h : Iv M) (j : Int) : -2147483648 ≤ rd M 83 j ∧ rd M 83 j ≤ 2147483647 := h.2 (83, -2147483648, 2147483647) (List.mem_of_getElem? (i := 60) rfl) j
theorem sw_83 {q : Mem → Prop} {ws : List (Int × Int)} {as : List Int} {M0 M : Mem} {M2 : Mem} (h : St q ws as M0 M) (hm : (83 : Int) ∈ as) (hT : mT M2 = mT M) (hn : M2.1 = M.1) (hz : M2.2.1 = M.2.1) (ho : ∀ y i : Int, y ≠ 83 → rd M2 y i = rd M y i) (hv : ∀ i : Int, -2147483648 ≤ rd M2 83 i ∧ rd M2 83 i ≤ 2147483647) (hq : q M2) : St q ws as M0 M2 := St.wa 60 h (by decide) hm rfl (by decide +kernel) (by decide +kernel) (by decide +kernel) hT hn hz ho hv hq
theorem sa_83 {q : Mem → Prop} {ws : List (Int × Int)} {as : List Int} {M0 M : Mem} {i v : Int} (h : St q ws as M0 M) (hm : (83 : Int) ∈ as) (hv : -2147483648 ≤ v ∧ v ≤ 2147483647) (hq : q (wr M 83 i v)) : St q ws as M0 (wr M 83 i v) := sw_83 h hm rfl rfl rfl (fun y j hy => rd_wn M (fun c => hy c.1)) (fun j => by rw [rd_wr]; split; exact hv; exact ar_83 h.1.2.1 j) hq
theorem sf_83 {q : Mem → Prop} {ws : List (Int × Int)} {as : List Int} {M0 M : Mem} {v : Int} (N : Nat) (h : St q ws as M0 M) (hm : (83 : Int) ∈ as) (hv : -2147483648 ≤ v ∧ v ≤ 2147483647) (hq : q (fil M 83 N v)) : St q ws as M0 (fil M 83 N v) := sw_83 (M := M) h hm rfl rfl rfl (fun y j hy => by rw [rd_fil, if_neg (fun c => hy c.1)]) (fun j => by rw [rd_fil]; split; exact hv; exact ar_83 h.1.2.1 j) hq
theorem ar_84 {M : Mem} (h : Iv M) (j : Int) : -1 ≤ rd M 84 j ∧ rd M 84 j ≤ 59 := h.2 (84, -1, 59) (List.mem_of_getElem? (i := 61) rfl) j
theorem sw_84 {q : Mem → Prop} {ws : List (Int × Int)} {as : List Int} {M0 M : Mem} {M2 : Mem} (h : St q ws as M0 M) (hm : (84 : Int) ∈ as) (hT : mT M2 = mT M) (hn : M2.1 = M.1) (hz : M2.2.1 = M.2.1) (ho : ∀ y i : Int, y ≠ 84 → rd M2 y i = rd M y i) (hv : ∀ i : Int, -1 ≤ rd M2 84 i ∧ rd M2 84 i ≤ 59) (hq : q M2) : St q ws as M0 M2 := St.wa 61 h (by decide) hm rfl (by decide +kernel) (by decide +kernel) (by decide +kernel) hT hn hz ho hv hq
theorem sa_84 {q : Mem → Prop} {ws : List (Int × Int)} {as : List Int} {M0 M : Mem} {i v : Int} (h : St q ws as M0 M) (hm : (84 : Int) ∈ as) (hv : -1 ≤ v ∧ v ≤ 59) (hq : q (wr M 84 i v)) : St q ws as M0 (wr M 84 i v) := sw_84 h hm rfl rfl rfl (fun y j hy => rd_wn M (fun c => hy c.1)) (fun j => by rw [rd_wr]; split; exact hv; exact ar_84 h.1.2.1 j) hq
theorem sf_84 {q : Mem → Prop} {ws : List (Int × Int)} {as : List Int} {M0 M : Mem} {v : Int} (N : Nat) (h : St q ws as M0 M) (hm : (84 : Int) ∈ as) (hv : -1 ≤ v ∧ v ≤ 59) (hq : q (fil M 84 N v)) : St q ws as M0 (fil M 84 N v) := sw_84 (M := M) h hm rfl rfl rfl (fun y j hy => by rw [rd_fil, if_neg (fun c => hy c.1)]) (fun j => by rw [rd_fil]; split; exact hv; exact ar_84 h.1.2.1 j) hq
theorem ar_85 {M : Mem} (h : Iv M) (j : Int) : -2147483648 ≤ rd M 85 j ∧ rd M 85 j ≤ 2147483647 := h.2 (85, -2147483648, 2147483647) (List.mem_of_getElem? (i := 62) rfl) j
theorem sw_85 {q : Mem → Prop} {ws : List (Int × Int)} {as : List Int} {M0 M : Mem} {M2 : Mem} (h : St q ws as M0 M) (hm : (85 : Int) ∈ as) (hT : mT M2 = mT M) (hn : M2.1 = M.1) (hz : M2.2.1 = M.2.1) (ho : ∀ y i : Int, y ≠ 85 → rd M2 y i = rd M y i) (hv : ∀ i : Int, -2147483648 ≤ rd M2 85 i ∧ rd M2 85 i ≤ 2147483647) (hq : q M2) : St q ws as M0 M2 := St.wa 62 h (by decide) hm rfl (by decide +kernel) (by decide +kernel) (by decide +kernel) hT hn hz ho hv hq
theorem sa_85 {q : Mem → Prop} {ws : List (Int × Int)} {as : List Int} {M0 M : Mem} {i v : Int} (h : St q ws as M0 M) (hm : (85 : Int) ∈ as) (hv : -2147483648 ≤ v ∧ v ≤ 2147483647) (hq : q (wr M 85 i v)) : St q ws as M0 (wr M 85 i v) := sw_85 h hm rfl rfl rfl (fun y j hy => rd_wn M (fun c => hy c.1)) (fun j => by rw [rd_wr]; split; exact hv; exact ar_85 h.1.2.1 j) hq
theorem sf_85 {q : Mem → Prop} {ws : List (Int × Int)} {as : List Int} {M0 M : Mem} {v : Int} (N : Nat) (h : St q ws as M0 M) (hm : (85 : Int) ∈ as) (hv : -2147483648 ≤ v ∧ v ≤ 2147483647) (hq : q (fil M 85 N v)) : St q ws as M0 (fil M 85 N v) := sw_85 (M := M) h hm rfl rfl rfl (fun y j hy => by rw [rd_fil, if_neg (fun c => hy c.1)]) (fun j => by rw [rd_fil]; split; exact hv; exact ar_85 h.1.2.1 j) hq
theorem ar_86 {M : Mem} (h : Iv M) (j : Int) : -2147483648 ≤ rd M 86 j ∧ rd M 86 j ≤ 2147483647 := h.2 (86, -2147483648, 2147483647) (List.mem_of_getElem? (i := 63) rfl) j
theorem sw_86 {q : Mem → Prop} {ws : List (Int × Int)} {as : List Int} {M0 M : Mem} {M2 : Mem} (h : St q ws as M0 M) (hm : (86 : Int) ∈ as) (hT : mT M2 = mT M) (hn : M2.1 = M.1) (hz : M2.2.1 = M.2.1) (ho : ∀ y i : Int, y ≠ 86 → rd M2 y i = rd M y i) (hv : ∀ i : Int, -2147483648 ≤ rd M2 86 i ∧ rd M2 86 i ≤ 2147483647) (hq : q M2) : St q ws as M0 M2 := St.wa 63 h (by decide) hm rfl (by decide +kernel) (by decide +kernel) (by decide +kernel) hT hn hz ho hv hq
theorem sa_86 {q : Mem → Prop} {ws : List (Int × Int)} {as : List Int} {M0 M : Mem} {i v : Int} (h : St q ws as M0 M) (hm : (86 : Int) ∈ as) (hv : -2147483648 ≤ v ∧ v ≤ 2147483647) (hq : q (wr M 86 i v)) : St q ws as M0 (wr M 86 i v) := sw_86 h hm rfl rfl rfl (fun y j hy => rd_wn M (fun c => hy c.1)) (fun j => by rw [rd_wr]; split; exact hv; exact ar_86 h.1.2.1 j) hq
theorem sf_86 {q : Mem → Prop} {ws : List (Int × Int)} {as : List Int} {M0 M : Mem} {v : Int} (N : Nat) (h : St q ws as M0 M) (hm : (86 : Int) ∈ as) (hv : -2147483648 ≤ v ∧ v ≤ 2147483647) (hq : q (fil M 86 N v)) : St q ws as M0 (fil M 86 N v) := sw_86 (M := M) h hm rfl rfl rfl (fun y j hy => by rw [rd_fil, if_neg (fun c => hy c.1)]) (fun j => by rw [rd_fil]; split; exact hv; exact ar_86 h.1.2.1 j) hq
theorem ar_87 {M : Mem} (h : Iv M) (j : Int) : -2147483648 ≤ rd M 87 j ∧ rd M 87 j ≤ 2147483647 := h.2 (87, -2147483648, 2147483647) (List.mem_of_getElem? (i := 64) rfl) j
theorem sw_87 {q : Mem → Prop} {ws : List (Int × Int)} {as : List Int} {M0 M : Mem} {M2 : Mem} (h : St q ws as M0 M) (hm : (87 : Int) ∈ as) (hT : mT M2 = mT M) (hn : M2.1 = M.1) (hz : M2.2.1 = M.2.1) (ho : ∀ y i : Int, y ≠ 87 → rd M2 y i = rd M y i) (hv : ∀ i : Int, -2147483648 ≤ rd M2 87 i ∧ rd M2 87 i ≤ 2147483647) (hq : q M2) : St q ws as M0 M2 := St.wa 64 h (by decide) hm rfl (by decide +kernel) (by decide +kernel) (by decide +kernel) hT hn hz ho hv hq
theorem sa_87 {q : Mem → Prop} {ws : List (Int × Int)} {as : List Int} {M0 M : Mem} {i v : Int} (h : St q ws as M0 M) (hm : (87 : Int) ∈ as) (hv : -2147483648 ≤ v ∧ v ≤ 2147483647) (hq : q (wr M 87 i v)) : St q ws as M0 (wr M 87 i v) := sw_87 h hm rfl rfl rfl (fun y j hy => rd_wn M (fun c => hy c.1)) (fun j => by rw [rd_wr]; split; exact hv; exact ar_87 h.1.2.1 j) hq
theorem sf_87 {q : Mem → Prop} {ws : List (Int × Int)} {as : List Int} {M0 M : Mem} {v : Int} (N : Nat) (h : St q ws as M0 M) (hm : (87 : Int) ∈ as) (hv : -2147483648 ≤ v ∧ v ≤ 2147483647) (hq : q (fil M 87 N v)) : St q ws as M0 (fil M 87 N v) := sw_87 (M := M) h hm rfl rfl rfl (fun y j hy => by rw [rd_fil, if_neg (fun c => hy c.1)]) (fun j => by rw [rd_fil]; split; exact hv; exact ar_87 h.1.2.1 j) hq
theorem ar_88 {M : Mem} (h : Iv M) (j : Int) : -2147483648 ≤ rd M 88 j ∧ rd M 88 j ≤ 2147483647 := h.2 (88, -2147483648, 2147483647) (List.mem_of_getElem? (i := 65) rfl) j
theorem sw_88 {q : Mem → Prop} {ws : List (Int × Int)} {as : List Int} {M0 M : Mem} {M2 : Mem} (h : St q ws as M0 M) (hm : (88 : Int) ∈ as) (hT : mT M2 = mT M) (hn : M2.1 = M.1) (hz : M2.2.1 = M.2.1) (ho : ∀ y i : Int, y ≠ 88 → rd M2 y i = rd M y i) (hv : ∀ i : Int, -2147483648 ≤ rd M2 88 i ∧ rd M2 88 i ≤ 2147483647) (hq : q M2) : St q ws as M0 M2 := St.wa 65 h (by decide) hm rfl (by decide +kernel) (by decide +kernel) (by decide +kernel) hT hn hz ho hv hq
theorem sa_88 {q : Mem → Prop} {ws : List (Int × Int)} {as : List Int} {M0 M : Mem} {i v : Int} (h : St q ws as M0 M) (hm : (88 : Int) ∈ as) (hv : -2147483648 ≤ v ∧ v ≤ 2147483647) (hq : q (wr M 88 i v)) : St q ws as M0 (wr M 88 i v) := sw_88 h hm rfl rfl rfl (fun y j hy => rd_wn M (fun c => hy c.1)) (fun j => by rw [rd_wr]; split; exact hv; exact ar_88 h.1.2.1 j) hq
theorem sf_88 {q : Mem → Prop} {ws : List (Int × Int)} {as : List Int} {M0 M : Mem} {v : Int} (N : Nat) (h : St q ws as M0 M) (hm : (88 : Int) ∈ as) (hv : -2147483648 ≤ v ∧ v ≤ 2147483647) (hq : q (fil M 88 N v)) : St q ws as M0 (fil M 88 N v) := sw_88 (M := M) h hm rfl rfl rfl (fun y j hy => by rw [rd_fil, if_neg (fun c => hy c.1)]) (fun j => by rw [rd_fil]; split; exact hv; exact ar_88 h.1.2.1 j) hq
theorem ar_95 {M : Mem} (h : Iv M) (j : Int) : -2147483648 ≤ rd M 95 j ∧ rd M 95 j ≤ 2147483647 := h.2 (95, -2147483648, 2147483647) (List.mem_of_getElem? (i := 66) rfl) j
theorem sw_95 {q : Mem → Prop} {ws : List (Int × Int)} {as : List Int} {M0 M : Mem} {M2 : Mem} (h : St q ws as M0 M) (hm : (95 : Int) ∈ as) (hT : mT M2 = mT M) (hn : M2.1 = M.1) (hz : M2.2.1 = M.2.1) (ho : ∀ y i : Int, y ≠ 95 → rd M2 y i = rd M y i) (hv : ∀ i : Int, -2147483648 ≤ rd M2 95 i ∧ rd M2 95 i ≤ 2147483647) (hq : q M2) : St q ws as M0 M2 := St.wa 66 h (by decide) hm rfl (by decide +kernel) (by decide +kernel) (by decide +kernel) hT hn hz ho hv hq
theorem sa_95 {q : Mem → Prop} {ws : List (Int × Int)} {as : List Int} {M0 M : Mem} {i v : Int} (h : St q ws as M0 M) (hm : (95 : Int) ∈ as) (hv : -2147483648 ≤ v ∧ v ≤ 2147483647) (hq : q (wr M 95 i v)) : St q ws as M0 (wr M 95 i v) := sw_95 h hm rfl rfl rfl (fun y j hy => rd_wn M (fun c => hy c.1)) (fun j => by rw [rd_wr]; split; exact hv; exact ar_95 h.1.2.1 j) hq
theorem sf_95 {q : Mem → Prop} {ws : List (Int × Int)} {as : List Int} {M0 M : Mem} {v : Int} (N : Nat) (h : St q ws as M0 M) (hm : (95 : Int) ∈ as) (hv : -2147483648 ≤ v ∧ v ≤ 2147483647) (hq : q (fil M 95 N v)) : St q ws as M0 (fil M 95 N v) := sw_95 (M := M) h hm rfl rfl rfl (fun y j hy => by rw [rd_fil, if_neg (fun c => hy c.1)]) (fun j => by rw [rd_fil]; split; exact hv; exact ar_95 h.1.2.1 j) hq
theorem ar_101 {M : Mem} (h : Iv M) (j : Int) : -9223372036854775808 ≤ rd M 101 j ∧ rd M 101 j ≤ 9223372036854775807 := h.2 (101, -9223372036854775808, 9223372036854775807) (List.mem_of_getElem? (i := 67) rfl) j
theorem sw_101 {q : Mem → Prop} {ws : List (Int × Int)} {as : List Int} {M0 M : Mem} {M2 : Mem} (h : St q ws as M0 M) (hm : (101 : Int) ∈ as) (hT : mT M2 = mT M) (hn : M2.1 = M.1) (hz : M2.2.1 = M.2.1) (ho : ∀ y i : Int, y ≠ 101 → rd M2 y i = rd M y i) (hv : ∀ i : Int, -9223372036854775808 ≤ rd M2 101 i ∧ rd M2 101 i ≤ 9223372036854775807) (hq : q M2) : St q ws as M0 M2 := St.wa 67 h (by decide) hm rfl (by decide +kernel) (by decide +kernel) (by decide +kernel) hT hn hz ho hv hq
theorem sa_101 {q : Mem → Prop} {ws : List (Int × Int)} {as : List Int} {M0 M : Mem} {i v : Int} (h : St q ws as M0 M) (hm : (101 : Int) ∈ as) (hv : -9223372036854775808 ≤ v ∧ v ≤ 9223372036854775807) (hq : q (wr M 101 i v)) : St q ws as M0 (wr M 101 i v) := sw_101 h hm rfl rfl rfl (fun y j hy => rd_wn M (fun c => hy c.1)) (fun j => by rw [rd_wr]; split; exact hv; exact ar_101 h.1.2.1 j) hq
theorem sf_101 {q : Mem → Prop} {ws : List (Int × Int)} {as : List Int} {M0 M : Mem} {v : Int} (N : Nat) (h : St q ws as M0 M) (hm : (101 : Int) ∈ as) (hv : -9223372036854775808 ≤ v ∧ v ≤ 9223372036854775807) (hq : q (fil M 101 N v)) : St q ws as M0 (fil M 101 N v) := sw_101 (M := M) h hm rfl rfl rfl (fun y j hy => by rw [rd_fil, if_neg (fun c => hy c.1)]) (fun j => by rw [rd_fil]; split; exact hv; exact ar_101 h.1.2.1 j) hq
theorem ar_102 {M : Mem} (h : Iv M) (j : Int) : -2147483648 ≤ rd M 102 j ∧ rd M 102 j ≤ 2147483647 := h.2 (102, -2147483648, 2147483647) (List.mem_of_getElem? (i := 68) rfl) j
theorem sw_102 {q : Mem → Prop} {ws : List (Int × Int)} {as : List Int} {M0 M : Mem} {M2 : Mem} (h : St q ws as M0 M) (hm : (102 : Int) ∈ as) (hT : mT M2 = mT M) (hn : M2.1 = M.1) (hz : M2.2.1 = M.2.1) (ho : ∀ y i : Int, y ≠ 102 → rd M2 y i = rd M y i) (hv : ∀ i : Int, -2147483648 ≤ rd M2 102 i ∧ rd M2 102 i ≤ 2147483647) (hq : q M2) : St q ws as M0 M2 := St.wa 68 h (by decide) hm rfl (by decide +kernel) (by decide +kernel) (by decide +kernel) hT hn hz ho hv hq
theorem sa_102 {q : Mem → Prop} {ws : List (Int × Int)} {as : List Int} {M0 M : Mem} {i v : Int} (h : St q ws as M0 M) (hm : (102 : Int) ∈ as) (hv : -2147483648 ≤ v ∧ v ≤ 2147483647) (hq : q (wr M 102 i v)) : St q ws as M0 (wr M 102 i v) := sw_102 h hm rfl rfl rfl (fun y j hy => rd_wn M (fun c => hy c.1)) (fun j => by rw [rd_wr]; split; exact hv; exact ar_102 h.1.2.1 j) hq
theorem sf_102 {q : Mem → Prop} {ws : List (Int × Int)} {as : List Int} {M0 M : Mem} {v : Int} (N : Nat) (h : St q ws as M0 M) (hm : (102 : Int) ∈ as) (hv : -2147483648 ≤ v ∧ v ≤ 2147483647) (hq : q (fil M 102 N v)) : St q ws as M0 (fil M 102 N v) := sw_102 (M := M) h hm rfl rfl rfl (fun y j hy => by rw [rd_fil, if_neg (fun c => hy c.1)]) (fun j => by rw [rd_fil]; split; exact hv; exact ar_102 h.1.2.1 j) hq
theorem ar_104 {M : Mem} (h : Iv M) (j : Int) : -2147483648 ≤ rd M 104 j ∧ rd M 104 j ≤ 2147483647 := h.2 (104, -2147483648, 2147483647) (List.mem_of_getElem? (i := 69) rfl) j
theorem sw_104 {q : Mem → Prop} {ws : List (Int × Int)} {as : List Int} {M0 M : Mem} {M2 : Mem} (h : St q ws as M0 M) (hm : (104 : Int) ∈ as) (hT : mT M2 = mT M) (hn : M2.1 = M.1) (hz : M2.2.1 = M.2.1) (ho : ∀ y i : Int, y ≠ 104 → rd M2 y i = rd M y i) (hv : ∀ i : Int, -2147483648 ≤ rd M2 104 i ∧ rd M2 104 i ≤ 2147483647) (hq : q M2) : St q ws as M0 M2 := St.wa 69 h (by decide) hm rfl (by decide +kernel) (by decide +kernel) (by decide +kernel) hT hn hz ho hv hq
theorem sa_104 {q : Mem → Prop} {ws : List (Int × Int)} {as : List Int} {M0 M : Mem} {i v : Int} (h : St q ws as M0 M) (hm : (104 : Int) ∈ as) (hv : -2147483648 ≤ v ∧ v ≤ 2147483647) (hq : q (wr M 104 i v)) : St q ws as M0 (wr M 104 i v) := sw_104 h hm rfl rfl rfl (fun y j hy => rd_wn M (fun c => hy c.1)) (fun j => by rw [rd_wr]; split; exact hv; exact ar_104 h.1.2.1 j) hq
theorem sf_104 {q : Mem → Prop} {ws : List (Int × Int)} {as : List Int} {M0 M : Mem} {v : Int} (N : Nat) (h : St q ws as M0 M) (hm : (104 : Int) ∈ as) (hv : -2147483648 ≤ v ∧ v ≤ 2147483647) (hq : q (fil M 104 N v)) : St q ws as M0 (fil M 104 N v) := sw_104 (M := M) h hm rfl rfl rfl (fun y j hy => by rw [rd_fil, if_neg (fun c => hy c.1)]) (fun j => by rw [rd_fil]; split; exact hv; exact ar_104 h.1.2.1 j) hq
theorem ar_105 {M : Mem} (h : Iv M) (j : Int) : -2147483648 ≤ rd M 105 j ∧ rd M 105 j ≤ 2147483647 := h.2 (105, -2147483648, 2147483647) (List.mem_of_getElem? (i := 70) rfl) j
theorem sw_105 {q : Mem → Prop} {ws : List (Int × Int)} {as : List Int} {M0 M : Mem} {M2 : Mem} (h : St q ws as M0 M) (hm : (105 : Int) ∈ as) (hT : mT M2 = mT M) (hn : M2.1 = M.1) (hz : M2.2.1 = M.2.1) (ho : ∀ y i : Int, y ≠ 105 → rd M2 y i = rd M y i) (hv : ∀ i : Int, -2147483648 ≤ rd M2 105 i ∧ rd M2 105 i ≤ 2147483647) (hq : q M2) : St q ws as M0 M2 := St.wa 70 h (by decide) hm rfl (by decide +kernel) (by decide +kernel) (by decide +kernel) hT hn hz ho hv hq
theorem sa_105 {q : Mem → Prop} {ws : List (Int × Int)} {as : List Int} {M0 M : Mem} {i v : Int} (h : St q ws as M0 M) (hm : (105 : Int) ∈ as) (hv : -2147483648 ≤ v ∧ v ≤ 2147483647) (hq : q (wr M 105 i v)) : St q ws as M0 (wr M 105 i v) := sw_105 h hm rfl rfl rfl (fun y j hy => rd_wn M (fun c => hy c.1)) (fun j => by rw [rd_wr]; split; exact hv; exact ar_105 h.1.2.1 j) hq
theorem sf_105 {q : Mem → Prop} {ws : List (Int × Int)} {as : List Int} {M0 M : Mem} {v : Int} (N : Nat) (h : St q ws as M0 M) (hm : (105 : Int) ∈ as) (hv : -2147483648 ≤ v ∧ v ≤ 2147483647) (hq : q (fil M 105 N v)) : St q ws as M0 (fil M 105 N v) := sw_105 (M := M) h hm rfl rfl rfl (fun y j hy => by rw [rd_fil, if_neg (fun c => hy c.1)]) (fun j => by rw [rd_fil]; split; exact hv; exact ar_105 h.1.2.1 j) hq
theorem ar_106 {M : Mem} (h : Iv M) (j : Int) : -2147483648 ≤ rd M 106 j ∧ rd M 106 j ≤ 2147483647 := h.2 (106, -2147483648, 2147483647) (List.mem_of_getElem? (i := 71) rfl) j
theorem sw_106 {q : Mem → Prop} {ws : List (Int × Int)} {as : List Int} {M0 M : Mem} {M2 : Mem} (h : St q ws as M0 M) (hm : (106 : Int) ∈ as) (hT : mT M2 = mT M) (hn : M2.1 = M.1) (hz : M2.2.1 = M.2.1) (ho : ∀ y i : Int, y ≠ 106 → rd M2 y i = rd M y i) (hv : ∀ i : Int, -2147483648 ≤ rd M2 106 i ∧ rd M2 106 i ≤ 2147483647) (hq : q M2) : St q ws as M0 M2 := St.wa 71 h (by decide) hm rfl (by decide +kernel) (by decide +kernel) (by decide +kernel) hT hn hz ho hv hq
theorem sa_106 {q : Mem → Prop} {ws : List (Int × Int)} {as : List Int} {M0 M : Mem} {i v : Int} (h : St q ws as M0 M) (hm : (106 : Int) ∈ as) (hv : -2147483648 ≤ v ∧ v ≤ 2147483647) (hq : q (wr M 106 i v)) : St q ws as M0 (wr M 106 i v) := sw_106 h hm rfl rfl rfl (fun y j hy => rd_wn M (fun c => hy c.1)) (fun j => by rw [rd_wr]; split; exact hv; exact ar_106 h.1.2.1 j) hq
theorem sf_106 {q : Mem → Prop} {ws : List (Int × Int)} {as : List Int} {M0 M : Mem} {v : Int} (N : Nat) (h : St q ws as M0 M) (hm : (106 : Int) ∈ as) (hv : -2147483648 ≤ v ∧ v ≤ 2147483647) (hq : q (fil M 106 N v)) : St q ws as M0 (fil M 106 N v) := sw_106 (M := M) h hm rfl rfl rfl (fun y j hy => by rw [rd_fil, if_neg (fun c => hy c.1)]) (fun j => by rw [rd_fil]; split; exact hv; exact ar_106 h.1.2.1 j) hq
theorem ar_108 {M : Mem} (h : Iv M) (j : Int) : -2147483648 ≤ rd M 108 j ∧ rd M 108 j ≤ 2147483647 := h.2 (108, -2147483648, 2147483647) (List.mem_of_getElem? (i := 72) rfl) j
theorem sw_108 {q : Mem → Prop} {ws : List (Int × Int)} {as : List Int} {M0 M : Mem} {M2 : Mem} (h : St q ws as M0 M) (hm : (108 : Int) ∈ as) (hT : mT M2 = mT M) (hn : M2.1 = M.1) (hz : M2.2.1 = M.2.1) (ho : ∀ y i : Int, y ≠ 108 → rd M2 y i = rd M y i) (hv : ∀ i : Int, -2147483648 ≤ rd M2 108 i ∧ rd M2 108 i ≤ 2147483647) (hq : q M2) : St q ws as M0 M2 := St.wa 72 h (by decide) hm rfl (by decide +kernel) (by decide +kernel) (by decide +kernel) hT hn hz ho hv hq
theorem sa_108 {q : Mem → Prop} {ws : List (Int × Int)} {as : List Int} {M0 M : Mem} {i v : Int} (h : St q ws as M0 M) (hm : (108 : Int) ∈ as) (hv : -2147483648 ≤ v ∧ v ≤ 2147483647) (hq : q (wr M 108 i v)) : St q ws as M0 (wr M 108 i v) := sw_108 h hm rfl rfl rfl (fun y j hy => rd_wn M (fun c => hy c.1)) (fun j => by rw [rd_wr]; split; exact hv; exact ar_108 h.1.2.1 j) hq
theorem sf_108 {q : Mem → Prop} {ws : List (Int × Int)} {as : List Int} {M0 M : Mem} {v : Int} (N : Nat) (h : St q ws as M0 M) (hm : (108 : Int) ∈ as) (hv : -2147483648 ≤ v ∧ v ≤ 2147483647) (hq : q (fil M 108 N v)) : St q ws as M0 (fil M 108 N v) := sw_108 (M := M) h hm rfl rfl rfl (fun y j hy => by rw [rd_fil, if_neg (fun c => hy c.1)]) (fun j => by rw [rd_fil]; split; exact hv; exact ar_108 h.1.2.1 j) hq
theorem ar_109 {M : Mem} (h : Iv M) (j : Int) : -2147483648 ≤ rd M 109 j ∧ rd M 109 j ≤ 2147483647 := h.2 (109, -2147483648, 2147483647) (List.mem_of_getElem? (i := 73) rfl) j
theorem sw_109 {q : Mem → Prop} {ws : List (Int × Int)} {as : List Int} {M0 M : Mem} {M2 : Mem} (h : St q ws as M0 M) (hm : (109 : Int) ∈ as) (hT : mT M2 = mT M) (hn : M2.1 = M.1) (hz : M2.2.1 = M.2.1) (ho : ∀ y i : Int, y ≠ 109 → rd M2 y i = rd M y i) (hv : ∀ i : Int, -2147483648 ≤ rd M2 109 i ∧ rd M2 109 i ≤ 2147483647) (hq : q M2) : St q ws as M0 M2 := St.wa 73 h (by decide) hm rfl (by decide +kernel) (by decide +kernel) (by decide +kernel) hT hn hz ho hv hq
theorem sa_109 {q : Mem → Prop} {ws : List (Int × Int)} {as : List Int} {M0 M : Mem} {i v : Int} (h : St q ws as M0 M) (hm : (109 : Int) ∈ as) (hv : -2147483648 ≤ v ∧ v ≤ 2147483647) (hq : q (wr M 109 i v)) : St q ws as M0 (wr M 109 i v) := sw_109 h hm rfl rfl rfl (fun y j hy => rd_wn M (fun c => hy c.1)) (fun j => by rw [rd_wr]; split; exact hv; exact ar_109 h.1.2.1 j) hq
theorem sf_109 {q : Mem → Prop} {ws : List (Int × Int)} {as : List Int} {M0 M : Mem} {v : Int} (N : Nat) (h : St q ws as M0 M) (hm : (109 : Int) ∈ as) (hv : -2147483648 ≤ v ∧ v ≤ 2147483647) (hq : q (fil M 109 N v)) : St q ws as M0 (fil M 109 N v) := sw_109 (M := M) h hm rfl rfl rfl (fun y j hy => by rw [rd_fil, if_neg (fun c => hy c.1)]) (fun j => by rw [rd_fil]; split; exact hv; exact ar_109 h.1.2.1 j) hq
theorem ar_110 {M : Mem} (h : Iv M) (j : Int) : -2147483648 ≤ rd M 110 j ∧ rd M 110 j ≤ 2147483647 := h.2 (110, -2147483648, 2147483647) (List.mem_of_getElem? (i := 74) rfl) j
theorem sw_110 {q : Mem → Prop} {ws : List (Int × Int)} {as : List Int} {M0 M : Mem} {M2 : Mem} (h : St q ws as M0 M) (hm : (110 : Int) ∈ as) (hT : mT M2 = mT M) (hn : M2.1 = M.1) (hz : M2.2.1 = M.2.1) (ho : ∀ y i : Int, y ≠ 110 → rd M2 y i = rd M y i) (hv : ∀ i : Int, -2147483648 ≤ rd M2 110 i ∧ rd M2 110 i ≤ 2147483647) (hq : q M2) : St q ws as M0 M2 := St.wa 74 h (by decide) hm rfl (by decide +kernel) (by decide +kernel) (by decide +kernel) hT hn hz ho hv hq
theorem sa_110 {q : Mem → Prop} {ws : List (Int × Int)} {as : List Int} {M0 M : Mem} {i v : Int} (h : St q ws as M0 M) (hm : (110 : Int) ∈ as) (hv : -2147483648 ≤ v ∧ v ≤ 2147483647) (hq : q (wr M 110 i v)) : St q ws as M0 (wr M 110 i v) := sw_110 h hm rfl rfl rfl (fun y j hy => rd_wn M (fun c => hy c.1)) (fun j => by rw [rd_wr]; split; exact hv; exact ar_110 h.1.2.1 j) hq
theorem sf_110 {q : Mem → Prop} {ws : List (Int × Int)} {as : List Int} {M0 M : Mem} {v : Int} (N : Nat) (h : St q ws as M0 M) (hm : (110 : Int) ∈ as) (hv : -2147483648 ≤ v ∧ v ≤ 2147483647) (hq : q (fil M 110 N v)) : St q ws as M0 (fil M 110 N v) := sw_110 (M := M) h hm rfl rfl rfl (fun y j hy => by rw [rd_fil, if_neg (fun c => hy c.1)]) (fun j => by rw [rd_fil]; split; exact hv; exact ar_110 h.1.2.1 j) hq
theorem ar_111 {M : Mem} (h : Iv M) (j : Int) : -2147483648 ≤ rd M 111 j ∧ rd M 111 j ≤ 2147483647 := h.2 (111, -2147483648, 2147483647) (List.mem_of_getElem? (i := 75) rfl) j
theorem sw_111 {q : Mem → Prop} {ws : List (Int × Int)} {as : List Int} {M0 M : Mem} {M2 : Mem} (h : St q ws as M0 M) (hm : (111 : Int) ∈ as) (hT : mT M2 = mT M) (hn : M2.1 = M.1) (hz : M2.2.1 = M.2.1) (ho : ∀ y i : Int, y ≠ 111 → rd M2 y i = rd M y i) (hv : ∀ i : Int, -2147483648 ≤ rd M2 111 i ∧ rd M2 111 i ≤ 2147483647) (hq : q M2) : St q ws as M0 M2 := St.wa 75 h (by decide) hm rfl (by decide +kernel) (by decide +kernel) (by decide +kernel) hT hn hz ho hv hq
theorem sa_111 {q : Mem → Prop} {ws : List (Int × Int)} {as : List Int} {M0 M : Mem} {i v : Int} (h : St q ws as M0 M) (hm : (111 : Int) ∈ as) (hv : -2147483648 ≤ v ∧ v ≤ 2147483647) (hq : q (wr M 111 i v)) : St q ws as M0 (wr M 111 i v) := sw_111 h hm rfl rfl rfl (fun y j hy => rd_wn M (fun c => hy c.1)) (fun j => by rw [rd_wr]; split; exact hv; exact ar_111 h.1.2.1 j) hq
theorem sf_111 {q : Mem → Prop} {ws : List (Int × Int)} {as : List Int} {M0 M : Mem} {v : Int} (N : Nat) (h : St q ws as M0 M) (hm : (111 : Int) ∈ as) (hv : -2147483648 ≤ v ∧ v ≤ 2147483647) (hq : q (fil M 111 N v)) : St q ws as M0 (fil M 111 N v) := sw_111 (M := M) h hm rfl rfl rfl (fun y j hy => by rw [rd_fil, if_neg (fun c => hy c.1)]) (fun j => by rw [rd_fil]; split; exact hv; exact ar_111 h.1.2.1 j) hq
theorem ar_112 {M : Mem} (h : Iv M) (j : Int) : -2147483648 ≤ rd M 112 j ∧ rd M 112 j ≤ 2147483647 := h.2 (112, -2147483648, 2147483647) (List.mem_of_getElem? (i := 76) rfl) j
theorem sw_112 {q : Mem → Prop} {ws : List (Int × Int)} {as : List Int} {M0 M : Mem} {M2 : Mem} (h : St q ws as M0 M) (hm : (112 : Int) ∈ as) (hT : mT M2 = mT M) (hn : M2.1 = M.1) (hz : M2.2.1 = M.2.1) (ho : ∀ y i : Int, y ≠ 112 → rd M2 y i = rd M y i) (hv : ∀ i : Int, -2147483648 ≤ rd M2 112 i ∧ rd M2 112 i ≤ 2147483647) (hq : q M2) : St q ws as M0 M2 := St.wa 76 h (by decide) hm rfl (by decide +kernel) (by decide +kernel) (by decide +kernel) hT hn hz ho hv hq
theorem sa_112 {q : Mem → Prop} {ws : List (Int × Int)} {as : List Int} {M0 M : Mem} {i v : Int} (h : St q ws as M0 M) (hm : (112 : Int) ∈ as) (hv : -2147483648 ≤ v ∧ v ≤ 2147483647) (hq : q (wr M 112 i v)) : St q ws as M0 (wr M 112 i v) := sw_112 h hm rfl rfl rfl (fun y j hy => rd_wn M (fun c => hy c.1)) (fun j => by rw [rd_wr]; split; exact hv; exact ar_112 h.1.2.1 j) hq
theorem sf_112 {q : Mem → Prop} {ws : List (Int × Int)} {as : List Int} {M0 M : Mem} {v : Int} (N : Nat) (h : St q ws as M0 M) (hm : (112 : Int) ∈ as) (hv : -2147483648 ≤ v ∧ v ≤ 2147483647) (hq : q (fil M 112 N v)) : St q ws as M0 (fil M 112 N v) := sw_112 (M := M) h hm rfl rfl rfl (fun y j hy => by rw [rd_fil, if_neg (fun c => hy c.1)]) (fun j => by rw [rd_fil]; split; exact hv; exact ar_112 h.1.2.1 j) hq
theorem ar_114 {M : Mem} (h : Iv M) (j : Int) : 0 ≤ rd M 114 j ∧ rd M 114 j ≤ 200 := h.2 (114, 0, 200) (List.mem_of_getElem? (i := 77) rfl) j
theorem sw_114 {q : Mem → Prop} {ws : List (Int × Int)} {as : List Int} {M0 M : Mem} {M2 : Mem} (h : St q ws as M0 M) (hm : (114 : Int) ∈ as) (hT : mT M2 = mT M) (hn : M2.1 = M.1) (hz : M2.2.1 = M.2.1) (ho : ∀ y i : Int, y ≠ 114 → rd M2 y i = rd M y i) (hv : ∀ i : Int, 0 ≤ rd M2 114 i ∧ rd M2 114 i ≤ 200) (hq : q M2) : St q ws as M0 M2 := St.wa 77 h (by decide) hm rfl (by decide +kernel) (by decide +kernel) (by decide +kernel) hT hn hz ho hv hq
theorem sa_114 {q : Mem → Prop} {ws : List (Int × Int)} {as : List Int} {M0 M : Mem} {i v : Int} (h : St q ws as M0 M) (hm : (114 : Int) ∈ as) (hv : 0 ≤ v ∧ v ≤ 200) (hq : q (wr M 114 i v)) : St q ws as M0 (wr M 114 i v) := sw_114 h hm rfl rfl rfl (fun y j hy => rd_wn M (fun c => hy c.1)) (fun j => by rw [rd_wr]; split; exact hv; exact ar_114 h.1.2.1 j) hq
theorem sf_114 {q : Mem → Prop} {ws : List (Int × Int)} {as : List Int} {M0 M : Mem} {v : Int} (N : Nat) (h : St q ws as M0 M) (hm : (114 : Int) ∈ as) (hv : 0 ≤ v ∧ v ≤ 200) (hq : q (fil M 114 N v)) : St q ws as M0 (fil M 114 N v) := sw_114 (M := M) h hm rfl rfl rfl (fun y j hy => by rw [rd_fil, if_neg (fun c => hy c.1)]) (fun j => by rw [rd_fil]; split; exact hv; exact ar_114 h.1.2.1 j) hq
theorem ar_115 {M : Mem} (h : Iv M) (j : Int) : 0 ≤ rd M 115 j ∧ rd M 115 j ≤ 20 := h.2 (115, 0, 20) (List.mem_of_getElem? (i := 78) rfl) j
theorem sw_115 {q : Mem → Prop} {ws : List (Int × Int)} {as : List Int} {M0 M : Mem} {M2 : Mem} (h : St q ws as M0 M) (hm : (115 : Int) ∈ as) (hT : mT M2 = mT M) (hn : M2.1 = M.1) (hz : M2.2.1 = M.2.1) (ho : ∀ y i : Int, y ≠ 115 → rd M2 y i = rd M y i) (hv : ∀ i : Int, 0 ≤ rd M2 115 i ∧ rd M2 115 i ≤ 20) (hq : q M2) : St q ws as M0 M2 := St.wa 78 h (by decide) hm rfl (by decide +kernel) (by decide +kernel) (by decide +kernel) hT hn hz ho hv hq
theorem sa_115 {q : Mem → Prop} {ws : List (Int × Int)} {as : List Int} {M0 M : Mem} {i v : Int} (h : St q ws as M0 M) (hm : (115 : Int) ∈ as) (hv : 0 ≤ v ∧ v ≤ 20) (hq : q (wr M 115 i v)) : St q ws as M0 (wr M 115 i v) := sw_115 h hm rfl rfl rfl (fun y j hy => rd_wn M (fun c => hy c.1)) (fun j => by rw [rd_wr]; split; exact hv; exact ar_115 h.1.2.1 j) hq
theorem sf_115 {q : Mem → Prop} {ws : List (Int × Int)} {as : List Int} {M0 M : Mem} {v : Int} (N : Nat) (h : St q ws as M0 M) (hm : (115 : Int) ∈ as) (hv : 0 ≤ v ∧ v ≤ 20) (hq : q (fil M 115 N v)) : St q ws as M0 (fil M 115 N v) := sw_115 (M := M) h hm rfl rfl rfl (fun y j hy => by rw [rd_fil, if_neg (fun c => hy c.1)]) (fun j => by rw [rd_fil]; split; exact hv; exact ar_115 h.1.2.1 j) hq
theorem ar_116 {M : Mem} (h : Iv M) (j : Int) : 0 ≤ rd M 116 j ∧ rd M 116 j ≤ 5 := h.2 (116, 0, 5) (List.mem_of_getElem? (i := 79) rfl) j
theorem sw_116 {q : Mem → Prop} {ws : List (Int × Int)} {as : List Int} {M0 M : Mem} {M2 : Mem} (h : St q ws as M0 M) (hm : (116 : Int) ∈ as) (hT : mT M2 = mT M) (hn : M2.1 = M.1) (hz : M2.2.1 = M.2.1) (ho : ∀ y i : Int, y ≠ 116 → rd M2 y i = rd M y i) (hv : ∀ i : Int, 0 ≤ rd M2 116 i ∧ rd M2 116 i ≤ 5) (hq : q M2) : St q ws as M0 M2 := St.wa 79 h (by decide) hm rfl (by decide +kernel) (by decide +kernel) (by decide +kernel) hT hn hz ho hv hq
theorem sa_116 {q : Mem → Prop} {ws : List (Int × Int)} {as : List Int} {M0 M : Mem} {i v : Int} (h : St q ws as M0 M) (hm : (116 : Int) ∈ as) (hv : 0 ≤ v ∧ v ≤ 5) (hq : q (wr M 116 i v)) : St q ws as M0 (wr M 116 i v) := sw_116 h hm rfl rfl rfl (fun y j hy => rd_wn M (fun c => hy c.1)) (fun j => by rw [rd_wr]; split; exact hv; exact ar_116 h.1.2.1 j) hq
theorem sf_116 {q : Mem → Prop} {ws : List (Int × Int)} {as : List Int} {M0 M : Mem} {v : Int} (N : Nat) (h : St q ws as M0 M) (hm : (116 : Int) ∈ as) (hv : 0 ≤ v ∧ v ≤ 5) (hq : q (fil M 116 N v)) : St q ws as M0 (fil M 116 N v) := sw_116 (M := M) h hm rfl rfl rfl (fun y j hy => by rw [rd_fil, if_neg (fun c => hy c.1)]) (fun j => by rw [rd_fil]; split; exact hv; exact ar_116 h.1.2.1 j) hq
theorem ar_117 {M : Mem} (h : Iv M) (j : Int) : 0 ≤ rd M 117 j ∧ rd M 117 j ≤ 5 := h.2 (117, 0, 5) (List.mem_of_getElem? (i := 80) rfl) j
theorem sw_117 {q : Mem → Prop} {ws : List (Int × Int)} {as : List Int} {M0 M : Mem} {M2 : Mem} (h : St q ws as M0 M) (hm : (117 : Int) ∈ as) (hT : mT M2 = mT M) (hn : M2.1 = M.1) (hz : M2.2.1 = M.2.1) (ho : ∀ y i : Int, y ≠ 117 → rd M2 y i = rd M y i) (hv : ∀ i : Int, 0 ≤ rd M2 117 i ∧ rd M2 117 i ≤ 5) (hq : q M2) : St q ws as M0 M2 := St.wa 80 h (by decide) hm rfl (by decide +kernel) (by decide +kernel) (by decide +kernel) hT hn hz ho hv hq
theorem sa_117 {q : Mem → Prop} {ws : List (Int × Int)} {as : List Int} {M0 M : Mem} {i v : Int} (h : St q ws as M0 M) (hm : (117 : Int) ∈ as) (hv : 0 ≤ v ∧ v ≤ 5) (hq : q (wr M 117 i v)) : St q ws as M0 (wr M 117 i v) := sw_117 h hm rfl rfl rfl (fun y j hy => rd_wn M (fun c => hy c.1)) (fun j => by rw [rd_wr]; split; exact hv; exact ar_117 h.1.2.1 j) hq
theorem sf_117 {q : Mem → Prop} {ws : List (Int × Int)} {as : List Int} {M0 M : Mem} {v : Int} (N : Nat) (h : St q ws as M0 M) (hm : (117 : Int) ∈ as) (hv : 0 ≤ v ∧ v ≤ 5) (hq : q (fil M 117 N v)) : St q ws as M0 (fil M 117 N v) := sw_117 (M := M) h hm rfl rfl rfl (fun y j hy => by rw [rd_fil, if_neg (fun c => hy c.1)]) (fun j => by rw [rd_fil]; split; exact hv; exact ar_117 h.1.2.1 j) hq
theorem ar_118 {M : Mem} (h : Iv M) (j : Int) : 0 ≤ rd M 118 j ∧ rd M 118 j ≤ 5 := h.2 (118, 0, 5) (List.mem_of_getElem? (i := 81) rfl) j
theorem sw_118 {q : Mem → Prop} {ws : List (Int × Int)} {as : List Int} {M0 M : Mem} {M2 : Mem} (h : St q ws as M0 M) (hm : (118 : Int) ∈ as) (hT : mT M2 = mT M) (hn : M2.1 = M.1) (hz : M2.2.1 = M.2.1) (ho : ∀ y i : Int, y ≠ 118 → rd M2 y i = rd M y i) (hv : ∀ i : Int, 0 ≤ rd M2 118 i ∧ rd M2 118 i ≤ 5) (hq : q M2) : St q ws as M0 M2 := St.wa 81 h (by decide) hm rfl (by decide +kernel) (by decide +kernel) (by decide +kernel) hT hn hz ho hv hq
theorem sa_118 {q : Mem → Prop} {ws : List (Int × Int)} {as : List Int} {M0 M : Mem} {i v : Int} (h : St q ws as M0 M) (hm : (118 : Int) ∈ as) (hv : 0 ≤ v ∧ v ≤ 5) (hq : q (wr M 118 i v)) : St q ws as M0 (wr M 118 i v) := sw_118 h hm rfl rfl rfl (fun y j hy => rd_wn M (fun c => hy c.1)) (fun j => by rw [rd_wr]; split; exact hv; exact ar_118 h.1.2.1 j) hq
theorem sf_118 {q : Mem → Prop} {ws : List (Int × Int)} {as : List Int} {M0 M : Mem} {v : Int} (N : Nat) (h : St q ws as M0 M) (hm : (118 : Int) ∈ as) (hv : 0 ≤ v ∧ v ≤ 5) (hq : q (fil M 118 N v)) : St q ws as M0 (fil M 118 N v) := sw_118 (M := M) h hm rfl rfl rfl (fun y j hy => by rw [rd_fil, if_neg (fun c => hy c.1)]) (fun j => by rw [rd_fil]; split; exact hv; exact ar_118 h.1.2.1 j) hq
theorem ar_119 {M : Mem} (h : Iv M) (j : Int) : 0 ≤ rd M 119 j ∧ rd M 119 j ≤ 5 := h.2 (119, 0, 5) (List.mem_of_getElem? (i := 82) rfl) j
theorem sw_119 {q : Mem → Prop} {ws : List (Int × Int)} {as : List Int} {M0 M : Mem} {M2 : Mem} (h : St q ws as M0 M) (hm : (119 : Int) ∈ as) (hT : mT M2 = mT M) (hn : M2.1 = M.1) (hz : M2.2.1 = M.2.1) (ho : ∀ y i : Int, y ≠ 119 → rd M2 y i = rd M y i) (hv : ∀ i : Int, 0 ≤ rd M2 119 i ∧ rd M2 119 i ≤ 5) (hq : q M2) : St q ws as M0 M2 := St.wa 82 h (by decide) hm rfl (by decide +kernel) (by decide +kernel) (by decide +kernel) hT hn hz ho hv hq
theorem sa_119 {q : Mem → Prop} {ws : List (Int × Int)} {as : List Int} {M0 M : Mem} {i v : Int} (h : St q ws as M0 M) (hm : (119 : Int) ∈ as) (hv : 0 ≤ v ∧ v ≤ 5) (hq : q (wr M 119 i v)) : St q ws as M0 (wr M 119 i v) := sw_119 h hm rfl rfl rfl (fun y j hy => rd_wn M (fun c => hy c.1)) (fun j => by rw [rd_wr]; split; exact hv; exact ar_119 h.1.2.1 j) hq
theorem sf_119 {q : Mem → Prop} {ws : List (Int × Int)} {as : List Int} {M0 M : Mem} {v : Int} (N : Nat) (h : St q ws as M0 M) (hm : (119 : Int) ∈ as) (hv : 0 ≤ v ∧ v ≤ 5) (hq : q (fil M 119 N v)) : St q ws as M0 (fil M 119 N v) := sw_119 (M := M) h hm rfl rfl rfl (fun y j hy => by rw [rd_fil, if_neg (fun c => hy c.1)]) (fun j => by rw [rd_fil]; split; exact hv; exact ar_119 h.1.2.1 j) hq
theorem ar_121 {M : Mem} (h : Iv M) (j : Int) : -2147483648 ≤ rd M 121 j ∧ rd M 121 j ≤ 2147483647 := h.2 (121, -2147483648, 2147483647) (List.mem_of_getElem? (i := 83) rfl) j
theorem sw_121 {q : Mem → Prop} {ws : List (Int × Int)} {as : List Int} {M0 M : Mem} {M2 : Mem} (h : St q ws as M0 M) (hm : (121 : Int) ∈ as) (hT : mT M2 = mT M) (hn : M2.1 = M.1) (hz : M2.2.1 = M.2.1) (ho : ∀ y i : Int, y ≠ 121 → rd M2 y i = rd M y i) (hv : ∀ i : Int, -2147483648 ≤ rd M2 121 i ∧ rd M2 121 i ≤ 2147483647) (hq : q M2) : St q ws as M0 M2 := St.wa 83 h (by decide) hm rfl (by decide +kernel) (by decide +kernel) (by decide +kernel) hT hn hz ho hv hq
theorem sa_121 {q : Mem → Prop} {ws : List (Int × Int)} {as : List Int} {M0 M : Mem} {i v : Int} (h : St q ws as M0 M) (hm : (121 : Int) ∈ as) (hv : -2147483648 ≤ v ∧ v ≤ 2147483647) (hq : q (wr M 121 i v)) : St q ws as M0 (wr M 121 i v) := sw_121 h hm rfl rfl rfl (fun y j hy => rd_wn M (fun c => hy c.1)) (fun j => by rw [rd_wr]; split; exact hv; exact ar_121 h.1.2.1 j) hq
theorem sf_121 {q : Mem → Prop} {ws : List (Int × Int)} {as : List Int} {M0 M : Mem} {v : Int} (N : Nat) (h : St q ws as M0 M) (hm : (121 : Int) ∈ as) (hv : -2147483648 ≤ v ∧ v ≤ 2147483647) (hq : q (fil M 121 N v)) : St q ws as M0 (fil M 121 N v) := sw_121 (M := M) h hm rfl rfl rfl (fun y j hy => by rw [rd_fil, if_neg (fun c => hy c.1)]) (fun j => by rw [rd_fil]; split; exact hv; exact ar_121 h.1.2.1 j) hq
theorem ar_130 {M : Mem} (h : Iv M) (j : Int) : -9223372036854775808 ≤ rd M 130 j ∧ rd M 130 j ≤ 9223372036854775807 := h.2 (130, -9223372036854775808, 9223372036854775807) (List.mem_of_getElem? (i := 84) rfl) j
theorem sw_130 {q : Mem → Prop} {ws : List (Int × Int)} {as : List Int} {M0 M : Mem} {M2 : Mem} (h : St q ws as M0 M) (hm : (130 : Int) ∈ as) (hT : mT M2 = mT M) (hn : M2.1 = M.1) (hz : M2.2.1 = M.2.1) (ho : ∀ y i : Int, y ≠ 130 → rd M2 y i = rd M y i) (hv : ∀ i : Int, -9223372036854775808 ≤ rd M2 130 i ∧ rd M2 130 i ≤ 9223372036854775807) (hq : q M2) : St q ws as M0 M2 := St.wa 84 h (by decide) hm rfl (by decide +kernel) (by decide +kernel) (by decide +kernel) hT hn hz ho hv hq
theorem sa_130 {q : Mem → Prop} {ws : List (Int × Int)} {as : List Int} {M0 M : Mem} {i v : Int} (h : St q ws as M0 M) (hm : (130 : Int) ∈ as) (hv : -9223372036854775808 ≤ v ∧ v ≤ 9223372036854775807) (hq : q (wr M 130 i v)) : St q ws as M0 (wr M 130 i v) := sw_130 h hm rfl rfl rfl (fun y j hy => rd_wn M (fun c => hy c.1)) (fun j => by rw [rd_wr]; split; exact hv; exact ar_130 h.1.2.1 j) hq
theorem sf_130 {q : Mem → Prop} {ws : List (Int × Int)} {as : List Int} {M0 M : Mem} {v : Int} (N : Nat) (h : St q ws as M0 M) (hm : (130 : Int) ∈ as) (hv : -9223372036854775808 ≤ v ∧ v ≤ 9223372036854775807) (hq : q (fil M 130 N v)) : St q ws as M0 (fil M 130 N v) := sw_130 (M := M) h hm rfl rfl rfl (fun y j hy => by rw [rd_fil, if_neg (fun c => hy c.1)]) (fun j => by rw [rd_fil]; split; exact hv; exact ar_130 h.1.2.1 j) hq
theorem ar_131 {M : Mem} (h : Iv M) (j : Int) : -2147483648 ≤ rd M 131 j ∧ rd M 131 j ≤ 2147483647 := h.2 (131, -2147483648, 2147483647) (List.mem_of_getElem? (i := 85) rfl) j
theorem sw_131 {q : Mem → Prop} {ws : List (Int × Int)} {as : List Int} {M0 M : Mem} {M2 : Mem} (h : St q ws as M0 M) (hm : (131 : Int) ∈ as) (hT : mT M2 = mT M) (hn : M2.1 = M.1) (hz : M2.2.1 = M.2.1) (ho : ∀ y i : Int, y ≠ 131 → rd M2 y i = rd M y i) (hv : ∀ i : Int, -2147483648 ≤ rd M2 131 i ∧ rd M2 131 i ≤ 2147483647) (hq : q M2) : St q ws as M0 M2 := St.wa 85 h (by decide) hm rfl (by decide +kernel) (by decide +kernel) (by decide +kernel) hT hn hz ho hv hq
theorem sa_131 {q : Mem → Prop} {ws : List (Int × Int)} {as : List Int} {M0 M : Mem} {i v : Int} (h : St q ws as M0 M) (hm : (131 : Int) ∈ as) (hv : -2147483648 ≤ v ∧ v ≤ 2147483647) (hq : q (wr M 131 i v)) : St q ws as M0 (wr M 131 i v) := sw_131 h hm rfl rfl rfl (fun y j hy => rd_wn M (fun c => hy c.1)) (fun j => by rw [rd_wr]; split; exact hv; exact ar_131 h.1.2.1 j) hq
theorem sf_131 {q : Mem → Prop} {ws : List (Int × Int)} {as : List Int} {M0 M : Mem} {v : Int} (N : Nat) (h : St q ws as M0 M) (hm : (131 : Int) ∈ as) (hv : -2147483648 ≤ v ∧ v ≤ 2147483647) (hq : q (fil M 131 N v)) : St q ws as M0 (fil M 131 N v) := sw_131 (M := M) h hm rfl rfl rfl (fun y j hy => by rw [rd_fil, if_neg (fun c => hy c.1)]) (fun j => by rw [rd_fil]; split; exact hv; exact ar_131 h.1.2.1 j) hq
theorem ar_132 {M : Mem} (h : Iv M) (j : Int) : -9223372036854775808 ≤ rd M 132 j ∧ rd M 132 j ≤ 9223372036854775807 := h.2 (132, -9223372036854775808, 9223372036854775807) (List.mem_of_getElem? (i := 86) rfl) j
theorem sw_132 {q : Mem → Prop} {ws : List (Int × Int)} {as : List Int} {M0 M : Mem} {M2 : Mem} (h : St q ws as M0 M) (hm : (132 : Int) ∈ as) (hT : mT M2 = mT M) (hn : M2.1 = M.1) (hz : M2.2.1 = M.2.1) (ho : ∀ y i : Int, y ≠ 132 → rd M2 y i = rd M y i) (hv : ∀ i : Int, -9223372036854775808 ≤ rd M2 132 i ∧ rd M2 132 i ≤ 9223372036854775807) (hq : q M2) : St q ws as M0 M2 := St.wa 86 h (by decide) hm rfl (by decide +kernel) (by decide +kernel) (by decide +kernel) hT hn hz ho hv hq
theorem sa_132 {q : Mem → Prop} {ws : List (Int × Int)} {as : List Int} {M0 M : Mem} {i v : Int} (h : St q ws as M0 M) (hm : (132 : Int) ∈ as) (hv : -9223372036854775808 ≤ v ∧ v ≤ 9223372036854775807) (hq : q (wr M 132 i v)) : St q ws as M0 (wr M 132 i v) := sw_132 h hm rfl rfl rfl (fun y j hy => rd_wn M (fun c => hy c.1)) (fun j => by rw [rd_wr]; split; exact hv; exact ar_132 h.1.2.1 j) hq
theorem sf_132 {q : Mem → Prop} {ws : List (Int × Int)} {as : List Int} {M0 M : Mem} {v : Int} (N : Nat) (h : St q ws as M0 M) (hm : (132 : Int) ∈ as) (hv : -9223372036854775808 ≤ v ∧ v ≤ 9223372036854775807) (hq : q (fil M 132 N v)) : St q ws as M0 (fil M 132 N v) := sw_132 (M := M) h hm rfl rfl rfl (fun y j hy => by rw [rd_fil, if_neg (fun c => hy c.1)]) (fun j => by rw [rd_fil]; split; exact hv; exact ar_132 h.1.2.1 j) hq
theorem ar_133 {M : Mem} (h : Iv M) (j : Int) : -2147483648 ≤ rd M 133 j ∧ rd M 133 j ≤ 2147483647 := h.2 (133, -2147483648, 2147483647) (List.mem_of_getElem? (i := 87) rfl) j
theorem sw_133 {q : Mem → Prop} {ws : List (Int × Int)} {as : List Int} {M0 M : Mem} {M2 : Mem} (h : St q ws as M0 M) (hm : (133 : Int) ∈ as) (hT : mT M2 = mT M) (hn : M2.1 = M.1) (hz : M2.2.1 = M.2.1) (ho : ∀ y i : Int, y ≠ 133 → rd M2 y i = rd M y i) (hv : ∀ i : Int, -2147483648 ≤ rd M2 133 i ∧ rd M2 133 i ≤ 2147483647) (hq : q M2) : St q ws as M0 M2 := St.wa 87 h (by decide) hm rfl (by decide +kernel) (by decide +kernel) (by decide +kernel) hT hn hz ho hv hq
theorem sa_133 {q : Mem → Prop} {ws : List (Int × Int)} {as : List Int} {M0 M : Mem} {i v : Int} (h : St q ws as M0 M) (hm : (133 : Int) ∈ as) (hv : -2147483648 ≤ v ∧ v ≤ 2147483647) (hq : q (wr M 133 i v)) : St q ws as M0 (wr M 133 i v) := sw_133 h hm rfl rfl rfl (fun y j hy => rd_wn M (fun c => hy c.1)) (fun j => by rw [rd_wr]; split; exact hv; exact ar_133 h.1.2.1 j) hq
theorem sf_133 {q : Mem → Prop} {ws : List (Int × Int)} {as : List Int} {M0 M : Mem} {v : Int} (N : Nat) (h : St q ws as M0 M) (hm : (133 : Int) ∈ as) (hv : -2147483648 ≤ v ∧ v ≤ 2147483647) (hq : q (fil M 133 N v)) : St q ws as M0 (fil M 133 N v) := sw_133 (M := M) h hm rfl rfl rfl (fun y j hy => by rw [rd_fil, if_neg (fun c => hy c.1)]) (fun j => by rw [rd_fil]; split; exact hv; exact ar_133 h.1.2.1 j) hq
theorem ar_134 {M : Mem} (h : Iv M) (j : Int) : -2147483648 ≤ rd M 134 j ∧ rd M 134 j ≤ 2147483647 := h.2 (134, -2147483648, 2147483647) (List.mem_of_getElem? (i := 88) rfl) j
theorem sw_134 {q : Mem → Prop} {ws : List (Int × Int)} {as : List Int} {M0 M : Mem} {M2 : Mem} (h : St q ws as M0 M) (hm : (134 : Int) ∈ as) (hT : mT M2 = mT M) (hn : M2.1 = M.1) (hz : M2.2.1 = M.2.1) (ho : ∀ y i : Int, y ≠ 134 → rd M2 y i = rd M y i) (hv : ∀ i : Int, -2147483648 ≤ rd M2 134 i ∧ rd M2 134 i ≤ 2147483647) (hq : q M2) : St q ws as M0 M2 := St.wa 88 h (by decide) hm rfl (by decide +kernel) (by decide +kernel) (by decide +kernel) hT hn hz ho hv hq
theorem sa_134 {q : Mem → Prop} {ws : List (Int × Int)} {as : List Int} {M0 M : Mem} {i v : Int} (h : St q ws as M0 M) (hm : (134 : Int) ∈ as) (hv : -2147483648 ≤ v ∧ v ≤ 2147483647) (hq : q (wr M 134 i v)) : St q ws as M0 (wr M 134 i v) := sw_134 h hm rfl rfl rfl (fun y j hy => rd_wn M (fun c => hy c.1)) (fun j => by rw [rd_wr]; split; exact hv; exact ar_134 h.1.2.1 j) hq
theorem sf_134 {q : Mem → Prop} {ws : List (Int × Int)} {as : List Int} {M0 M : Mem} {v : Int} (N : Nat) (h : St q ws as M0 M) (hm : (134 : Int) ∈ as) (hv : -2147483648 ≤ v ∧ v ≤ 2147483647) (hq : q (fil M 134 N v)) : St q ws as M0 (fil M 134 N v) := sw_134 (M := M) h hm rfl rfl rfl (fun y j hy => by rw [rd_fil, if_neg (fun c => hy c.1)]) (fun j => by rw [rd_fil]; split; exact hv; exact ar_134 h.1.2.1 j) hq
theorem ar_135 {M : Mem} (h : Iv M) (j : Int) : -9223372036854775808 ≤ rd M 135 j ∧ rd M 135 j ≤ 9223372036854775807 := h.2 (135, -9223372036854775808, 9223372036854775807) (List.mem_of_getElem? (i := 89) rfl) j
theorem sw_135 {q : Mem → Prop} {ws : List (Int × Int)} {as : List Int} {M0 M : Mem} {M2 : Mem} (h : St q ws as M0 M) (hm : (135 : Int) ∈ as) (hT : mT M2 = mT M) (hn : M2.1 = M.1) (hz : M2.2.1 = M.2.1) (ho : ∀ y i : Int, y ≠ 135 → rd M2 y i = rd M y i) (hv : ∀ i : Int, -9223372036854775808 ≤ rd M2 135 i ∧ rd M2 135 i ≤ 9223372036854775807) (hq : q M2) : St q ws as M0 M2 := St.wa 89 h (by decide) hm rfl (by decide +kernel) (by decide +kernel) (by decide +kernel) hT hn hz ho hv hq
theorem sa_135 {q : Mem → Prop} {ws : List (Int × Int)} {as : List Int} {M0 M : Mem} {i v : Int} (h : St q ws as M0 M) (hm : (135 : Int) ∈ as) (hv : -9223372036854775808 ≤ v ∧ v ≤ 9223372036854775807) (hq : q (wr M 135 i v)) : St q ws as M0 (wr M 135 i v) := sw_135 h hm rfl rfl rfl (fun y j hy => rd_wn M (fun c => hy c.1)) (fun j => by rw [rd_wr]; split; exact hv; exact ar_135 h.1.2.1 j) hq
theorem sf_135 {q : Mem → Prop} {ws : List (Int × Int)} {as : List Int} {M0 M : Mem} {v : Int} (N : Nat) (h : St q ws as M0 M) (hm : (135 : Int) ∈ as) (hv : -9223372036854775808 ≤ v ∧ v ≤ 9223372036854775807) (hq : q (fil M 135 N v)) : St q ws as M0 (fil M 135 N v) := sw_135 (M := M) h hm rfl rfl rfl (fun y j hy => by rw [rd_fil, if_neg (fun c => hy c.1)]) (fun j => by rw [rd_fil]; split; exact hv; exact ar_135 h.1.2.1 j) hq
theorem ar_137 {M : Mem} (h : Iv M) (j : Int) : 0 ≤ rd M 137 j ∧ rd M 137 j ≤ 8 := h.2 (137, 0, 8) (List.mem_of_getElem? (i := 90) rfl) j
theorem sw_137 {q : Mem → Prop} {ws : List (Int × Int)} {as : List Int} {M0 M : Mem} {M2 : Mem} (h : St q ws as M0 M) (hm : (137 : Int) ∈ as) (hT : mT M2 = mT M) (hn : M2.1 = M.1) (hz : M2.2.1 = M.2.1) (ho : ∀ y i : Int, y ≠ 137 → rd M2 y i = rd M y i) (hv : ∀ i : Int, 0 ≤ rd M2 137 i ∧ rd M2 137 i ≤ 8) (hq : q M2) : St q ws as M0 M2 := St.wa 90 h (by decide) hm rfl (by decide +kernel) (by decide +kernel) (by decide +kernel) hT hn hz ho hv hq
theorem sa_137 {q : Mem → Prop} {ws : List (Int × Int)} {as : List Int} {M0 M : Mem} {i v : Int} (h : St q ws as M0 M) (hm : (137 : Int) ∈ as) (hv : 0 ≤ v ∧ v ≤ 8) (hq : q (wr M 137 i v)) : St q ws as M0 (wr M 137 i v) := sw_137 h hm rfl rfl rfl (fun y j hy => rd_wn M (fun c => hy c.1)) (fun j => by rw [rd_wr]; split; exact hv; exact ar_137 h.1.2.1 j) hq
theorem sf_137 {q : Mem → Prop} {ws : List (Int × Int)} {as : List Int} {M0 M : Mem} {v : Int} (N : Nat) (h : St q ws as M0 M) (hm : (137 : Int) ∈ as) (hv : 0 ≤ v ∧ v ≤ 8) (hq : q (fil M 137 N v)) : St q ws as M0 (fil M 137 N v) := sw_137 (M := M) h hm rfl rfl rfl (fun y j hy => by rw [rd_fil, if_neg (fun c => hy c.1)]) (fun j => by rw [rd_fil]; split; exact hv; exact ar_137 h.1.2.1 j) hq
theorem ar_138 {M : Mem} (h : Iv M) (j : Int) : -1 ≤ rd M 138 j ∧ rd M 138 j ≤ 59 := h.2 (138, -1, 59) (List.mem_of_getElem? (i := 91) rfl) j
theorem sw_138 {q : Mem → Prop} {ws : List (Int × Int)} {as : List Int} {M0 M : Mem} {M2 : Mem} (h : St q ws as M0 M) (hm : (138 : Int) ∈ as) (hT : mT M2 = mT M) (hn : M2.1 = M.1) (hz : M2.2.1 = M.2.1) (ho : ∀ y i : Int, y ≠ 138 → rd M2 y i = rd M y i) (hv : ∀ i : Int, -1 ≤ rd M2 138 i ∧ rd M2 138 i ≤ 59) (hq : q M2) : St q ws as M0 M2 := St.wa 91 h (by decide) hm rfl (by decide +kernel) (by decide +kernel) (by decide +kernel) hT hn hz ho hv hq
theorem sa_138 {q : Mem → Prop} {ws : List (Int × Int)} {as : List Int} {M0 M : Mem} {i v : Int} (h : St q ws as M0 M) (hm : (138 : Int) ∈ as) (hv : -1 ≤ v ∧ v ≤ 59) (hq : q (wr M 138 i v)) : St q ws as M0 (wr M 138 i v) := sw_138 h hm rfl rfl rfl (fun y j hy => rd_wn M (fun c => hy c.1)) (fun j => by rw [rd_wr]; split; exact hv; exact ar_138 h.1.2.1 j) hq
theorem sf_138 {q : Mem → Prop} {ws : List (Int × Int)} {as : List Int} {M0 M : Mem} {v : Int} (N : Nat) (h : St q ws as M0 M) (hm : (138 : Int) ∈ as) (hv : -1 ≤ v ∧ v ≤ 59) (hq : q (fil M 138 N v)) : St q ws as M0 (fil M 138 N v) := sw_138 (M := M) h hm rfl rfl rfl (fun y j hy => by rw [rd_fil, if_neg (fun c => hy c.1)]) (fun j => by rw [rd_fil]; split; exact hv; exact ar_138 h.1.2.1 j) hq
theorem ar_139 {M : Mem} (h : Iv M) (j : Int) : -1 ≤ rd M 139 j ∧ rd M 139 j ≤ 5 := h.2 (139, -1, 5) (List.mem_of_getElem? (i := 92) rfl) j
theorem sw_139 {q : Mem → Prop} {ws : List (Int × Int)} {as : List Int} {M0 M : Mem} {M2 : Mem} (h : St q ws as M0 M) (hm : (139 : Int) ∈ as) (hT : mT M2 = mT M) (hn : M2.1 = M.1) (hz : M2.2.1 = M.2.1) (ho : ∀ y i : Int, y ≠ 139 → rd M2 y i = rd M y i) (hv : ∀ i : Int, -1 ≤ rd M2 139 i ∧ rd M2 139 i ≤ 5) (hq : q M2) : St q ws as M0 M2 := St.wa 92 h (by decide) hm rfl (by decide +kernel) (by decide +kernel) (by decide +kernel) hT hn hz ho hv hq
theorem sa_139 {q : Mem → Prop} {ws : List (Int × Int)} {as : List Int} {M0 M : Mem} {i v : Int} (h : St q ws as M0 M) (hm : (139 : Int) ∈ as) (hv : -1 ≤ v ∧ v ≤ 5) (hq : q (wr M 139 i v)) : St q ws as M0 (wr M 139 i v) := sw_139 h hm rfl rfl rfl (fun y j hy => rd_wn M (fun c => hy c.1)) (fun j => by rw [rd_wr]; split; exact hv; exact ar_139 h.1.2.1 j) hq
theorem sf_139 {q : Mem → Prop} {ws : List (Int × Int)} {as : List Int} {M0 M : Mem} {v : Int} (N : Nat) (h : St q ws as M0 M) (hm : (139 : Int) ∈ as) (hv : -1 ≤ v ∧ v ≤ 5) (hq : q (fil M 139 N v)) : St q ws as M0 (fil M 139 N v) := sw_139 (M := M) h hm rfl rfl rfl (fun y j hy => by rw [rd_fil, if_neg (fun c => hy c.1)]) (fun j => by rw [rd_fil]; split; exact hv; exact ar_139 h.1.2.1 j) hq
theorem ar_140 {M : Mem} (h : Iv M) (j : Int) : 0 ≤ rd M 140 j ∧ rd M 140 j ≤ 900 := h.2 (140, 0, 900) (List.mem_of_getElem? (i := 93) rfl) j
theorem sw_140 {q : Mem → Prop} {ws : List (Int × Int)} {as : List Int} {M0 M : Mem} {M2 : Mem} (h : St q ws as M0 M) (hm : (140 : Int) ∈ as) (hT : mT M2 = mT M) (hn : M2.1 = M.1) (hz : M2.2.1 = M.2.1) (ho : ∀ y i : Int, y ≠ 140 → rd M2 y i = rd M y i) (hv : ∀ i : Int, 0 ≤ rd M2 140 i ∧ rd M2 140 i ≤ 900) (hq : q M2) : St q ws as M0 M2 := St.wa 93 h (by decide) hm rfl (by decide +kernel) (by decide +kernel) (by decide +kernel) hT hn hz ho hv hq
theorem sa_140 {q : Mem → Prop} {ws : List (Int × Int)} {as : List Int} {M0 M : Mem} {i v : Int} (h : St q ws as M0 M) (hm : (140 : Int) ∈ as) (hv : 0 ≤ v ∧ v ≤ 900) (hq : q (wr M 140 i v)) : St q ws as M0 (wr M 140 i v) := sw_140 h hm rfl rfl rfl (fun y j hy => rd_wn M (fun c => hy c.1)) (fun j => by rw [rd_wr]; split; exact hv; exact ar_140 h.1.2.1 j) hq
theorem sf_140 {q : Mem → Prop} {ws : List (Int × Int)} {as : List Int} {M0 M : Mem} {v : Int} (N : Nat) (h : St q ws as M0 M) (hm : (140 : Int) ∈ as) (hv : 0 ≤ v ∧ v ≤ 900) (hq : q (fil M 140 N v)) : St q ws as M0 (fil M 140 N v) := sw_140 (M := M) h hm rfl rfl rfl (fun y j hy => by rw [rd_fil, if_neg (fun c => hy c.1)]) (fun j => by rw [rd_fil]; split; exact hv; exact ar_140 h.1.2.1 j) hq
theorem ar_141 {M : Mem} (h : Iv M) (j : Int) : 0 ≤ rd M 141 j ∧ rd M 141 j ≤ 900 := h.2 (141, 0, 900) (List.mem_of_getElem? (i := 94) rfl) j
theorem sw_141 {q : Mem → Prop} {ws : List (Int × Int)} {as : List Int} {M0 M : Mem} {M2 : Mem} (h : St q ws as M0 M) (hm : (141 : Int) ∈ as) (hT : mT M2 = mT M) (hn : M2.1 = M.1) (hz : M2.2.1 = M.2.1) (ho : ∀ y i : Int, y ≠ 141 → rd M2 y i = rd M y i) (hv : ∀ i : Int, 0 ≤ rd M2 141 i ∧ rd M2 141 i ≤ 900) (hq : q M2) : St q ws as M0 M2 := St.wa 94 h (by decide) hm rfl (by decide +kernel) (by decide +kernel) (by decide +kernel) hT hn hz ho hv hq
theorem sa_141 {q : Mem → Prop} {ws : List (Int × Int)} {as : List Int} {M0 M : Mem} {i v : Int} (h : St q ws as M0 M) (hm : (141 : Int) ∈ as) (hv : 0 ≤ v ∧ v ≤ 900) (hq : q (wr M 141 i v)) : St q ws as M0 (wr M 141 i v) := sw_141 h hm rfl rfl rfl (fun y j hy => rd_wn M (fun c => hy c.1)) (fun j => by rw [rd_wr]; split; exact hv; exact ar_141 h.1.2.1 j) hq
theorem sf_141 {q : Mem → Prop} {ws : List (Int × Int)} {as : List Int} {M0 M : Mem} {v : Int} (N : Nat) (h : St q ws as M0 M) (hm : (141 : Int) ∈ as) (hv : 0 ≤ v ∧ v ≤ 900) (hq : q (fil M 141 N v)) : St q ws as M0 (fil M 141 N v) := sw_141 (M := M) h hm rfl rfl rfl (fun y j hy => by rw [rd_fil, if_neg (fun c => hy c.1)]) (fun j => by rw [rd_fil]; split; exact hv; exact ar_141 h.1.2.1 j) hq
theorem ar_142 {M : Mem} (h : Iv M) (j : Int) : 0 ≤ rd M 142 j ∧ rd M 142 j ≤ 200 := h.2 (142, 0, 200) (List.mem_of_getElem? (i := 95) rfl) j
theorem sw_142 {q : Mem → Prop} {ws : List (Int × Int)} {as : List Int} {M0 M : Mem} {M2 : Mem} (h : St q ws as M0 M) (hm : (142 : Int) ∈ as) (hT : mT M2 = mT M) (hn : M2.1 = M.1) (hz : M2.2.1 = M.2.1) (ho : ∀ y i : Int, y ≠ 142 → rd M2 y i = rd M y i) (hv : ∀ i : Int, 0 ≤ rd M2 142 i ∧ rd M2 142 i ≤ 200) (hq : q M2) : St q ws as M0 M2 := St.wa 95 h (by decide) hm rfl (by decide +kernel) (by decide +kernel) (by decide +kernel) hT hn hz ho hv hq
theorem sa_142 {q : Mem → Prop} {ws : List (Int × Int)} {as : List Int} {M0 M : Mem} {i v : Int} (h : St q ws as M0 M) (hm : (142 : Int) ∈ as) (hv : 0 ≤ v ∧ v ≤ 200) (hq : q (wr M 142 i v)) : St q ws as M0 (wr M 142 i v) := sw_142 h hm rfl rfl rfl (fun y j hy => rd_wn M (fun c => hy c.1)) (fun j => by rw [rd_wr]; split; exact hv; exact ar_142 h.1.2.1 j) hq
theorem sf_142 {q : Mem → Prop} {ws : List (Int × Int)} {as : List Int} {M0 M : Mem} {v : Int} (N : Nat) (h : St q ws as M0 M) (hm : (142 : Int) ∈ as) (hv : 0 ≤ v ∧ v ≤ 200) (hq : q (fil M 142 N v)) : St q ws as M0 (fil M 142 N v) := sw_142 (M := M) h hm rfl rfl rfl (fun y j hy => by rw [rd_fil, if_neg (fun c => hy c.1)]) (fun j => by rw [rd_fil]; split; exact hv; exact ar_142 h.1.2.1 j) hq
theorem ar_143 {M : Mem} (h : Iv M) (j : Int) : -2147483648 ≤ rd M 143 j ∧ rd M 143 j ≤ 2147483647 := h.2 (143, -2147483648, 2147483647) (List.mem_of_getElem? (i := 96) rfl) j
theorem swX_143 {q : Mem → Prop} {ws : List (Int × Int)} {as : List Int} {M0 M : Mem} {M2 : Mem} (h : St q ws as M0 M) (hm : (143 : Int) ∈ as) (hT : mT M2 = mT M) (hn : M2.1 = M.1) (ho : ∀ y i : Int, y ≠ 143 → rd M2 y i = rd M y i) (hv : ∀ i : Int, -2147483648 ≤ rd M2 143 i ∧ rd M2 143 i ≤ 2147483647) (hx : Xp q M2) : St q ws as M0 M2 := St.waX 96 h (by decide) hm rfl (by decide +kernel) (by decide +kernel) (by decide +kernel) hT hn ho hv hx
theorem saX_143 {q : Mem → Prop} {ws : List (Int × Int)} {as : List Int} {M0 M : Mem} {i v : Int} (h : St q ws as M0 M) (hm : (143 : Int) ∈ as) (hv : -2147483648 ≤ v ∧ v ≤ 2147483647) (hx : Xp q (wr M 143 i v)) : St q ws as M0 (wr M 143 i v) := swX_143 h hm rfl rfl (fun y j hy => rd_wn M (fun c => hy c.1)) (fun j => by rw [rd_wr]; split; exact hv; exact ar_143 h.1.2.1 j) hx
theorem ar_144 {M : Mem} (h : Iv M) (j : Int) : -2147483648 ≤ rd M 144 j ∧ rd M 144 j ≤ 2147483647 := h.2 (144, -2147483648, 2147483647) (List.mem_of_getElem? (i := 97) rfl) j
theorem swX_144 {q : Mem → Prop} {ws : List (Int × Int)} {as : List Int} {M0 M : Mem} {M2 : Mem} (h : St q ws as M0 M) (hm : (144 : Int) ∈ as) (hT : mT M2 = mT M) (hn : M2.1 = M.1) (ho : ∀ y i : Int, y ≠ 144 → rd M2 y i = rd M y i) (hv : ∀ i : Int, -2147483648 ≤ rd M2 144 i ∧ rd M2 144 i ≤ 2147483647) (hx : Xp q M2) : St q ws as M0 M2 := St.waX 97 h (by decide) hm rfl (by decide +kernel) (by decide +kernel) (by decide +kernel) hT hn ho hv hx
theorem saX_144 {q : Mem → Prop} {ws : List (Int × Int)} {as : List Int} {M0 M : Mem} {i v : Int} (h : St q ws as M0 M) (hm : (144 : Int) ∈ as) (hv : -2147483648 ≤ v ∧ v ≤ 2147483647) (hx : Xp q (wr M 144 i v)) : St q ws as M0 (wr M 144 i v) := swX_144 h hm rfl rfl (fun y j hy => rd_wn M (fun c => hy c.1)) (fun j => by rw [rd_wr]; split; exact hv; exact ar_144 h.1.2.1 j) hx
theorem ar_145 {M : Mem} (h : Iv M) (j : Int) : 0 ≤ rd M 145 j ∧ rd M 145 j ≤ 5 := h.2 (145, 0, 5) (List.mem_of_getElem? (i := 98) rfl) j
theorem sw_145 {q : Mem → Prop} {ws : List (Int × Int)} {as : List Int} {M0 M : Mem} {M2 : Mem} (h : St q ws as M0 M) (hm : (145 : Int) ∈ as) (hT : mT M2 = mT M) (hn : M2.1 = M.1) (hz : M2.2.1 = M.2.1) (ho : ∀ y i : Int, y ≠ 145 → rd M2 y i = rd M y i) (hv : ∀ i : Int, 0 ≤ rd M2 145 i ∧ rd M2 145 i ≤ 5) (hq : q M2) : St q ws as M0 M2 := St.wa 98 h (by decide) hm rfl (by decide +kernel) (by decide +kernel) (by decide +kernel) hT hn hz ho hv hq
theorem sa_145 {q : Mem → Prop} {ws : List (Int × Int)} {as : List Int} {M0 M : Mem} {i v : Int} (h : St q ws as M0 M) (hm : (145 : Int) ∈ as) (hv : 0 ≤ v ∧ v ≤ 5) (hq : q (wr M 145 i v)) : St q ws as M0 (wr M 145 i v) := sw_145 h hm rfl rfl rfl (fun y j hy => rd_wn M (fun c => hy c.1)) (fun j => by rw [rd_wr]; split; exact hv; exact ar_145 h.1.2.1 j) hq
theorem sf_145 {q : Mem → Prop} {ws : List (Int × Int)} {as : List Int} {M0 M : Mem} {v : Int} (N : Nat) (h : St q ws as M0 M) (hm : (145 : Int) ∈ as) (hv : 0 ≤ v ∧ v ≤ 5) (hq : q (fil M 145 N v)) : St q ws as M0 (fil M 145 N v) := sw_145 (M := M) h hm rfl rfl rfl (fun y j hy => by rw [rd_fil, if_neg (fun c => hy c.1)]) (fun j => by rw [rd_fil]; split; exact hv; exact ar_145 h.1.2.1 j) hq
theorem ar_146 {M : Mem} (h : Iv M) (j : Int) : 0 ≤ rd M 146 j ∧ rd M 146 j ≤ 2 := h.2 (146, 0, 2) (List.mem_of_getElem? (i := 99) rfl) j
theorem sw_146 {q : Mem → Prop} {ws : List (Int × Int)} {as : List Int} {M0 M : Mem} {M2 : Mem} (h : St q ws as M0 M) (hm : (146 : Int) ∈ as) (hT : mT M2 = mT M) (hn : M2.1 = M.1) (hz : M2.2.1 = M.2.1) (ho : ∀ y i : Int, y ≠ 146 → rd M2 y i = rd M y i) (hv : ∀ i : Int, 0 ≤ rd M2 146 i ∧ rd M2 146 i ≤ 2) (hq : q M2) : St q ws as M0 M2 := St.wa 99 h (by decide) hm rfl (by decide +kernel) (by decide +kernel) (by decide +kernel) hT hn hz ho hv hq
theorem sa_146 {q : Mem → Prop} {ws : List (Int × Int)} {as : List Int} {M0 M : Mem} {i v : Int} (h : St q ws as M0 M) (hm : (146 : Int) ∈ as) (hv : 0 ≤ v ∧ v ≤ 2) (hq : q (wr M 146 i v)) : St q ws as M0 (wr M 146 i v) := sw_146 h hm rfl rfl rfl (fun y j hy => rd_wn M (fun c => hy c.1)) (fun j => by rw [rd_wr]; split; exact hv; exact ar_146 h.1.2.1 j) hq
theorem sf_146 {q : Mem → Prop} {ws : List (Int × Int)} {as : List Int} {M0 M : Mem} {v : Int} (N : Nat) (h : St q ws as M0 M) (hm : (146 : Int) ∈ as) (hv : 0 ≤ v ∧ v ≤ 2) (hq : q (fil M 146 N v)) : St q ws as M0 (fil M 146 N v) := sw_146 (M := M) h hm rfl rfl rfl (fun y j hy => by rw [rd_fil, if_neg (fun c => hy c.1)]) (fun j => by rw [rd_fil]; split; exact hv; exact ar_146 h.1.2.1 j) hq
theorem ar_147 {M : Mem} (h : Iv M) (j : Int) : 0 ≤ rd M 147 j ∧ rd M 147 j ≤ 1 := h.2 (147, 0, 1) (List.mem_of_getElem? (i := 100) rfl) j
theorem sw_147 {q : Mem → Prop} {ws : List (Int × Int)} {as : List Int} {M0 M : Mem} {M2 : Mem} (h : St q ws as M0 M) (hm : (147 : Int) ∈ as) (hT : mT M2 = mT M) (hn : M2.1 = M.1) (hz : M2.2.1 = M.2.1) (ho : ∀ y i : Int, y ≠ 147 → rd M2 y i = rd M y i) (hv : ∀ i : Int, 0 ≤ rd M2 147 i ∧ rd M2 147 i ≤ 1) (hq : q M2) : St q ws as M0 M2 := St.wa 100 h (by decide) hm rfl (by decide +kernel) (by decide +kernel) (by decide +kernel) hT hn hz ho hv hq
theorem sa_147 {q : Mem → Prop} {ws : List (Int × Int)} {as : List Int} {M0 M : Mem} {i v : Int} (h : St q ws as M0 M) (hm : (147 : Int) ∈ as) (hv : 0 ≤ v ∧ v ≤ 1) (hq : q (wr M 147 i v)) : St q ws as M0 (wr M 147 i v) := sw_147 h hm rfl rfl rfl (fun y j hy => rd_wn M (fun c => hy c.1)) (fun j => by rw [rd_wr]; split; exact hv; exact ar_147 h.1.2.1 j) hq
theorem sf_147 {q : Mem → Prop} {ws : List (Int × Int)} {as : List Int} {M0 M : Mem} {v : Int} (N : Nat) (h : St q ws as M0 M) (hm : (147 : Int) ∈ as) (hv : 0 ≤ v ∧ v ≤ 1) (hq : q (fil M 147 N v)) : St q ws as M0 (fil M 147 N v) := sw_147 (M := M) h hm rfl rfl rfl (fun y j hy => by rw [rd_fil, if_neg (fun c => hy c.1)]) (fun j => by rw [rd_fil]; split; exact hv; exact ar_147 h.1.2.1 j) hq
theorem ar_148 {M : Mem} (h : Iv M) (j : Int) : 0 ≤ rd M 148 j ∧ rd M 148 j ≤ 18 := h.2 (148, 0, 18) (List.mem_of_getElem? (i := 101) rfl) j
theorem sw_148 {q : Mem → Prop} {ws : List (Int × Int)} {as : List Int} {M0 M : Mem} {M2 : Mem} (h : St q ws as M0 M) (hm : (148 : Int) ∈ as) (hT : mT M2 = mT M) (hn : M2.1 = M.1) (hz : M2.2.1 = M.2.1) (ho : ∀ y i : Int, y ≠ 148 → rd M2 y i = rd M y i) (hv : ∀ i : Int, 0 ≤ rd M2 148 i ∧ rd M2 148 i ≤ 18) (hq : q M2) : St q ws as M0 M2 := St.wa 101 h (by decide) hm rfl (by decide +kernel) (by decide +kernel) (by decide +kernel) hT hn hz ho hv hq
theorem sa_148 {q : Mem → Prop} {ws : List (Int × Int)} {as : List Int} {M0 M : Mem} {i v : Int} (h : St q ws as M0 M) (hm : (148 : Int) ∈ as) (hv : 0 ≤ v ∧ v ≤ 18) (hq : q (wr M 148 i v)) : St q ws as M0 (wr M 148 i v) := sw_148 h hm rfl rfl rfl (fun y j hy => rd_wn M (fun c => hy c.1)) (fun j => by rw [rd_wr]; split; exact hv; exact ar_148 h.1.2.1 j) hq
theorem sf_148 {q : Mem → Prop} {ws : List (Int × Int)} {as : List Int} {M0 M : Mem} {v : Int} (N : Nat) (h : St q ws as M0 M) (hm : (148 : Int) ∈ as) (hv : 0 ≤ v ∧ v ≤ 18) (hq : q (fil M 148 N v)) : St q ws as M0 (fil M 148 N v) := sw_148 (M := M) h hm rfl rfl rfl (fun y j hy => by rw [rd_fil, if_neg (fun c => hy c.1)]) (fun j => by rw [rd_fil]; split; exact hv; exact ar_148 h.1.2.1 j) hq
theorem ar_149 {M : Mem} (h : Iv M) (j : Int) : 0 ≤ rd M 149 j ∧ rd M 149 j ≤ 500 := h.2 (149, 0, 500) (List.mem_of_getElem? (i := 102) rfl) j
theorem sw_149 {q : Mem → Prop} {ws : List (Int × Int)} {as : List Int} {M0 M : Mem} {M2 : Mem} (h : St q ws as M0 M) (hm : (149 : Int) ∈ as) (hT : mT M2 = mT M) (hn : M2.1 = M.1) (hz : M2.2.1 = M.2.1) (ho : ∀ y i : Int, y ≠ 149 → rd M2 y i = rd M y i) (hv : ∀ i : Int, 0 ≤ rd M2 149 i ∧ rd M2 149 i ≤ 500) (hq : q M2) : St q ws as M0 M2 := St.wa 102 h (by decide) hm rfl (by decide +kernel) (by decide +kernel) (by decide +kernel) hT hn hz ho hv hq
theorem sa_149 {q : Mem → Prop} {ws : List (Int × Int)} {as : List Int} {M0 M : Mem} {i v : Int} (h : St q ws as M0 M) (hm : (149 : Int) ∈ as) (hv : 0 ≤ v ∧ v ≤ 500) (hq : q (wr M 149 i v)) : St q ws as M0 (wr M 149 i v) := sw_149 h hm rfl rfl rfl (fun y j hy => rd_wn M (fun c => hy c.1)) (fun j => by rw [rd_wr]; split; exact hv; exact ar_149 h.1.2.1 j) hq
theorem sf_149 {q : Mem → Prop} {ws : List (Int × Int)} {as : List Int} {M0 M : Mem} {v : Int} (N : Nat) (h : St q ws as M0 M) (hm : (149 : Int) ∈ as) (hv : 0 ≤ v ∧ v ≤ 500) (hq : q (fil M 149 N v)) : St q ws as M0 (fil M 149 N v) := sw_149 (M := M) h hm rfl rfl rfl (fun y j hy => by rw [rd_fil, if_neg (fun c => hy c.1)]) (fun j => by rw [rd_fil]; split; exact hv; exact ar_149 h.1.2.1 j) hq
theorem ar_150 {M : Mem} (h : Iv M) (j : Int) : 0 ≤ rd M 150 j ∧ rd M 150 j ≤ 18 := h.2 (150, 0, 18) (List.mem_of_getElem? (i := 103) rfl) j
theorem sw_150 {q : Mem → Prop} {ws : List (Int × Int)} {as : List Int} {M0 M : Mem} {M2 : Mem} (h : St q ws as M0 M) (hm : (150 : Int) ∈ as) (hT : mT M2 = mT M) (hn : M2.1 = M.1) (hz : M2.2.1 = M.2.1) (ho : ∀ y i : Int, y ≠ 150 → rd M2 y i = rd M y i) (hv : ∀ i : Int, 0 ≤ rd M2 150 i ∧ rd M2 150 i ≤ 18) (hq : q M2) : St q ws as M0 M2 := St.wa 103 h (by decide) hm rfl (by decide +kernel) (by decide +kernel) (by decide +kernel) hT hn hz ho hv hq
theorem sa_150 {q : Mem → Prop} {ws : List (Int × Int)} {as : List Int} {M0 M : Mem} {i v : Int} (h : St q ws as M0 M) (hm : (150 : Int) ∈ as) (hv : 0 ≤ v ∧ v ≤ 18) (hq : q (wr M 150 i v)) : St q ws as M0 (wr M 150 i v) := sw_150 h hm rfl rfl rfl (fun y j hy => rd_wn M (fun c => hy c.1)) (fun j => by rw [rd_wr]; split; exact hv; exact ar_150 h.1.2.1 j) hq
theorem sf_150 {q : Mem → Prop} {ws : List (Int × Int)} {as : List Int} {M0 M : Mem} {v : Int} (N : Nat) (h : St q ws as M0 M) (hm : (150 : Int) ∈ as) (hv : 0 ≤ v ∧ v ≤ 18) (hq : q (fil M 150 N v)) : St q ws as M0 (fil M 150 N v) := sw_150 (M := M) h hm rfl rfl rfl (fun y j hy => by rw [rd_fil, if_neg (fun c => hy c.1)]) (fun j => by rw [rd_fil]; split; exact hv; exact ar_150 h.1.2.1 j) hq
theorem ar_151 {M : Mem} (h : Iv M) (j : Int) : 0 ≤ rd M 151 j ∧ rd M 151 j ≤ 2 := h.2 (151, 0, 2) (List.mem_of_getElem? (i := 104) rfl) j
theorem sw_151 {q : Mem → Prop} {ws : List (Int × Int)} {as : List Int} {M0 M : Mem} {M2 : Mem} (h : St q ws as M0 M) (hm : (151 : Int) ∈ as) (hT : mT M2 = mT M) (hn : M2.1 = M.1) (hz : M2.2.1 = M.2.1) (ho : ∀ y i : Int, y ≠ 151 → rd M2 y i = rd M y i) (hv : ∀ i : Int, 0 ≤ rd M2 151 i ∧ rd M2 151 i ≤ 2) (hq : q M2) : St q ws as M0 M2 := St.wa 104 h (by decide) hm rfl (by decide +kernel) (by decide +kernel) (by decide +kernel) hT hn hz ho hv hq
theorem sa_151 {q : Mem → Prop} {ws : List (Int × Int)} {as : List Int} {M0 M : Mem} {i v : Int} (h : St q ws as M0 M) (hm : (151 : Int) ∈ as) (hv : 0 ≤ v ∧ v ≤ 2) (hq : q (wr M 151 i v)) : St q ws as M0 (wr M 151 i v) := sw_151 h hm rfl rfl rfl (fun y j hy => rd_wn M (fun c => hy c.1)) (fun j => by rw [rd_wr]; split; exact hv; exact ar_151 h.1.2.1 j) hq
theorem sf_151 {q : Mem → Prop} {ws : List (Int × Int)} {as : List Int} {M0 M : Mem} {v : Int} (N : Nat) (h : St q ws as M0 M) (hm : (151 : Int) ∈ as) (hv : 0 ≤ v ∧ v ≤ 2) (hq : q (fil M 151 N v)) : St q ws as M0 (fil M 151 N v) := sw_151 (M := M) h hm rfl rfl rfl (fun y j hy => by rw [rd_fil, if_neg (fun c => hy c.1)]) (fun j => by rw [rd_fil]; split; exact hv; exact ar_151 h.1.2.1 j) hq
theorem ar_152 {M : Mem} (h : Iv M) (j : Int) : 0 ≤ rd M 152 j ∧ rd M 152 j ≤ 399 := h.2 (152, 0, 399) (List.mem_of_getElem? (i := 105) rfl) j
theorem sw_152 {q : Mem → Prop} {ws : List (Int × Int)} {as : List Int} {M0 M : Mem} {M2 : Mem} (h : St q ws as M0 M) (hm : (152 : Int) ∈ as) (hT : mT M2 = mT M) (hn : M2.1 = M.1) (hz : M2.2.1 = M.2.1) (ho : ∀ y i : Int, y ≠ 152 → rd M2 y i = rd M y i) (hv : ∀ i : Int, 0 ≤ rd M2 152 i ∧ rd M2 152 i ≤ 399) (hq : q M2) : St q ws as M0 M2 := St.wa 105 h (by decide) hm rfl (by decide +kernel) (by decide +kernel) (by decide +kernel) hT hn hz ho hv hq
theorem sa_152 {q : Mem → Prop} {ws : List (Int × Int)} {as : List Int} {M0 M : Mem} {i v : Int} (h : St q ws as M0 M) (hm : (152 : Int) ∈ as) (hv : 0 ≤ v ∧ v ≤ 399) (hq : q (wr M 152 i v)) : St q ws as M0 (wr M 152 i v) := sw_152 h hm rfl rfl rfl (fun y j hy => rd_wn M (fun c => hy c.1)) (fun j => by rw [rd_wr]; split; exact hv; exact ar_152 h.1.2.1 j) hq
theorem sf_152 {q : Mem → Prop} {ws : List (Int × Int)} {as : List Int} {M0 M : Mem} {v : Int} (N : Nat) (h : St q ws as M0 M) (hm : (152 : Int) ∈ as) (hv : 0 ≤ v ∧ v ≤ 399) (hq : q (fil M 152 N v)) : St q ws as M0 (fil M 152 N v) := sw_152 (M := M) h hm rfl rfl rfl (fun y j hy => by rw [rd_fil, if_neg (fun c => hy c.1)]) (fun j => by rw [rd_fil]; split; exact hv; exact ar_152 h.1.2.1 j) hq
theorem ar_153 {M : Mem} (h : Iv M) (j : Int) : -2147483648 ≤ rd M 153 j ∧ rd M 153 j ≤ 2147483647 := h.2 (153, -2147483648, 2147483647) (List.mem_of_getElem? (i := 106) rfl) j
theorem sw_153 {q : Mem → Prop} {ws : List (Int × Int)} {as : List Int} {M0 M : Mem} {M2 : Mem} (h : St q ws as M0 M) (hm : (153 : Int) ∈ as) (hT : mT M2 = mT M) (hn : M2.1 = M.1) (hz : M2.2.1 = M.2.1) (ho : ∀ y i : Int, y ≠ 153 → rd M2 y i = rd M y i) (hv : ∀ i : Int, -2147483648 ≤ rd M2 153 i ∧ rd M2 153 i ≤ 2147483647) (hq : q M2) : St q ws as M0 M2 := St.wa 106 h (by decide) hm rfl (by decide +kernel) (by decide +kernel) (by decide +kernel) hT hn hz ho hv hq
theorem sa_153 {q : Mem → Prop} {ws : List (Int × Int)} {as : List Int} {M0 M : Mem} {i v : Int} (h : St q ws as M0 M) (hm : (153 : Int) ∈ as) (hv : -2147483648 ≤ v ∧ v ≤ 2147483647) (hq : q (wr M 153 i v)) : St q ws as M0 (wr M 153 i v) := sw_153 h hm rfl rfl rfl (fun y j hy => rd_wn M (fun c => hy c.1)) (fun j => by rw [rd_wr]; split; exact hv; exact ar_153 h.1.2.1 j) hq
theorem sf_153 {q : Mem → Prop} {ws : List (Int × Int)} {as : List Int} {M0 M : Mem} {v : Int} (N : Nat) (h : St q ws as M0 M) (hm : (153 : Int) ∈ as) (hv : -2147483648 ≤ v ∧ v ≤ 2147483647) (hq : q (fil M 153 N v)) : St q ws as M0 (fil M 153 N v) := sw_153 (M := M) h hm rfl rfl rfl (fun y j hy => by rw [rd_fil, if_neg (fun c => hy c.1)]) (fun j => by rw [rd_fil]; split; exact hv; exact ar_153 h.1.2.1 j) hq
theorem ar_154 {M : Mem} (h : Iv M) (j : Int) : -2147483648 ≤ rd M 154 j ∧ rd M 154 j ≤ 2147483647 := h.2 (154, -2147483648, 2147483647) (List.mem_of_getElem? (i := 107) rfl) j
theorem sw_154 {q : Mem → Prop} {ws : List (Int × Int)} {as : List Int} {M0 M : Mem} {M2 : Mem} (h : St q ws as M0 M) (hm : (154 : Int) ∈ as) (hT : mT M2 = mT M) (hn : M2.1 = M.1) (hz : M2.2.1 = M.2.1) (ho : ∀ y i : Int, y ≠ 154 → rd M2 y i = rd M y i) (hv : ∀ i : Int, -2147483648 ≤ rd M2 154 i ∧ rd M2 154 i ≤ 2147483647) (hq : q M2) : St q ws as M0 M2 := St.wa 107 h (by decide) hm rfl (by decide +kernel) (by decide +kernel) (by decide +kernel) hT hn hz ho hv hq
theorem sa_154 {q : Mem → Prop} {ws : List (Int × Int)} {as : List Int} {M0 M : Mem} {i v : Int} (h : St q ws as M0 M) (hm : (154 : Int) ∈ as) (hv : -2147483648 ≤ v ∧ v ≤ 2147483647) (hq : q (wr M 154 i v)) : St q ws as M0 (wr M 154 i v) := sw_154 h hm rfl rfl rfl (fun y j hy => rd_wn M (fun c => hy c.1)) (fun j => by rw [rd_wr]; split; exact hv; exact ar_154 h.1.2.1 j) hq
theorem sf_154 {q : Mem → Prop} {ws : List (Int × Int)} {as : List Int} {M0 M : Mem} {v : Int} (N : Nat) (h : St q ws as M0 M) (hm : (154 : Int) ∈ as) (hv : -2147483648 ≤ v ∧ v ≤ 2147483647) (hq : q (fil M 154 N v)) : St q ws as M0 (fil M 154 N v) := sw_154 (M := M) h hm rfl rfl rfl (fun y j hy => by rw [rd_fil, if_neg (fun c => hy c.1)]) (fun j => by rw [rd_fil]; split; exact hv; exact ar_154 h.1.2.1 j) hq
theorem ar_155 {M : Mem} (h : Iv M) (j : Int) : -2147483648 ≤ rd M 155 j ∧ rd M 155 j ≤ 2147483647 := h.2 (155, -2147483648, 2147483647) (List.mem_of_getElem? (i := 108) rfl) j
theorem sw_155 {q : Mem → Prop} {ws : List (Int × Int)} {as : List Int} {M0 M : Mem} {M2 : Mem} (h : St q ws as M0 M) (hm : (155 : Int) ∈ as) (hT : mT M2 = mT M) (hn : M2.1 = M.1) (hz : M2.2.1 = M.2.1) (ho : ∀ y i : Int, y ≠ 155 → rd M2 y i = rd M y i) (hv : ∀ i : Int, -2147483648 ≤ rd M2 155 i ∧ rd M2 155 i ≤ 2147483647) (hq : q M2) : St q ws as M0 M2 := St.wa 108 h (by decide) hm rfl (by decide +kernel) (by decide +kernel) (by decide +kernel) hT hn hz ho hv hq
theorem sa_155 {q : Mem → Prop} {ws : List (Int × Int)} {as : List Int} {M0 M : Mem} {i v : Int} (h : St q ws as M0 M) (hm : (155 : Int) ∈ as) (hv : -2147483648 ≤ v ∧ v ≤ 2147483647) (hq : q (wr M 155 i v)) : St q ws as M0 (wr M 155 i v) := sw_155 h hm rfl rfl rfl (fun y j hy => rd_wn M (fun c => hy c.1)) (fun j => by rw [rd_wr]; split; exact hv; exact ar_155 h.1.2.1 j) hq
theorem sf_155 {q : Mem → Prop} {ws : List (Int × Int)} {as : List Int} {M0 M : Mem} {v : Int} (N : Nat) (h : St q ws as M0 M) (hm : (155 : Int) ∈ as) (hv : -2147483648 ≤ v ∧ v ≤ 2147483647) (hq : q (fil M 155 N v)) : St q ws as M0 (fil M 155 N v) := sw_155 (M := M) h hm rfl rfl rfl (fun y j hy => by rw [rd_fil, if_neg (fun c => hy c.1)]) (fun j => by rw [rd_fil]; split; exact hv; exact ar_155 h.1.2.1 j) hq
theorem ar_156 {M : Mem} (h : Iv M) (j : Int) : 0 ≤ rd M 156 j ∧ rd M 156 j ≤ 1 := h.2 (156, 0, 1) (List.mem_of_getElem? (i := 109) rfl) j
theorem sw_156 {q : Mem → Prop} {ws : List (Int × Int)} {as : List Int} {M0 M : Mem} {M2 : Mem} (h : St q ws as M0 M) (hm : (156 : Int) ∈ as) (hT : mT M2 = mT M) (hn : M2.1 = M.1) (hz : M2.2.1 = M.2.1) (ho : ∀ y i : Int, y ≠ 156 → rd M2 y i = rd M y i) (hv : ∀ i : Int, 0 ≤ rd M2 156 i ∧ rd M2 156 i ≤ 1) (hq : q M2) : St q ws as M0 M2 := St.wa 109 h (by decide) hm rfl (by decide +kernel) (by decide +kernel) (by decide +kernel) hT hn hz ho hv hq
theorem sa_156 {q : Mem → Prop} {ws : List (Int × Int)} {as : List Int} {M0 M : Mem} {i v : Int} (h : St q ws as M0 M) (hm : (156 : Int) ∈ as) (hv : 0 ≤ v ∧ v ≤ 1) (hq : q (wr M 156 i v)) : St q ws as M0 (wr M 156 i v) := sw_156 h hm rfl rfl rfl (fun y j hy => rd_wn M (fun c => hy c.1)) (fun j => by rw [rd_wr]; split; exact hv; exact ar_156 h.1.2.1 j) hq
theorem sf_156 {q : Mem → Prop} {ws : List (Int × Int)} {as : List Int} {M0 M : Mem} {v : Int} (N : Nat) (h : St q ws as M0 M) (hm : (156 : Int) ∈ as) (hv : 0 ≤ v ∧ v ≤ 1) (hq : q (fil M 156 N v)) : St q ws as M0 (fil M 156 N v) := sw_156 (M := M) h hm rfl rfl rfl (fun y j hy => by rw [rd_fil, if_neg (fun c => hy c.1)]) (fun j => by rw [rd_fil]; split; exact hv; exact ar_156 h.1.2.1 j) hq
theorem ar_157 {M : Mem} (h : Iv M) (j : Int) : -1 ≤ rd M 157 j ∧ rd M 157 j ≤ 59 := h.2 (157, -1, 59) (List.mem_of_getElem? (i := 110) rfl) j
theorem sw_157 {q : Mem → Prop} {ws : List (Int × Int)} {as : List Int} {M0 M : Mem} {M2 : Mem} (h : St q ws as M0 M) (hm : (157 : Int) ∈ as) (hT : mT M2 = mT M) (hn : M2.1 = M.1) (hz : M2.2.1 = M.2.1) (ho : ∀ y i : Int, y ≠ 157 → rd M2 y i = rd M y i) (hv : ∀ i : Int, -1 ≤ rd M2 157 i ∧ rd M2 157 i ≤ 59) (hq : q M2) : St q ws as M0 M2 := St.wa 110 h (by decide) hm rfl (by decide +kernel) (by decide +kernel) (by decide +kernel) hT hn hz ho hv hq
theorem sa_157 {q : Mem → Prop} {ws : List (Int × Int)} {as : List Int} {M0 M : Mem} {i v : Int} (h : St q ws as M0 M) (hm : (157 : Int) ∈ as) (hv : -1 ≤ v ∧ v ≤ 59) (hq : q (wr M 157 i v)) : St q ws as M0 (wr M 157 i v) := sw_157 h hm rfl rfl rfl (fun y j hy => rd_wn M (fun c => hy c.1)) (fun j => by rw [rd_wr]; split; exact hv; exact ar_157 h.1.2.1 j) hq
theorem sf_157 {q : Mem → Prop} {ws : List (Int × Int)} {as : List Int} {M0 M : Mem} {v : Int} (N : Nat) (h : St q ws as M0 M) (hm : (157 : Int) ∈ as) (hv : -1 ≤ v ∧ v ≤ 59) (hq : q (fil M 157 N v)) : St q ws as M0 (fil M 157 N v) := sw_157 (M := M) h hm rfl rfl rfl (fun y j hy => by rw [rd_fil, if_neg (fun c => hy c.1)]) (fun j => by rw [rd_fil]; split; exact hv; exact ar_157 h.1.2.1 j) hq
theorem ar_158 {M : Mem} (h : Iv M) (j : Int) : -2147483648 ≤ rd M 158 j ∧ rd M 158 j ≤ 2147483647 := h.2 (158, -2147483648, 2147483647) (List.mem_of_getElem? (i := 111) rfl) j
theorem sw_158 {q : Mem → Prop} {ws : List (Int × Int)} {as : List Int} {M0 M : Mem} {M2 : Mem} (h : St q ws as M0 M) (hm : (158 : Int) ∈ as) (hT : mT M2 = mT M) (hn : M2.1 = M.1) (hz : M2.2.1 = M.2.1) (ho : ∀ y i : Int, y ≠ 158 → rd M2 y i = rd M y i) (hv : ∀ i : Int, -2147483648 ≤ rd M2 158 i ∧ rd M2 158 i ≤ 2147483647) (hq : q M2) : St q ws as M0 M2 := St.wa 111 h (by decide) hm rfl (by decide +kernel) (by decide +kernel) (by decide +kernel) hT hn hz ho hv hq
theorem sa_158 {q : Mem → Prop} {ws : List (Int × Int)} {as : List Int} {M0 M : Mem} {i v : Int} (h : St q ws as M0 M) (hm : (158 : Int) ∈ as) (hv : -2147483648 ≤ v ∧ v ≤ 2147483647) (hq : q (wr M 158 i v)) : St q ws as M0 (wr M 158 i v) := sw_158 h hm rfl rfl rfl (fun y j hy => rd_wn M (fun c => hy c.1)) (fun j => by rw [rd_wr]; split; exact hv; exact ar_158 h.1.2.1 j) hq
theorem sf_158 {q : Mem → Prop} {ws : List (Int × Int)} {as : List Int} {M0 M : Mem} {v : Int} (N : Nat) (h : St q ws as M0 M) (hm : (158 : Int) ∈ as) (hv : -2147483648 ≤ v ∧ v ≤ 2147483647) (hq : q (fil M 158 N v)) : St q ws as M0 (fil M 158 N v) := sw_158 (M := M) h hm rfl rfl rfl (fun y j hy => by rw [rd_fil, if_neg (fun c => hy c.1)]) (fun j => by rw [rd_fil]; split; exact hv; exact ar_158 h.1.2.1 j) hq
theorem ar_159 {M : Mem} (h : Iv M) (j : Int) : -1 ≤ rd M 159 j ∧ rd M 159 j ≤ 59 := h.2 (159, -1, 59) (List.mem_of_getElem? (i := 112) rfl) j
theorem sw_159 {q : Mem → Prop} {ws : List (Int × Int)} {as : List Int} {M0 M : Mem} {M2 : Mem} (h : St q ws as M0 M) (hm : (159 : Int) ∈ as) (hT : mT M2 = mT M) (hn : M2.1 = M.1) (hz : M2.2.1 = M.2.1) (ho : ∀ y i : Int, y ≠ 159 → rd M2 y i = rd M y i) (hv : ∀ i : Int, -1 ≤ rd M2 159 i ∧ rd M2 159 i ≤ 59) (hq : q M2) : St q ws as M0 M2 := St.wa 112 h (by decide) hm rfl (by decide +kernel) (by decide +kernel) (by decide +kernel) hT hn hz ho hv hq
theorem sa_159 {q : Mem → Prop} {ws : List (Int × Int)} {as : List Int} {M0 M : Mem} {i v : Int} (h : St q ws as M0 M) (hm : (159 : Int) ∈ as) (hv : -1 ≤ v ∧ v ≤ 59) (hq : q (wr M 159 i v)) : St q ws as M0 (wr M 159 i v) := sw_159 h hm rfl rfl rfl (fun y j hy => rd_wn M (fun c => hy c.1)) (fun j => by rw [rd_wr]; split; exact hv; exact ar_159 h.1.2.1 j) hq
theorem sf_159 {q : Mem → Prop} {ws : List (Int × Int)} {as : List Int} {M0 M : Mem} {v : Int} (N : Nat) (h : St q ws as M0 M) (hm : (159 : Int) ∈ as) (hv : -1 ≤ v ∧ v ≤ 59) (hq : q (fil M 159 N v)) : St q ws as M0 (fil M 159 N v) := sw_159 (M := M) h hm rfl rfl rfl (fun y j hy => by rw [rd_fil, if_neg (fun c => hy c.1)]) (fun j => by rw [rd_fil]; split; exact hv; exact ar_159 h.1.2.1 j) hq
theorem ar_160 {M : Mem} (h : Iv M) (j : Int) : -2147483648 ≤ rd M 160 j ∧ rd M 160 j ≤ 2147483647 := h.2 (160, -2147483648, 2147483647) (List.mem_of_getElem? (i := 113) rfl) j
theorem sw_160 {q : Mem → Prop} {ws : List (Int × Int)} {as : List Int} {M0 M : Mem} {M2 : Mem} (h : St q ws as M0 M) (hm : (160 : Int) ∈ as) (hT : mT M2 = mT M) (hn : M2.1 = M.1) (hz : M2.2.1 = M.2.1) (ho : ∀ y i : Int, y ≠ 160 → rd M2 y i = rd M y i) (hv : ∀ i : Int, -2147483648 ≤ rd M2 160 i ∧ rd M2 160 i ≤ 2147483647) (hq : q M2) : St q ws as M0 M2 := St.wa 113 h (by decide) hm rfl (by decide +kernel) (by decide +kernel) (by decide +kernel) hT hn hz ho hv hq
theorem sa_160 {q : Mem → Prop} {ws : List (Int × Int)} {as : List Int} {M0 M : Mem} {i v : Int} (h : St q ws as M0 M) (hm : (160 : Int) ∈ as) (hv : -2147483648 ≤ v ∧ v ≤ 2147483647) (hq : q (wr M 160 i v)) : St q ws as M0 (wr M 160 i v) := sw_160 h hm rfl rfl rfl (fun y j hy => rd_wn M (fun c => hy c.1)) (fun j => by rw [rd_wr]; split; exact hv; exact ar_160 h.1.2.1 j) hq
theorem sf_160 {q : Mem → Prop} {ws : List (Int × Int)} {as : List Int} {M0 M : Mem} {v : Int} (N : Nat) (h : St q ws as M0 M) (hm : (160 : Int) ∈ as) (hv : -2147483648 ≤ v ∧ v ≤ 2147483647) (hq : q (fil M 160 N v)) : St q ws as M0 (fil M 160 N v) := sw_160 (M := M) h hm rfl rfl rfl (fun y j hy => by rw [rd_fil, if_neg (fun c => hy c.1)]) (fun j => by rw [rd_fil]; split; exact hv; exact ar_160 h.1.2.1 j) hq
theorem ar_161 {M : Mem} (h : Iv M) (j : Int) : -2147483648 ≤ rd M 161 j ∧ rd M 161 j ≤ 2147483647 := h.2 (161, -2147483648, 2147483647) (List.mem_of_getElem? (i := 114) rfl) j
theorem sw_161 {q : Mem → Prop} {ws : List (Int × Int)} {as : List Int} {M0 M : Mem} {M2 : Mem} (h : St q ws as M0 M) (hm : (161 : Int) ∈ as) (hT : mT M2 = mT M) (hn : M2.1 = M.1) (hz : M2.2.1 = M.2.1) (ho : ∀ y i : Int, y ≠ 161 → rd M2 y i = rd M y i) (hv : ∀ i : Int, -2147483648 ≤ rd M2 161 i ∧ rd M2 161 i ≤ 2147483647) (hq : q M2) : St q ws as M0 M2 := St.wa 114 h (by decide) hm rfl (by decide +kernel) (by decide +kernel) (by decide +kernel) hT hn hz ho hv hq
theorem sa_161 {q : Mem → Prop} {ws : List (Int × Int)} {as : List Int} {M0 M : Mem} {i v : Int} (h : St q ws as M0 M) (hm : (161 : Int) ∈ as) (hv : -2147483648 ≤ v ∧ v ≤ 2147483647) (hq : q (wr M 161 i v)) : St q ws as M0 (wr M 161 i v) := sw_161 h hm rfl rfl rfl (fun y j hy => rd_wn M (fun c => hy c.1)) (fun j => by rw [rd_wr]; split; exact hv; exact ar_161 h.1.2.1 j) hq
theorem sf_161 {q : Mem → Prop} {ws : List (Int × Int)} {as : List Int} {M0 M : Mem} {v : Int} (N : Nat) (h : St q ws as M0 M) (hm : (161 : Int) ∈ as) (hv : -2147483648 ≤ v ∧ v ≤ 2147483647) (hq : q (fil M 161 N v)) : St q ws as M0 (fil M 161 N v) := sw_161 (M := M) h hm rfl rfl rfl (fun y j hy => by rw [rd_fil, if_neg (fun c => hy c.1)]) (fun j => by rw [rd_fil]; split; exact hv; exact ar_161 h.1.2.1 j) hq
theorem ar_162 {M : Mem} (h : Iv M) (j : Int) : -1 ≤ rd M 162 j ∧ rd M 162 j ≤ 59 := h.2 (162, -1, 59) (List.mem_of_getElem? (i := 115) rfl) j
theorem sw_162 {q : Mem → Prop} {ws : List (Int × Int)} {as : List Int} {M0 M : Mem} {M2 : Mem} (h : St q ws as M0 M) (hm : (162 : Int) ∈ as) (hT : mT M2 = mT M) (hn : M2.1 = M.1) (hz : M2.2.1 = M.2.1) (ho : ∀ y i : Int, y ≠ 162 → rd M2 y i = rd M y i) (hv : ∀ i : Int, -1 ≤ rd M2 162 i ∧ rd M2 162 i ≤ 59) (hq : q M2) : St q ws as M0 M2 := St.wa 115 h (by decide) hm rfl (by decide +kernel) (by decide +kernel) (by decide +kernel) hT hn hz ho hv hq
theorem sa_162 {q : Mem → Prop} {ws : List (Int × Int)} {as : List Int} {M0 M : Mem} {i v : Int} (h : St q ws as M0 M) (hm : (162 : Int) ∈ as) (hv : -1 ≤ v ∧ v ≤ 59) (hq : q (wr M 162 i v)) : St q ws as M0 (wr M 162 i v) := sw_162 h hm rfl rfl rfl (fun y j hy => rd_wn M (fun c => hy c.1)) (fun j => by rw [rd_wr]; split; exact hv; exact ar_162 h.1.2.1 j) hq
theorem sf_162 {q : Mem → Prop} {ws : List (Int × Int)} {as : List Int} {M0 M : Mem} {v : Int} (N : Nat) (h : St q ws as M0 M) (hm : (162 : Int) ∈ as) (hv : -1 ≤ v ∧ v ≤ 59) (hq : q (fil M 162 N v)) : St q ws as M0 (fil M 162 N v) := sw_162 (M := M) h hm rfl rfl rfl (fun y j hy => by rw [rd_fil, if_neg (fun c => hy c.1)]) (fun j => by rw [rd_fil]; split; exact hv; exact ar_162 h.1.2.1 j) hq
theorem ar_163 {M : Mem} (h : Iv M) (j : Int) : 0 ≤ rd M 163 j ∧ rd M 163 j ≤ 3 := h.2 (163, 0, 3) (List.mem_of_getElem? (i := 116) rfl) j
theorem sw_163 {q : Mem → Prop} {ws : List (Int × Int)} {as : List Int} {M0 M : Mem} {M2 : Mem} (h : St q ws as M0 M) (hm : (163 : Int) ∈ as) (hT : mT M2 = mT M) (hn : M2.1 = M.1) (hz : M2.2.1 = M.2.1) (ho : ∀ y i : Int, y ≠ 163 → rd M2 y i = rd M y i) (hv : ∀ i : Int, 0 ≤ rd M2 163 i ∧ rd M2 163 i ≤ 3) (hq : q M2) : St q ws as M0 M2 := St.wa 116 h (by decide) hm rfl (by decide +kernel) (by decide +kernel) (by decide +kernel) hT hn hz ho hv hq
theorem sa_163 {q : Mem → Prop} {ws : List (Int × Int)} {as : List Int} {M0 M : Mem} {i v : Int} (h : St q ws as M0 M) (hm : (163 : Int) ∈ as) (hv : 0 ≤ v ∧ v ≤ 3) (hq : q (wr M 163 i v)) : St q ws as M0 (wr M 163 i v) := sw_163 h hm rfl rfl rfl (fun y j hy => rd_wn M (fun c => hy c.1)) (fun j => by rw [rd_wr]; split; exact hv; exact ar_163 h.1.2.1 j) hq
theorem sf_163 {q : Mem → Prop} {ws : List (Int × Int)} {as : List Int} {M0 M : Mem} {v : Int} (N : Nat) (h : St q ws as M0 M) (hm : (163 : Int) ∈ as) (hv : 0 ≤ v ∧ v ≤ 3) (hq : q (fil M 163 N v)) : St q ws as M0 (fil M 163 N v) := sw_163 (M := M) h hm rfl rfl rfl (fun y j hy => by rw [rd_fil, if_neg (fun c => hy c.1)]) (fun j => by rw [rd_fil]; split; exact hv; exact ar_163 h.1.2.1 j) hq
theorem ar_164 {M : Mem} (h : Iv M) (j : Int) : -1 ≤ rd M 164 j ∧ rd M 164 j ≤ 59 := h.2 (164, -1, 59) (List.mem_of_getElem? (i := 117) rfl) j
theorem sw_164 {q : Mem → Prop} {ws : List (Int × Int)} {as : List Int} {M0 M : Mem} {M2 : Mem} (h : St q ws as M0 M) (hm : (164 : Int) ∈ as) (hT : mT M2 = mT M) (hn : M2.1 = M.1) (hz : M2.2.1 = M.2.1) (ho : ∀ y i : Int, y ≠ 164 → rd M2 y i = rd M y i) (hv : ∀ i : Int, -1 ≤ rd M2 164 i ∧ rd M2 164 i ≤ 59) (hq : q M2) : St q ws as M0 M2 := St.wa 117 h (by decide) hm rfl (by decide +kernel) (by decide +kernel) (by decide +kernel) hT hn hz ho hv hq
theorem sa_164 {q : Mem → Prop} {ws : List (Int × Int)} {as : List Int} {M0 M : Mem} {i v : Int} (h : St q ws as M0 M) (hm : (164 : Int) ∈ as) (hv : -1 ≤ v ∧ v ≤ 59) (hq : q (wr M 164 i v)) : St q ws as M0 (wr M 164 i v) := sw_164 h hm rfl rfl rfl (fun y j hy => rd_wn M (fun c => hy c.1)) (fun j => by rw [rd_wr]; split; exact hv; exact ar_164 h.1.2.1 j) hq
theorem sf_164 {q : Mem → Prop} {ws : List (Int × Int)} {as : List Int} {M0 M : Mem} {v : Int} (N : Nat) (h : St q ws as M0 M) (hm : (164 : Int) ∈ as) (hv : -1 ≤ v ∧ v ≤ 59) (hq : q (fil M 164 N v)) : St q ws as M0 (fil M 164 N v) := sw_164 (M := M) h hm rfl rfl rfl (fun y j hy => by rw [rd_fil, if_neg (fun c => hy c.1)]) (fun j => by rw [rd_fil]; split; exact hv; exact ar_164 h.1.2.1 j) hq
theorem ar_165 {M : Mem} (h : Iv M) (j : Int) : -1 ≤ rd M 165 j ∧ rd M 165 j ≤ 59 := h.2 (165, -1, 59) (List.mem_of_getElem? (i := 118) rfl) j
theorem sw_165 {q : Mem → Prop} {ws : List (Int × Int)} {as : List Int} {M0 M : Mem} {M2 : Mem} (h : St q ws as M0 M) (hm : (165 : Int) ∈ as) (hT : mT M2 = mT M) (hn : M2.1 = M.1) (hz : M2.2.1 = M.2.1) (ho : ∀ y i : Int, y ≠ 165 → rd M2 y i = rd M y i) (hv : ∀ i : Int, -1 ≤ rd M2 165 i ∧ rd M2 165 i ≤ 59) (hq : q M2) : St q ws as M0 M2 := St.wa 118 h (by decide) hm rfl (by decide +kernel) (by decide +kernel) (by decide +kernel) hT hn hz ho hv hq
theorem sa_165 {q : Mem → Prop} {ws : List (Int × Int)} {as : List Int} {M0 M : Mem} {i v : Int} (h : St q ws as M0 M) (hm : (165 : Int) ∈ as) (hv : -1 ≤ v ∧ v ≤ 59) (hq : q (wr M 165 i v)) : St q ws as M0 (wr M 165 i v) := sw_165 h hm rfl rfl rfl (fun y j hy => rd_wn M (fun c => hy c.1)) (fun j => by rw [rd_wr]; split; exact hv; exact ar_165 h.1.2.1 j) hq
theorem sf_165 {q : Mem → Prop} {ws : List (Int × Int)} {as : List Int} {M0 M : Mem} {v : Int} (N : Nat) (h : St q ws as M0 M) (hm : (165 : Int) ∈ as) (hv : -1 ≤ v ∧ v ≤ 59) (hq : q (fil M 165 N v)) : St q ws as M0 (fil M 165 N v) := sw_165 (M := M) h hm rfl rfl rfl (fun y j hy => by rw [rd_fil, if_neg (fun c => hy c.1)]) (fun j => by rw [rd_fil]; split; exact hv; exact ar_165 h.1.2.1 j) hq
theorem ar_166 {M : Mem} (h : Iv M) (j : Int) : 0 ≤ rd M 166 j ∧ rd M 166 j ≤ 5 := h.2 (166, 0, 5) (List.mem_of_getElem? (i := 119) rfl) j
theorem sw_166 {q : Mem → Prop} {ws : List (Int × Int)} {as : List Int} {M0 M : Mem} {M2 : Mem} (h : St q ws as M0 M) (hm : (166 : Int) ∈ as) (hT : mT M2 = mT M) (hn : M2.1 = M.1) (hz : M2.2.1 = M.2.1) (ho : ∀ y i : Int, y ≠ 166 → rd M2 y i = rd M y i) (hv : ∀ i : Int, 0 ≤ rd M2 166 i ∧ rd M2 166 i ≤ 5) (hq : q M2) : St q ws as M0 M2 := St.wa 119 h (by decide) hm rfl (by decide +kernel) (by decide +kernel) (by decide +kernel) hT hn hz ho hv hq
theorem sa_166 {q : Mem → Prop} {ws : List (Int × Int)} {as : List Int} {M0 M : Mem} {i v : Int} (h : St q ws as M0 M) (hm : (166 : Int) ∈ as) (hv : 0 ≤ v ∧ v ≤ 5) (hq : q (wr M 166 i v)) : St q ws as M0 (wr M 166 i v) := sw_166 h hm rfl rfl rfl (fun y j hy => rd_wn M (fun c => hy c.1)) (fun j => by rw [rd_wr]; split; exact hv; exact ar_166 h.1.2.1 j) hq
theorem sf_166 {q : Mem → Prop} {ws : List (Int × Int)} {as : List Int} {M0 M : Mem} {v : Int} (N : Nat) (h : St q ws as M0 M) (hm : (166 : Int) ∈ as) (hv : 0 ≤ v ∧ v ≤ 5) (hq : q (fil M 166 N v)) : St q ws as M0 (fil M 166 N v) := sw_166 (M := M) h hm rfl rfl rfl (fun y j hy => by rw [rd_fil, if_neg (fun c => hy c.1)]) (fun j => by rw [rd_fil]; split; exact hv; exact ar_166 h.1.2.1 j) hq
theorem ar_167 {M : Mem} (h : Iv M) (j : Int) : -1 ≤ rd M 167 j ∧ rd M 167 j ≤ 59 := h.2 (167, -1, 59) (List.mem_of_getElem? (i := 120) rfl) j
theorem sw_167 {q : Mem → Prop} {ws : List (Int × Int)} {as : List Int} {M0 M : Mem} {M2 : Mem} (h : St q ws as M0 M) (hm : (167 : Int) ∈ as) (hT : mT M2 = mT M) (hn : M2.1 = M.1) (hz : M2.2.1 = M.2.1) (ho : ∀ y i : Int, y ≠ 167 → rd M2 y i = rd M y i) (hv : ∀ i : Int, -1 ≤ rd M2 167 i ∧ rd M2 167 i ≤ 59) (hq : q M2) : St q ws as M0 M2 := St.wa 120 h (by decide) hm rfl (by decide +kernel) (by decide +kernel) (by decide +kernel) hT hn hz ho hv hq
theorem sa_167 {q : Mem → Prop} {ws : List (Int × Int)} {as : List Int} {M0 M : Mem} {i v : Int} (h : St q ws as M0 M) (hm : (167 : Int) ∈ as) (hv : -1 ≤ v ∧ v ≤ 59) (hq : q (wr M 167 i v)) : St q ws as M0 (wr M 167 i v) := sw_167 h hm rfl rfl rfl (fun y j hy => rd_wn M (fun c => hy c.1)) (fun j => by rw [rd_wr]; split; exact hv; exact ar_167 h.1.2.1 j) hq
theorem sf_167 {q : Mem → Prop} {ws : List (Int × Int)} {as : List Int} {M0 M : Mem} {v : Int} (N : Nat) (h : St q ws as M0 M) (hm : (167 : Int) ∈ as) (hv : -1 ≤ v ∧ v ≤ 59) (hq : q (fil M 167 N v)) : St q ws as M0 (fil M 167 N v) := sw_167 (M := M) h hm rfl rfl rfl (fun y j hy => by rw [rd_fil, if_neg (fun c => hy c.1)]) (fun j => by rw [rd_fil]; split; exact hv; exact ar_167 h.1.2.1 j) hq
theorem ar_168 {M : Mem} (h : Iv M) (j : Int) : -2147483648 ≤ rd M 168 j ∧ rd M 168 j ≤ 2147483647 := h.2 (168, -2147483648, 2147483647) (List.mem_of_getElem? (i := 121) rfl) j
theorem sw_168 {q : Mem → Prop} {ws : List (Int × Int)} {as : List Int} {M0 M : Mem} {M2 : Mem} (h : St q ws as M0 M) (hm : (168 : Int) ∈ as) (hT : mT M2 = mT M) (hn : M2.1 = M.1) (hz : M2.2.1 = M.2.1) (ho : ∀ y i : Int, y ≠ 168 → rd M2 y i = rd M y i) (hv : ∀ i : Int, -2147483648 ≤ rd M2 168 i ∧ rd M2 168 i ≤ 2147483647) (hq : q M2) : St q ws as M0 M2 := St.wa 121 h (by decide) hm rfl (by decide +kernel) (by decide +kernel) (by decide +kernel) hT hn hz ho hv hq
theorem sa_168 {q : Mem → Prop} {ws : List (Int × Int)} {as : List Int} {M0 M : Mem} {i v : Int} (h : St q ws as M0 M) (hm : (168 : Int) ∈ as) (hv : -2147483648 ≤ v ∧ v ≤ 2147483647) (hq : q (wr M 168 i v)) : St q ws as M0 (wr M 168 i v) := sw_168 h hm rfl rfl rfl (fun y j hy => rd_wn M (fun c => hy c.1)) (fun j => by rw [rd_wr]; split; exact hv; exact ar_168 h.1.2.1 j) hq
theorem sf_168 {q : Mem → Prop} {ws : List (Int × Int)} {as : List Int} {M0 M : Mem} {v : Int} (N : Nat) (h : St q ws as M0 M) (hm : (168 : Int) ∈ as) (hv : -2147483648 ≤ v ∧ v ≤ 2147483647) (hq : q (fil M 168 N v)) : St q ws as M0 (fil M 168 N v) := sw_168 (M := M) h hm rfl rfl rfl (fun y j hy => by rw [rd_fil, if_neg (fun c => hy c.1)]) (fun j => by rw [rd_fil]; split; exact hv; exact ar_168 h.1.2.1 j) hq
theorem ar_169 {M : Mem} (h : Iv M) (j : Int) : 0 ≤ rd M 169 j ∧ rd M 169 j ≤ 5 := h.2 (169, 0, 5) (List.mem_of_getElem? (i := 122) rfl) j
theorem sw_169 {q : Mem → Prop} {ws : List (Int × Int)} {as : List Int} {M0 M : Mem} {M2 : Mem} (h : St q ws as M0 M) (hm : (169 : Int) ∈ as) (hT : mT M2 = mT M) (hn : M2.1 = M.1) (hz : M2.2.1 = M.2.1) (ho : ∀ y i : Int, y ≠ 169 → rd M2 y i = rd M y i) (hv : ∀ i : Int, 0 ≤ rd M2 169 i ∧ rd M2 169 i ≤ 5) (hq : q M2) : St q ws as M0 M2 := St.wa 122 h (by decide) hm rfl (by decide +kernel) (by decide +kernel) (by decide +kernel) hT hn hz ho hv hq
theorem sa_169 {q : Mem → Prop} {ws : List (Int × Int)} {as : List Int} {M0 M : Mem} {i v : Int} (h : St q ws as M0 M) (hm : (169 : Int) ∈ as) (hv : 0 ≤ v ∧ v ≤ 5) (hq : q (wr M 169 i v)) : St q ws as M0 (wr M 169 i v) := sw_169 h hm rfl rfl rfl (fun y j hy => rd_wn M (fun c => hy c.1)) (fun j => by rw [rd_wr]; split; exact hv; exact ar_169 h.1.2.1 j) hq
theorem sf_169 {q : Mem → Prop} {ws : List (Int × Int)} {as : List Int} {M0 M : Mem} {v : Int} (N : Nat) (h : St q ws as M0 M) (hm : (169 : Int) ∈ as) (hv : 0 ≤ v ∧ v ≤ 5) (hq : q (fil M 169 N v)) : St q ws as M0 (fil M 169 N v) := sw_169 (M := M) h hm rfl rfl rfl (fun y j hy => by rw [rd_fil, if_neg (fun c => hy c.1)]) (fun j => by rw [rd_fil]; split; exact hv; exact ar_169 h.1.2.1 j) hq
theorem ar_170 {M : Mem} (h : Iv M) (j : Int) : -1 ≤ rd M 170 j ∧ rd M 170 j ≤ 59 := h.2 (170, -1, 59) (List.mem_of_getElem? (i := 123) rfl) j
theorem sw_170 {q : Mem → Prop} {ws : List (Int × Int)} {as : List Int} {M0 M : Mem} {M2 : Mem} (h : St q ws as M0 M) (hm : (170 : Int) ∈ as) (hT : mT M2 = mT M) (hn : M2.1 = M.1) (hz : M2.2.1 = M.2.1) (ho : ∀ y i : Int, y ≠ 170 → rd M2 y i = rd M y i) (hv : ∀ i : Int, -1 ≤ rd M2 170 i ∧ rd M2 170 i ≤ 59) (hq : q M2) : St q ws as M0 M2 := St.wa 123 h (by decide) hm rfl (by decide +kernel) (by decide +kernel) (by decide +kernel) hT hn hz ho hv hq
theorem sa_170 {q : Mem → Prop} {ws : List (Int × Int)} {as : List Int} {M0 M : Mem} {i v : Int} (h : St q ws as M0 M) (hm : (170 : Int) ∈ as) (hv : -1 ≤ v ∧ v ≤ 59) (hq : q (wr M 170 i v)) : St q ws as M0 (wr M 170 i v) := sw_170 h hm rfl rfl rfl (fun y j hy => rd_wn M (fun c => hy c.1)) (fun j => by rw [rd_wr]; split; exact hv; exact ar_170 h.1.2.1 j) hq
theorem sf_170 {q : Mem → Prop} {ws : List (Int × Int)} {as : List Int} {M0 M : Mem} {v : Int} (N : Nat) (h : St q ws as M0 M) (hm : (170 : Int) ∈ as) (hv : -1 ≤ v ∧ v ≤ 59) (hq : q (fil M 170 N v)) : St q ws as M0 (fil M 170 N v) := sw_170 (M := M) h hm rfl rfl rfl (fun y j hy => by rw [rd_fil, if_neg (fun c => hy c.1)]) (fun j => by rw [rd_fil]; split; exact hv; exact ar_170 h.1.2.1 j) hq
theorem ar_171 {M : Mem} (h : Iv M) (j : Int) : 0 ≤ rd M 171 j ∧ rd M 171 j ≤ 2060 := h.2 (171, 0, 2060) (List.mem_of_getElem? (i := 124) rfl) j
theorem sw_171 {q : Mem → Prop} {ws : List (Int × Int)} {as : List Int} {M0 M : Mem} {M2 : Mem} (h : St q ws as M0 M) (hm : (171 : Int) ∈ as) (hT : mT M2 = mT M) (hn : M2.1 = M.1) (hz : M2.2.1 = M.2.1) (ho : ∀ y i : Int, y ≠ 171 → rd M2 y i = rd M y i) (hv : ∀ i : Int, 0 ≤ rd M2 171 i ∧ rd M2 171 i ≤ 2060) (hq : q M2) : St q ws as M0 M2 := St.wa 124 h (by decide) hm rfl (by decide +kernel) (by decide +kernel) (by decide +kernel) hT hn hz ho hv hq
theorem sa_171 {q : Mem → Prop} {ws : List (Int × Int)} {as : List Int} {M0 M : Mem} {i v : Int} (h : St q ws as M0 M) (hm : (171 : Int) ∈ as) (hv : 0 ≤ v ∧ v ≤ 2060) (hq : q (wr M 171 i v)) : St q ws as M0 (wr M 171 i v) := sw_171 h hm rfl rfl rfl (fun y j hy => rd_wn M (fun c => hy c.1)) (fun j => by rw [rd_wr]; split; exact hv; exact ar_171 h.1.2.1 j) hq
theorem sf_171 {q : Mem → Prop} {ws : List (Int × Int)} {as : List Int} {M0 M : Mem} {v : Int} (N : Nat) (h : St q ws as M0 M) (hm : (171 : Int) ∈ as) (hv : 0 ≤ v ∧ v ≤ 2060) (hq : q (fil M 171 N v)) : St q ws as M0 (fil M 171 N v) := sw_171 (M := M) h hm rfl rfl rfl (fun y j hy => by rw [rd_fil, if_neg (fun c => hy c.1)]) (fun j => by rw [rd_fil]; split; exact hv; exact ar_171 h.1.2.1 j) hq
theorem ar_172 {M : Mem} (h : Iv M) (j : Int) : -9223372036854775808 ≤ rd M 172 j ∧ rd M 172 j ≤ 9223372036854775807 := h.2 (172, -9223372036854775808, 9223372036854775807) (List.mem_of_getElem? (i := 125) rfl) j
theorem sw_172 {q : Mem → Prop} {ws : List (Int × Int)} {as : List Int} {M0 M : Mem} {M2 : Mem} (h : St q ws as M0 M) (hm : (172 : Int) ∈ as) (hT : mT M2 = mT M) (hn : M2.1 = M.1) (hz : M2.2.1 = M.2.1) (ho : ∀ y i : Int, y ≠ 172 → rd M2 y i = rd M y i) (hv : ∀ i : Int, -9223372036854775808 ≤ rd M2 172 i ∧ rd M2 172 i ≤ 9223372036854775807) (hq : q M2) : St q ws as M0 M2 := St.wa 125 h (by decide) hm rfl (by decide +kernel) (by decide +kernel) (by decide +kernel) hT hn hz ho hv hq
theorem sa_172 {q : Mem → Prop} {ws : List (Int × Int)} {as : List Int} {M0 M : Mem} {i v : Int} (h : St q ws as M0 M) (hm : (172 : Int) ∈ as) (hv : -9223372036854775808 ≤ v ∧ v ≤ 9223372036854775807) (hq : q (wr M 172 i v)) : St q ws as M0 (wr M 172 i v) := sw_172 h hm rfl rfl rfl (fun y j hy => rd_wn M (fun c => hy c.1)) (fun j => by rw [rd_wr]; split; exact hv; exact ar_172 h.1.2.1 j) hq
theorem sf_172 {q : Mem → Prop} {ws : List (Int × Int)} {as : List Int} {M0 M : Mem} {v : Int} (N : Nat) (h : St q ws as M0 M) (hm : (172 : Int) ∈ as) (hv : -9223372036854775808 ≤ v ∧ v ≤ 9223372036854775807) (hq : q (fil M 172 N v)) : St q ws as M0 (fil M 172 N v) := sw_172 (M := M) h hm rfl rfl rfl (fun y j hy => by rw [rd_fil, if_neg (fun c => hy c.1)]) (fun j => by rw [rd_fil]; split; exact hv; exact ar_172 h.1.2.1 j) hq
theorem ar_173 {M : Mem} (h : Iv M) (j : Int) : -2147483648 ≤ rd M 173 j ∧ rd M 173 j ≤ 2147483647 := h.2 (173, -2147483648, 2147483647) (List.mem_of_getElem? (i := 126) rfl) j
theorem sw_173 {q : Mem → Prop} {ws : List (Int × Int)} {as : List Int} {M0 M : Mem} {M2 : Mem} (h : St q ws as M0 M) (hm : (173 : Int) ∈ as) (hT : mT M2 = mT M) (hn : M2.1 = M.1) (hz : M2.2.1 = M.2.1) (ho : ∀ y i : Int, y ≠ 173 → rd M2 y i = rd M y i) (hv : ∀ i : Int, -2147483648 ≤ rd M2 173 i ∧ rd M2 173 i ≤ 2147483647) (hq : q M2) : St q ws as M0 M2 := St.wa 126 h (by decide) hm rfl (by decide +kernel) (by decide +kernel) (by decide +kernel) hT hn hz ho hv hq
theorem sa_173 {q : Mem → Prop} {ws : List (Int × Int)} {as : List Int} {M0 M : Mem} {i v : Int} (h : St q ws as M0 M) (hm : (173 : Int) ∈ as) (hv : -2147483648 ≤ v ∧ v ≤ 2147483647) (hq : q (wr M 173 i v)) : St q ws as M0 (wr M 173 i v) := sw_173 h hm rfl rfl rfl (fun y j hy => rd_wn M (fun c => hy c.1)) (fun j => by rw [rd_wr]; split; exact hv; exact ar_173 h.1.2.1 j) hq
theorem sf_173 {q : Mem → Prop} {ws : List (Int × Int)} {as : List Int} {M0 M : Mem} {v : Int} (N : Nat) (h : St q ws as M0 M) (hm : (173 : Int) ∈ as) (hv : -2147483648 ≤ v ∧ v ≤ 2147483647) (hq : q (fil M 173 N v)) : St q ws as M0 (fil M 173 N v) := sw_173 (M := M) h hm rfl rfl rfl (fun y j hy => by rw [rd_fil, if_neg (fun c => hy c.1)]) (fun j => by rw [rd_fil]; split; exact hv; exact ar_173 h.1.2.1 j) hq
theorem ar_174 {M : Mem} (h : Iv M) (j : Int) : -2147483648 ≤ rd M 174 j ∧ rd M 174 j ≤ 2147483647 := h.2 (174, -2147483648, 2147483647) (List.mem_of_getElem? (i := 127) rfl) j
theorem sw_174 {q : Mem → Prop} {ws : List (Int × Int)} {as : List Int} {M0 M : Mem} {M2 : Mem} (h : St q ws as M0 M) (hm : (174 : Int) ∈ as) (hT : mT M2 = mT M) (hn : M2.1 = M.1) (hz : M2.2.1 = M.2.1) (ho : ∀ y i : Int, y ≠ 174 → rd M2 y i = rd M y i) (hv : ∀ i : Int, -2147483648 ≤ rd M2 174 i ∧ rd M2 174 i ≤ 2147483647) (hq : q M2) : St q ws as M0 M2 := St.wa 127 h (by decide) hm rfl (by decide +kernel) (by decide +kernel) (by decide +kernel) hT hn hz ho hv hq
theorem sa_174 {q : Mem → Prop} {ws : List (Int × Int)} {as : List Int} {M0 M : Mem} {i v : Int} (h : St q ws as M0 M) (hm : (174 : Int) ∈ as) (hv : -2147483648 ≤ v ∧ v ≤ 2147483647) (hq : q (wr M 174 i v)) : St q ws as M0 (wr M 174 i v) := sw_174 h hm rfl rfl rfl (fun y j hy => rd_wn M (fun c => hy c.1)) (fun j => by rw [rd_wr]; split; exact hv; exact ar_174 h.1.2.1 j) hq
theorem sf_174 {q : Mem → Prop} {ws : List (Int × Int)} {as : List Int} {M0 M : Mem} {v : Int} (N : Nat) (h : St q ws as M0 M) (hm : (174 : Int) ∈ as) (hv : -2147483648 ≤ v ∧ v ≤ 2147483647) (hq : q (fil M 174 N v)) : St q ws as M0 (fil M 174 N v) := sw_174 (M := M) h hm rfl rfl rfl (fun y j hy => by rw [rd_fil, if_neg (fun c => hy c.1)]) (fun j => by rw [rd_fil]; split; exact hv; exact ar_174 h.1.2.1 j) hq
theorem ar_175 {M : Mem} (h : Iv M) (j : Int) : 0 ≤ rd M 175 j ∧ rd M 175 j ≤ 1 := h.2 (175, 0, 1) (List.mem_of_getElem? (i := 128) rfl) j
theorem sw_175 {q : Mem → Prop} {ws : List (Int × Int)} {as : List Int} {M0 M : Mem} {M2 : Mem} (h : St q ws as M0 M) (hm : (175 : Int) ∈ as) (hT : mT M2 = mT M) (hn : M2.1 = M.1) (hz : M2.2.1 = M.2.1) (ho : ∀ y i : Int, y ≠ 175 → rd M2 y i = rd M y i) (hv : ∀ i : Int, 0 ≤ rd M2 175 i ∧ rd M2 175 i ≤ 1) (hq : q M2) : St q ws as M0 M2 := St.wa 128 h (by decide) hm rfl (by decide +kernel) (by decide +kernel) (by decide +kernel) hT hn hz ho hv hq
theorem sa_175 {q : Mem → Prop} {ws : List (Int × Int)} {as : List Int} {M0 M : Mem} {i v : Int} (h : St q ws as M0 M) (hm : (175 : Int) ∈ as) (hv : 0 ≤ v ∧ v ≤ 1) (hq : q (wr M 175 i v)) : St q ws as M0 (wr M 175 i v) := sw_175 h hm rfl rfl rfl (fun y j hy => rd_wn M (fun c => hy c.1)) (fun j => by rw [rd_wr]; split; exact hv; exact ar_175 h.1.2.1 j) hq
theorem sf_175 {q : Mem → Prop} {ws : List (Int × Int)} {as : List Int} {M0 M : Mem} {v : Int} (N : Nat) (h : St q ws as M0 M) (hm : (175 : Int) ∈ as) (hv : 0 ≤ v ∧ v ≤ 1) (hq : q (fil M 175 N v)) : St q ws as M0 (fil M 175 N v) := sw_175 (M := M) h hm rfl rfl rfl (fun y j hy => by rw [rd_fil, if_neg (fun c => hy c.1)]) (fun j => by rw [rd_fil]; split; exact hv; exact ar_175 h.1.2.1 j) hq
theorem ar_176 {M : Mem} (h : Iv M) (j : Int) : 0 ≤ rd M 176 j ∧ rd M 176 j ≤ 59 := h.2 (176, 0, 59) (List.mem_of_getElem? (i := 129) rfl) j
theorem sw_176 {q : Mem → Prop} {ws : List (Int × Int)} {as : List Int} {M0 M : Mem} {M2 : Mem} (h : St q ws as M0 M) (hm : (176 : Int) ∈ as) (hT : mT M2 = mT M) (hn : M2.1 = M.1) (hz : M2.2.1 = M.2.1) (ho : ∀ y i : Int, y ≠ 176 → rd M2 y i = rd M y i) (hv : ∀ i : Int, 0 ≤ rd M2 176 i ∧ rd M2 176 i ≤ 59) (hq : q M2) : St q ws as M0 M2 := St.wa 129 h (by decide) hm rfl (by decide +kernel) (by decide +kernel) (by decide +kernel) hT hn hz ho hv hq
theorem sa_176 {q : Mem → Prop} {ws : List (Int × Int)} {as : List Int} {M0 M : Mem} {i v : Int} (h : St q ws as M0 M) (hm : (176 : Int) ∈ as) (hv : 0 ≤ v ∧ v ≤ 59) (hq : q (wr M 176 i v)) : St q ws as M0 (wr M 176 i v) := sw_176 h hm rfl rfl rfl (fun y j hy => rd_wn M (fun c => hy c.1)) (fun j => by rw [rd_wr]; split; exact hv; exact ar_176 h.1.2.1 j) hq
theorem sf_176 {q : Mem → Prop} {ws : List (Int × Int)} {as : List Int} {M0 M : Mem} {v : Int} (N : Nat) (h : St q ws as M0 M) (hm : (176 : Int) ∈ as) (hv : 0 ≤ v ∧ v ≤ 59) (hq : q (fil M 176 N v)) : St q ws as M0 (fil M 176 N v) := sw_176 (M := M) h hm rfl rfl rfl (fun y j hy => by rw [rd_fil, if_neg (fun c => hy c.1)]) (fun j => by rw [rd_fil]; split; exact hv; exact ar_176 h.1.2.1 j) hq
theorem ar_177 {M : Mem} (h : Iv M) (j : Int) : 0 ≤ rd M 177 j ∧ rd M 177 j ≤ 1 := h.2 (177, 0, 1) (List.mem_of_getElem? (i := 130) rfl) j
theorem sw_177 {q : Mem → Prop} {ws : List (Int × Int)} {as : List Int} {M0 M : Mem} {M2 : Mem} (h : St q ws as M0 M) (hm : (177 : Int) ∈ as) (hT : mT M2 = mT M) (hn : M2.1 = M.1) (hz : M2.2.1 = M.2.1) (ho : ∀ y i : Int, y ≠ 177 → rd M2 y i = rd M y i) (hv : ∀ i : Int, 0 ≤ rd M2 177 i ∧ rd M2 177 i ≤ 1) (hq : q M2) : St q ws as M0 M2 := St.wa 130 h (by decide) hm rfl (by decide +kernel) (by decide +kernel) (by decide +kernel) hT hn hz ho hv hq
theorem sa_177 {q : Mem → Prop} {ws : List (Int × Int)} {as : List Int} {M0 M : Mem} {i v : Int} (h : St q ws as M0 M) (hm : (177 : Int) ∈ as) (hv : 0 ≤ v ∧ v ≤ 1) (hq : q (wr M 177 i v)) : St q ws as M0 (wr M 177 i v) := sw_177 h hm rfl rfl rfl (fun y j hy => rd_wn M (fun c => hy c.1)) (fun j => by rw [rd_wr]; split; exact hv; exact ar_177 h.1.2.1 j) hq
theorem sf_177 {q : Mem → Prop} {ws : List (Int × Int)} {as : List Int} {M0 M : Mem} {v : Int} (N : Nat) (h : St q ws as M0 M) (hm : (177 : Int) ∈ as) (hv : 0 ≤ v ∧ v ≤ 1) (hq : q (fil M 177 N v)) : St q ws as M0 (fil M 177 N v) := sw_177 (M := M) h hm rfl rfl rfl (fun y j hy => by rw [rd_fil, if_neg (fun c => hy c.1)]) (fun j => by rw [rd_fil]; split; exact hv; exact ar_177 h.1.2.1 j) hq
theorem ar_178 {M : Mem} (h : Iv M) (j : Int) : -9223372036854775808 ≤ rd M 178 j ∧ rd M 178 j ≤ 9223372036854775807 := h.2 (178, -9223372036854775808, 9223372036854775807) (List.mem_of_getElem? (i := 131) rfl) j
theorem sw_178 {q : Mem → Prop} {ws : List (Int × Int)} {as : List Int} {M0 M : Mem} {M2 : Mem} (h : St q ws as M0 M) (hm : (178 : Int) ∈ as) (hT : mT M2 = mT M) (hn : M2.1 = M.1) (hz : M2.2.1 = M.2.1) (ho : ∀ y i : Int, y ≠ 178 → rd M2 y i = rd M y i) (hv : ∀ i : Int, -9223372036854775808 ≤ rd M2 178 i ∧ rd M2 178 i ≤ 9223372036854775807) (hq : q M2) : St q ws as M0 M2 := St.wa 131 h (by decide) hm rfl (by decide +kernel) (by decide +kernel) (by decide +kernel) hT hn hz ho hv hq
theorem sa_178 {q : Mem → Prop} {ws : List (Int × Int)} {as : List Int} {M0 M : Mem} {i v : Int} (h : St q ws as M0 M) (hm : (178 : Int) ∈ as) (hv : -9223372036854775808 ≤ v ∧ v ≤ 9223372036854775807) (hq : q (wr M 178 i v)) : St q ws as M0 (wr M 178 i v) := sw_178 h hm rfl rfl rfl (fun y j hy => rd_wn M (fun c => hy c.1)) (fun j => by rw [rd_wr]; split; exact hv; exact ar_178 h.1.2.1 j) hq
theorem sf_178 {q : Mem → Prop} {ws : List (Int × Int)} {as : List Int} {M0 M : Mem} {v : Int} (N : Nat) (h : St q ws as M0 M) (hm : (178 : Int) ∈ as) (hv : -9223372036854775808 ≤ v ∧ v ≤ 9223372036854775807) (hq : q (fil M 178 N v)) : St q ws as M0 (fil M 178 N v) := sw_178 (M := M) h hm rfl rfl rfl (fun y j hy => by rw [rd_fil, if_neg (fun c => hy c.1)]) (fun j => by rw [rd_fil]; split; exact hv; exact ar_178 h.1.2.1 j) hq
theorem ar_179 {M : Mem} (h : Iv M) (j : Int) : -2147483648 ≤ rd M 179 j ∧ rd M 179 j ≤ 2147483647 := h.2 (179, -2147483648, 2147483647) (List.mem_of_getElem? (i := 132) rfl) j
theorem sw_179 {q : Mem → Prop} {ws : List (Int × Int)} {as : List Int} {M0 M : Mem} {M2 : Mem} (h : St q ws as M0 M) (hm : (179 : Int) ∈ as) (hT : mT M2 = mT M) (hn : M2.1 = M.1) (hz : M2.2.1 = M.2.1) (ho : ∀ y i : Int, y ≠ 179 → rd M2 y i = rd M y i) (hv : ∀ i : Int, -2147483648 ≤ rd M2 179 i ∧ rd M2 179 i ≤ 2147483647) (hq : q M2) : St q ws as M0 M2 := St.wa 132 h (by decide) hm rfl (by decide +kernel) (by decide +kernel) (by decide +kernel) hT hn hz ho hv hq
theorem sa_179 {q : Mem → Prop} {ws : List (Int × Int)} {as : List Int} {M0 M : Mem} {i v : Int} (h : St q ws as M0 M) (hm : (179 : Int) ∈ as) (hv : -2147483648 ≤ v ∧ v ≤ 2147483647) (hq : q (wr M 179 i v)) : St q ws as M0 (wr M 179 i v) := sw_179 h hm rfl rfl rfl (fun y j hy => rd_wn M (fun c => hy c.1)) (fun j => by rw [rd_wr]; split; exact hv; exact ar_179 h.1.2.1 j) hq
theorem sf_179 {q : Mem → Prop} {ws : List (Int × Int)} {as : List Int} {M0 M : Mem} {v : Int} (N : Nat) (h : St q ws as M0 M) (hm : (179 : Int) ∈ as) (hv : -2147483648 ≤ v ∧ v ≤ 2147483647) (hq : q (fil M 179 N v)) : St q ws as M0 (fil M 179 N v) := sw_179 (M := M) h hm rfl rfl rfl (fun y j hy => by rw [rd_fil, if_neg (fun c => hy c.1)]) (fun j => by rw [rd_fil]; split; exact hv; exact ar_179 h.1.2.1 j) hq
theorem ar_180 {M : Mem} (h : Iv M) (j : Int) : -2147483648 ≤ rd M 180 j ∧ rd M 180 j ≤ 2147483647 := h.2 (180, -2147483648, 2147483647) (List.mem_of_getElem? (i := 133) rfl) j
theorem sw_180 {q : Mem → Prop} {ws : List (Int × Int)} {as : List Int} {M0 M : Mem} {M2 : Mem} (h : St q ws as M0 M) (hm : (180 : Int) ∈ as) (hT : mT M2 = mT M) (hn : M2.1 = M.1) (hz : M2.2.1 = M.2.1) (ho : ∀ y i : Int, y ≠ 180 → rd M2 y i = rd M y i) (hv : ∀ i : Int, -2147483648 ≤ rd M2 180 i ∧ rd M2 180 i ≤ 2147483647) (hq : q M2) : St q ws as M0 M2 := St.wa 133 h (by decide) hm rfl (by decide +kernel) (by decide +kernel) (by decide +kernel) hT hn hz ho hv hq
theorem sa_180 {q : Mem → Prop} {ws : List (Int × Int)} {as : List Int} {M0 M : Mem} {i v : Int} (h : St q ws as M0 M) (hm : (180 : Int) ∈ as) (hv : -2147483648 ≤ v ∧ v ≤ 2147483647) (hq : q (wr M 180 i v)) : St q ws as M0 (wr M 180 i v) := sw_180 h hm rfl rfl rfl (fun y j hy => rd_wn M (fun c => hy c.1)) (fun j => by rw [rd_wr]; split; exact hv; exact ar_180 h.1.2.1 j) hq
theorem sf_180 {q : Mem → Prop} {ws : List (Int × Int)} {as : List Int} {M0 M : Mem} {v : Int} (N : Nat) (h : St q ws as M0 M) (hm : (180 : Int) ∈ as) (hv : -2147483648 ≤ v ∧ v ≤ 2147483647) (hq : q (fil M 180 N v)) : St q ws as M0 (fil M 180 N v) := sw_180 (M := M) h hm rfl rfl rfl (fun y j hy => by rw [rd_fil, if_neg (fun c => hy c.1)]) (fun j => by rw [rd_fil]; split; exact hv; exact ar_180 h.1.2.1 j) hq
theorem ar_181 {M : Mem} (h : Iv M) (j : Int) : -2147483648 ≤ rd M 181 j ∧ rd M 181 j ≤ 2147483647 := h.2 (181, -2147483648, 2147483647) (List.mem_of_getElem? (i := 134) rfl) j
theorem sw_181 {q : Mem → Prop} {ws : List (Int × Int)} {as : List Int} {M0 M : Mem} {M2 : Mem} (h : St q ws as M0 M) (hm : (181 : Int) ∈ as) (hT : mT M2 = mT M) (hn : M2.1 = M.1) (hz : M2.2.1 = M.2.1) (ho : ∀ y i : Int, y ≠ 181 → rd M2 y i = rd M y i) (hv : ∀ i : Int, -2147483648 ≤ rd M2 181 i ∧ rd M2 181 i ≤ 2147483647) (hq : q M2) : St q ws as M0 M2 := St.wa 134 h (by decide) hm rfl (by decide +kernel) (by decide +kernel) (by decide +kernel) hT hn hz ho hv hq
theorem sa_181 {q : Mem → Prop} {ws : List (Int × Int)} {as : List Int} {M0 M : Mem} {i v : Int} (h : St q ws as M0 M) (hm : (181 : Int) ∈ as) (hv : -2147483648 ≤ v ∧ v ≤ 2147483647) (hq : q (wr M 181 i v)) : St q ws as M0 (wr M 181 i v) := sw_181 h hm rfl rfl rfl (fun y j hy => rd_wn M (fun c => hy c.1)) (fun j => by rw [rd_wr]; split; exact hv; exact ar_181 h.1.2.1 j) hq
theorem sf_181 {q : Mem → Prop} {ws : List (Int × Int)} {as : List Int} {M0 M : Mem} {v : Int} (N : Nat) (h : St q ws as M0 M) (hm : (181 : Int) ∈ as) (hv : -2147483648 ≤ v ∧ v ≤ 2147483647) (hq : q (fil M 181 N v)) : St q ws as M0 (fil M 181 N v) := sw_181 (M := M) h hm rfl rfl rfl (fun y j hy => by rw [rd_fil, if_neg (fun c => hy c.1)]) (fun j => by rw [rd_fil]; split; exact hv; exact ar_181 h.1.2.1 j) hq
theorem ar_182 {M : Mem} (h : Iv M) (j : Int) : -2147483648 ≤ rd M 182 j ∧ rd M 182 j ≤ 2147483647 := h.2 (182, -2147483648, 2147483647) (List.mem_of_getElem? (i := 135) rfl) j
theorem sw_182 {q : Mem → Prop} {ws : List (Int × Int)} {as : List Int} {M0 M : Mem} {M2 : Mem} (h : St q ws as M0 M) (hm : (182 : Int) ∈ as) (hT : mT M2 = mT M) (hn : M2.1 = M.1) (hz : M2.2.1 = M.2.1) (ho : ∀ y i : Int, y ≠ 182 → rd M2 y i = rd M y i) (hv : ∀ i : Int, -2147483648 ≤ rd M2 182 i ∧ rd M2 182 i ≤ 2147483647) (hq : q M2) : St q ws as M0 M2 := St.wa 135 h (by decide) hm rfl (by decide +kernel) (by decide +kernel) (by decide +kernel) hT hn hz ho hv hq
theorem sa_182 {q : Mem → Prop} {ws : List (Int × Int)} {as : List Int} {M0 M : Mem} {i v : Int} (h : St q ws as M0 M) (hm : (182 : Int) ∈ as) (hv : -2147483648 ≤ v ∧ v ≤ 2147483647) (hq : q (wr M 182 i v)) : St q ws as M0 (wr M 182 i v) := sw_182 h hm rfl rfl rfl (fun y j hy => rd_wn M (fun c => hy c.1)) (fun j => by rw [rd_wr]; split; exact hv; exact ar_182 h.1.2.1 j) hq
theorem sf_182 {q : Mem → Prop} {ws : List (Int × Int)} {as : List Int} {M0 M : Mem} {v : Int} (N : Nat) (h : St q ws as M0 M) (hm : (182 : Int) ∈ as) (hv : -2147483648 ≤ v ∧ v ≤ 2147483647) (hq : q (fil M 182 N v)) : St q ws as M0 (fil M 182 N v) := sw_182 (M := M) h hm rfl rfl rfl (fun y j hy => by rw [rd_fil, if_neg (fun c => hy c.1)]) (fun j => by rw [rd_fil]; split; exact hv; exact ar_182 h.1.2.1 j) hq
theorem ar_183 {M : Mem} (h : Iv M) (j : Int) : -9223372036854775808 ≤ rd M 183 j ∧ rd M 183 j ≤ 9223372036854775807 := h.2 (183, -9223372036854775808, 9223372036854775807) (List.mem_of_getElem? (i := 136) rfl) j
theorem sw_183 {q : Mem → Prop} {ws : List (Int × Int)} {as : List Int} {M0 M : Mem} {M2 : Mem} (h : St q ws as M0 M) (hm : (183 : Int) ∈ as) (hT : mT M2 = mT M) (hn : M2.1 = M.1) (hz : M2.2.1 = M.2.1) (ho : ∀ y i : Int, y ≠ 183 → rd M2 y i = rd M y i) (hv : ∀ i : Int, -9223372036854775808 ≤ rd M2 183 i ∧ rd M2 183 i ≤ 9223372036854775807) (hq : q M2) : St q ws as M0 M2 := St.wa 136 h (by decide) hm rfl (by decide +kernel) (by decide +kernel) (by decide +kernel) hT hn hz ho hv hq
theorem sa_183 {q : Mem → Prop} {ws : List (Int × Int)} {as : List Int} {M0 M : Mem} {i v : Int} (h : St q ws as M0 M) (hm : (183 : Int) ∈ as) (hv : -9223372036854775808 ≤ v ∧ v ≤ 9223372036854775807) (hq : q (wr M 183 i v)) : St q ws as M0 (wr M 183 i v) := sw_183 h hm rfl rfl rfl (fun y j hy => rd_wn M (fun c => hy c.1)) (fun j => by rw [rd_wr]; split; exact hv; exact ar_183 h.1.2.1 j) hq
theorem sf_183 {q : Mem → Prop} {ws : List (Int × Int)} {as : List Int} {M0 M : Mem} {v : Int} (N : Nat) (h : St q ws as M0 M) (hm : (183 : Int) ∈ as) (hv : -9223372036854775808 ≤ v ∧ v ≤ 9223372036854775807) (hq : q (fil M 183 N v)) : St q ws as M0 (fil M 183 N v) := sw_183 (M := M) h hm rfl rfl rfl (fun y j hy => by rw [rd_fil, if_neg (fun c => hy c.1)]) (fun j => by rw [rd_fil]; split; exact hv; exact ar_183 h.1.2.1 j) hq
theorem ar_184 {M : Mem} (h : Iv M) (j : Int) : -2147483648 ≤ rd M 184 j ∧ rd M 184 j ≤ 2147483647 := h.2 (184, -2147483648, 2147483647) (List.mem_of_getElem? (i := 137) rfl) j
theorem sw_184 {q : Mem → Prop} {ws : List (Int × Int)} {as : List Int} {M0 M : Mem} {M2 : Mem} (h : St q ws as M0 M) (hm : (184 : Int) ∈ as) (hT : mT M2 = mT M) (hn : M2.1 = M.1) (hz : M2.2.1 = M.2.1) (ho : ∀ y i : Int, y ≠ 184 → rd M2 y i = rd M y i) (hv : ∀ i : Int, -2147483648 ≤ rd M2 184 i ∧ rd M2 184 i ≤ 2147483647) (hq : q M2) : St q ws as M0 M2 := St.wa 137 h (by decide) hm rfl (by decide +kernel) (by decide +kernel) (by decide +kernel) hT hn hz ho hv hq
theorem sa_184 {q : Mem → Prop} {ws : List (Int × Int)} {as : List Int} {M0 M : Mem} {i v : Int} (h : St q ws as M0 M) (hm : (184 : Int) ∈ as) (hv : -2147483648 ≤ v ∧ v ≤ 2147483647) (hq : q (wr M 184 i v)) : St q ws as M0 (wr M 184 i v) := sw_184 h hm rfl rfl rfl (fun y j hy => rd_wn M (fun c => hy c.1)) (fun j => by rw [rd_wr]; split; exact hv; exact ar_184 h.1.2.1 j) hq
theorem sf_184 {q : Mem → Prop} {ws : List (Int × Int)} {as : List Int} {M0 M : Mem} {v : Int} (N : Nat) (h : St q ws as M0 M) (hm : (184 : Int) ∈ as) (hv : -2147483648 ≤ v ∧ v ≤ 2147483647) (hq : q (fil M 184 N v)) : St q ws as M0 (fil M 184 N v) := sw_184 (M := M) h hm rfl rfl rfl (fun y j hy => by rw [rd_fil, if_neg (fun c => hy c.1)]) (fun j => by rw [rd_fil]; split; exact hv; exact ar_184 h.1.2.1 j) hq
theorem ar_185 {M : Mem} (h : Iv M) (j : Int) : 0 ≤ rd M 185 j ∧ rd M 185 j ≤ 200 := h.2 (185, 0, 200) (List.mem_of_getElem? (i := 138) rfl) j
theorem sw_185 {q : Mem → Prop} {ws : List (Int × Int)} {as : List Int} {M0 M : Mem} {M2 : Mem} (h : St q ws as M0 M) (hm : (185 : Int) ∈ as) (hT : mT M2 = mT M) (hn : M2.1 = M.1) (hz : M2.2.1 = M.2.1) (ho : ∀ y i : Int, y ≠ 185 → rd M2 y i = rd M y i) (hv : ∀ i : Int, 0 ≤ rd M2 185 i ∧ rd M2 185 i ≤ 200) (hq : q M2) : St q ws as M0 M2 := St.wa 138 h (by decide) hm rfl (by decide +kernel) (by decide +kernel) (by decide +kernel) hT hn hz ho hv hq
theorem sa_185 {q : Mem → Prop} {ws : List (Int × Int)} {as : List Int} {M0 M : Mem} {i v : Int} (h : St q ws as M0 M) (hm : (185 : Int) ∈ as) (hv : 0 ≤ v ∧ v ≤ 200) (hq : q (wr M 185 i v)) : St q ws as M0 (wr M 185 i v) := sw_185 h hm rfl rfl rfl (fun y j hy => rd_wn M (fun c => hy c.1)) (fun j => by rw [rd_wr]; split; exact hv; exact ar_185 h.1.2.1 j) hq
theorem sf_185 {q : Mem → Prop} {ws : List (Int × Int)} {as : List Int} {M0 M : Mem} {v : Int} (N : Nat) (h : St q ws as M0 M) (hm : (185 : Int) ∈ as) (hv : 0 ≤ v ∧ v ≤ 200) (hq : q (fil M 185 N v)) : St q ws as M0 (fil M 185 N v) := sw_185 (M := M) h hm rfl rfl rfl (fun y j hy => by rw [rd_fil, if_neg (fun c => hy c.1)]) (fun j => by rw [rd_fil]; split; exact hv; exact ar_185 h.1.2.1 j) hq
theorem ar_186 {M : Mem} (h : Iv M) (j : Int) : 0 ≤ rd M 186 j ∧ rd M 186 j ≤ 20 := h.2 (186, 0, 20) (List.mem_of_getElem? (i := 139) rfl) j
theorem sw_186 {q : Mem → Prop} {ws : List (Int × Int)} {as : List Int} {M0 M : Mem} {M2 : Mem} (h : St q ws as M0 M) (hm : (186 : Int) ∈ as) (hT : mT M2 = mT M) (hn : M2.1 = M.1) (hz : M2.2.1 = M.2.1) (ho : ∀ y i : Int, y ≠ 186 → rd M2 y i = rd M y i) (hv : ∀ i : Int, 0 ≤ rd M2 186 i ∧ rd M2 186 i ≤ 20) (hq : q M2) : St q ws as M0 M2 := St.wa 139 h (by decide) hm rfl (by decide +kernel) (by decide +kernel) (by decide +kernel) hT hn hz ho hv hq
theorem sa_186 {q : Mem → Prop} {ws : List (Int × Int)} {as : List Int} {M0 M : Mem} {i v : Int} (h : St q ws as M0 M) (hm : (186 : Int) ∈ as) (hv : 0 ≤ v ∧ v ≤ 20) (hq : q (wr M 186 i v)) : St q ws as M0 (wr M 186 i v) := sw_186 h hm rfl rfl rfl (fun y j hy => rd_wn M (fun c => hy c.1)) (fun j => by rw [rd_wr]; split; exact hv; exact ar_186 h.1.2.1 j) hq
theorem sf_186 {q : Mem → Prop} {ws : List (Int × Int)} {as : List Int} {M0 M : Mem} {v : Int} (N : Nat) (h : St q ws as M0 M) (hm : (186 : Int) ∈ as) (hv : 0 ≤ v ∧ v ≤ 20) (hq : q (fil M 186 N v)) : St q ws as M0 (fil M 186 N v) := sw_186 (M := M) h hm rfl rfl rfl (fun y j hy => by rw [rd_fil, if_neg (fun c => hy c.1)]) (fun j => by rw [rd_fil]; split; exact hv; exact ar_186 h.1.2.1 j) hq
theorem ar_187 {M : Mem} (h : Iv M) (j : Int) : 0 ≤ rd M 187 j ∧ rd M 187 j ≤ 5 := h.2 (187, 0, 5) (List.mem_of_getElem? (i := 140) rfl) j
theorem sw_187 {q : Mem → Prop} {ws : List (Int × Int)} {as : List Int} {M0 M : Mem} {M2 : Mem} (h : St q ws as M0 M) (hm : (187 : Int) ∈ as) (hT : mT M2 = mT M) (hn : M2.1 = M.1) (hz : M2.2.1 = M.2.1) (ho : ∀ y i : Int, y ≠ 187 → rd M2 y i = rd M y i) (hv : ∀ i : Int, 0 ≤ rd M2 187 i ∧ rd M2 187 i ≤ 5) (hq : q M2) : St q ws as M0 M2 := St.wa 140 h (by decide) hm rfl (by decide +kernel) (by decide +kernel) (by decide +kernel) hT hn hz ho hv hq
theorem sa_187 {q : Mem → Prop} {ws : List (Int × Int)} {as : List Int} {M0 M : Mem} {i v : Int} (h : St q ws as M0 M) (hm : (187 : Int) ∈ as) (hv : 0 ≤ v ∧ v ≤ 5) (hq : q (wr M 187 i v)) : St q ws as M0 (wr M 187 i v) := sw_187 h hm rfl rfl rfl (fun y j hy => rd_wn M (fun c => hy c.1)) (fun j => by rw [rd_wr]; split; exact hv; exact ar_187 h.1.2.1 j) hq
theorem sf_187 {q : Mem → Prop} {ws : List (Int × Int)} {as : List Int} {M0 M : Mem} {v : Int} (N : Nat) (h : St q ws as M0 M) (hm : (187 : Int) ∈ as) (hv : 0 ≤ v ∧ v ≤ 5) (hq : q (fil M 187 N v)) : St q ws as M0 (fil M 187 N v) := sw_187 (M := M) h hm rfl rfl rfl (fun y j hy => by rw [rd_fil, if_neg (fun c => hy c.1)]) (fun j => by rw [rd_fil]; split; exact hv; exact ar_187 h.1.2.1 j) hq
theorem ar_188 {M : Mem} (h : Iv M) (j : Int) : 0 ≤ rd M 188 j ∧ rd M 188 j ≤ 5 := h.2 (188, 0, 5) (List.mem_of_getElem? (i := 141) rfl) j
theorem sw_188 {q : Mem → Prop} {ws : List (Int × Int)} {as : List Int} {M0 M : Mem} {M2 : Mem} (h : St q ws as M0 M) (hm : (188 : Int) ∈ as) (hT : mT M2 = mT M) (hn : M2.1 = M.1) (hz : M2.2.1 = M.2.1) (ho : ∀ y i : Int, y ≠ 188 → rd M2 y i = rd M y i) (hv : ∀ i : Int, 0 ≤ rd M2 188 i ∧ rd M2 188 i ≤ 5) (hq : q M2) : St q ws as M0 M2 := St.wa 141 h (by decide) hm rfl (by decide +kernel) (by decide +kernel) (by decide +kernel) hT hn hz ho hv hq
theorem sa_188 {q : Mem → Prop} {ws : List (Int × Int)} {as : List Int} {M0 M : Mem} {i v : Int} (h : St q ws as M0 M) (hm : (188 : Int) ∈ as) (hv : 0 ≤ v ∧ v ≤ 5) (hq : q (wr M 188 i v)) : St q ws as M0 (wr M 188 i v) := sw_188 h hm rfl rfl rfl (fun y j hy => rd_wn M (fun c => hy c.1)) (fun j => by rw [rd_wr]; split; exact hv; exact ar_188 h.1.2.1 j) hq
theorem sf_188 {q : Mem → Prop} {ws : List (Int × Int)} {as : List Int} {M0 M : Mem} {v : Int} (N : Nat) (h : St q ws as M0 M) (hm : (188 : Int) ∈ as) (hv : 0 ≤ v ∧ v ≤ 5) (hq : q (fil M 188 N v)) : St q ws as M0 (fil M 188 N v) := sw_188 (M := M) h hm rfl rfl rfl (fun y j hy => by rw [rd_fil, if_neg (fun c => hy c.1)]) (fun j => by rw [rd_fil]; split; exact hv; exact ar_188 h.1.2.1 j) hq
theorem ar_189 {M : Mem} (h : Iv M) (j : Int) : 0 ≤ rd M 189 j ∧ rd M 189 j ≤ 5 := h.2 (189, 0, 5) (List.mem_of_getElem? (i := 142) rfl) j
theorem sw_189 {q : Mem → Prop} {ws : List (Int × Int)} {as : List Int} {M0 M : Mem} {M2 : Mem} (h : St q ws as M0 M) (hm : (189 : Int) ∈ as) (hT : mT M2 = mT M) (hn : M2.1 = M.1) (hz : M2.2.1 = M.2.1) (ho : ∀ y i : Int, y ≠ 189 → rd M2 y i = rd M y i) (hv : ∀ i : Int, 0 ≤ rd M2 189 i ∧ rd M2 189 i ≤ 5) (hq : q M2) : St q ws as M0 M2 := St.wa 142 h (by decide) hm rfl (by decide +kernel) (by decide +kernel) (by decide +kernel) hT hn hz ho hv hq
theorem sa_189 {q : Mem → Prop} {ws : List (Int × Int)} {as : List Int} {M0 M : Mem} {i v : Int} (h : St q ws as M0 M) (hm : (189 : Int) ∈ as) (hv : 0 ≤ v ∧ v ≤ 5) (hq : q (wr M 189 i v)) : St q ws as M0 (wr M 189 i v) := sw_189 h hm rfl rfl rfl (fun y j hy => rd_wn M (fun c => hy c.1)) (fun j => by rw [rd_wr]; split; exact hv; exact ar_189 h.1.2.1 j) hq
theorem sf_189 {q : Mem → Prop} {ws : List (Int × Int)} {as : List Int} {M0 M : Mem} {v : Int} (N : Nat) (h : St q ws as M0 M) (hm : (189 : Int) ∈ as) (hv : 0 ≤ v ∧ v ≤ 5) (hq : q (fil M 189 N v)) : St q ws as M0 (fil M 189 N v) := sw_189 (M := M) h hm rfl rfl rfl (fun y j hy => by rw [rd_fil, if_neg (fun c => hy c.1)]) (fun j => by rw [rd_fil]; split; exact hv; exact ar_189 h.1.2.1 j) hq
theorem ar_190 {M : Mem} (h : Iv M) (j : Int) : -9223372036854775808 ≤ rd M 190 j ∧ rd M 190 j ≤ 9223372036854775807 := h.2 (190, -9223372036854775808, 9223372036854775807) (List.mem_of_getElem? (i := 143) rfl) j
theorem sw_190 {q : Mem → Prop} {ws : List (Int × Int)} {as : List Int} {M0 M : Mem} {M2 : Mem} (h : St q ws as M0 M) (hm : (190 : Int) ∈ as) (hT : mT M2 = mT M) (hn : M2.1 = M.1) (hz : M2.2.1 = M.2.1) (ho : ∀ y i : Int, y ≠ 190 → rd M2 y i = rd M y i) (hv : ∀ i : Int, -9223372036854775808 ≤ rd M2 190 i ∧ rd M2 190 i ≤ 9223372036854775807) (hq : q M2) : St q ws as M0 M2 := St.wa 143 h (by decide) hm rfl (by decide +kernel) (by decide +kernel) (by decide +kernel) hT hn hz ho hv hq
theorem sa_190 {q : Mem → Prop} {ws : List (Int × Int)} {as : List Int} {M0 M : Mem} {i v : Int} (h : St q ws as M0 M) (hm : (190 : Int) ∈ as) (hv : -9223372036854775808 ≤ v ∧ v ≤ 9223372036854775807) (hq : q (wr M 190 i v)) : St q ws as M0 (wr M 190 i v) := sw_190 h hm rfl rfl rfl (fun y j hy => rd_wn M (fun c => hy c.1)) (fun j => by rw [rd_wr]; split; exact hv; exact ar_190 h.1.2.1 j) hq
theorem sf_190 {q : Mem → Prop} {ws : List (Int × Int)} {as : List Int} {M0 M : Mem} {v : Int} (N : Nat) (h : St q ws as M0 M) (hm : (190 : Int) ∈ as) (hv : -9223372036854775808 ≤ v ∧ v ≤ 9223372036854775807) (hq : q (fil M 190 N v)) : St q ws as M0 (fil M 190 N v) := sw_190 (M := M) h hm rfl rfl rfl (fun y j hy => by rw [rd_fil, if_neg (fun c => hy c.1)]) (fun j => by rw [rd_fil]; split; exact hv; exact ar_190 h.1.2.1 j) hq
end
/-! 22.math -/
section
/-! Math's max, min, abs: run by the machine's own entries -/
section MATHR
variable {l : Launch} {K : EC} {d : Nat} {m : MD} {pc pc2 : Nat} {ls : List (Nat × PV)} {st st2 : List PV} {M M' : Mem} {r : Option PV} {Q : Mem → Option PV → Prop}
theorem Ends.sn (hok : e_okM M → oks st → okl ls → oks st2)
    (hW : ∀ (p : Program) (e : Env) (R : Room) (s : State) (mid : MethodId) (args : Array Value) (below : List Frame) (meth : Method) (c : Code) (H : Heap) (locs : List Loc) (cells slots : Nat) (lsA : Array Slot) (Q : State → Prop), e_X K m p s mid args meth c → d ≤ R.frames → 70 * d ≤ R.locals → cells ≤ R.cells → slots ≤ R.slots → e_R K M H → e_okM M → oks st → okl ls → va_S (e_A K) s.heap H locs → lv_has lsA m.2.2.2.1 (e_lv K ls) →
      W p l e R s mid args below meth c H locs cells slots Q (F0 mid pc2 lsA (st2.map (e_val K))) → W p l e R s mid args below meth c H locs cells slots Q (F0 mid pc lsA (st.map (e_val K))))
    (h : Ends l K d m pc2 ls st2 M M' r) : Ends l K d m pc ls st M M' r := by
  obtain ⟨h1, h2, h3, h4⟩ := h
  refine ⟨h1, h2, fun a b c => h3 a (hok a b c) c, ?_⟩
  intro p e R s mid args below meth c H locs cells slots cE sE lsA Q hX hf hl hc hs hcE hsE hR hM hst hls hS hlv hend
  exact hW p e R s mid args below meth c H locs cells slots lsA Q hX hf hl (by omega) (by omega) hR hM hst hls hS hlv
    (h4 p e R s mid args below meth c H locs cells slots cE sE lsA Q hX hf hl hc hs hcE hsE hR hM (hok hM hst hls) hls hS hlv hend)
theorem i32_ltt {a b : Int} (ha : e_ok (0, a)) (hb : e_ok (0, b)) : Int32.ofInt a < Int32.ofInt b ↔ a < b := by rw [Int32.lt_iff_toInt_lt, i32_tt ha, i32_tt hb]
theorem i64_ltt {a b : Int} (ha : e_ok (1, a)) (hb : e_ok (1, b)) : Int64.ofInt a < Int64.ofInt b ↔ a < b := by rw [Int64.lt_iff_toInt_lt, i64_tt ha, i64_tt hb]
theorem Tr.mmax {idx : Nat} {a b : Int} (hd : decode m.2.2.1 pc = .ok (.invokestatic idx, 3)) (w1 : Cond.methodLink (e_cn m.1) idx Lib.Math.max.name ∈ tblG) (w2 : Cond.static Lib.Math.max.name ∈ tblG ∧ Cond.initialized "java/lang/Math" ∈ tblG ∧ Cond.code Lib.Math.max.name Lib.Math.max.code 2 (some .int) ∈ tblG) (hcat : e_cat st ≤ 8)
    (k : Tr l K (d + 1) m (pc + 3) ls ((0, if a < b then b else a) :: st) M Q) : Tr l K (d + 1) m pc ls ((0, b) :: (0, a) :: st) M Q := by
  refine Tr.up (fun _ _ h => Ends.sn (fun hM hst hls => oks_c (by split <;> first | exact oks_h hst | exact oks_h (oks_t hst)) (oks_t (oks_t hst))) (fun p e R s mid args below meth c H locs cells slots lsA Q hX hf hg hc hs hR hM hst hls hS hlv kk => ?_) h) k
  obtain ⟨hxx, hb, hml, hr, hown, hts, hlk0, hname, hK, hb0, hex, hclo⟩ := hX
  refine va_mmax (x := Int32.ofInt a) (y := Int32.ofInt b) hxx hb (hml.trans hlv.1.symm) hown (hts _ w1) (hts _ w2.1) (hts _ w2.2.1) (hts _ w2.2.2) (by omega) (by rw [e_vcats]; omega) hc hs hd ?_
  have e1 : (if Int32.ofInt a < Int32.ofInt b then Int32.ofInt b else Int32.ofInt a) = Int32.ofInt (if a < b then b else a) := by
    have h1 := i32_ltt (oks_h (oks_t hst)) (oks_h hst)
    by_cases c9 : a < b
    · rw [if_pos c9, if_pos (h1.mpr c9)]
    · rw [if_neg c9, if_neg (fun h => c9 (h1.mp h))]
  rw [e1]
  exact kk
theorem Tr.mmin {idx : Nat} {a b : Int} (hd : decode m.2.2.1 pc = .ok (.invokestatic idx, 3)) (w1 : Cond.methodLink (e_cn m.1) idx Lib.Math.min.name ∈ tblG) (w2 : Cond.static Lib.Math.min.name ∈ tblG ∧ Cond.initialized "java/lang/Math" ∈ tblG ∧ Cond.code Lib.Math.min.name Lib.Math.min.code 2 (some .int) ∈ tblG) (hcat : e_cat st ≤ 8)
    (k : Tr l K (d + 1) m (pc + 3) ls ((0, if b < a then b else a) :: st) M Q) : Tr l K (d + 1) m pc ls ((0, b) :: (0, a) :: st) M Q := by
  refine Tr.up (fun _ _ h => Ends.sn (fun hM hst hls => oks_c (by split <;> first | exact oks_h hst | exact oks_h (oks_t hst)) (oks_t (oks_t hst))) (fun p e R s mid args below meth c H locs cells slots lsA Q hX hf hg hc hs hR hM hst hls hS hlv kk => ?_) h) k
  obtain ⟨hxx, hb, hml, hr, hown, hts, hlk0, hname, hK, hb0, hex, hclo⟩ := hX
  refine va_mmin (x := Int32.ofInt a) (y := Int32.ofInt b) hxx hb (hml.trans hlv.1.symm) hown (hts _ w1) (hts _ w2.1) (hts _ w2.2.1) (hts _ w2.2.2) (by omega) (by rw [e_vcats]; omega) hc hs hd ?_
  have e1 : (if Int32.ofInt b < Int32.ofInt a then Int32.ofInt b else Int32.ofInt a) = Int32.ofInt (if b < a then b else a) := by
    have h1 := i32_ltt (oks_h hst) (oks_h (oks_t hst))
    by_cases c9 : b < a
    · rw [if_pos c9, if_pos (h1.mpr c9)]
    · rw [if_neg c9, if_neg (fun h => c9 (h1.mp h))]
  rw [e1]
  exact kk
theorem Tr.mmaxL {idx : Nat} {a b : Int} (hd : decode m.2.2.1 pc = .ok (.invokestatic idx, 3)) (w1 : Cond.methodLink (e_cn m.1) idx Lib.MathLoose.max_long.x ∈ tblG) (w2 : Cond.static Lib.MathLoose.max_long.x ∈ tblG ∧ Cond.initialized "java/lang/Math" ∈ tblG ∧ Cond.code Lib.MathLoose.max_long.x Lib.MathLoose.max_long.code 4 (some .long) ∈ tblG) (hcat : e_cat st ≤ 8)
    (k : Tr l K (d + 1) m (pc + 3) ls ((1, if b < a then a else b) :: st) M Q) : Tr l K (d + 1) m pc ls ((1, b) :: (1, a) :: st) M Q := by
  refine Tr.up (fun _ _ h => Ends.sn (fun hM hst hls => oks_c (by split <;> first | exact oks_h hst | exact oks_h (oks_t hst)) (oks_t (oks_t hst))) (fun p e R s mid args below meth c H locs cells slots lsA Q hX hf hg hc hs hR hM hst hls hS hlv kk => ?_) h) k
  obtain ⟨hxx, hb, hml, hr, hown, hts, hlk0, hname, hK, hb0, hex, hclo⟩ := hX
  refine va_mmax_long (x := Int64.ofInt a) (y := Int64.ofInt b) hxx hb (hml.trans hlv.1.symm) hown (hts _ w1) (hts _ w2.1) (hts _ w2.2.1) (hts _ w2.2.2) (by omega) (by rw [e_vcats]; omega) hc hs hd ?_
  have e1 : (if Int64.ofInt b < Int64.ofInt a then Int64.ofInt a else Int64.ofInt b) = Int64.ofInt (if b < a then a else b) := by
    have h1 := i64_ltt (oks_h hst) (oks_h (oks_t hst))
    by_cases c9 : b < a
    · rw [if_pos c9, if_pos (h1.mpr c9)]
    · rw [if_neg c9, if_neg (fun h => c9 (h1.mp h))]
  rw [e1]
  exact kk
theorem Tr.mminL {idx : Nat} {a b : Int} (hd : decode m.2.2.1 pc = .ok (.invokestatic idx, 3)) (w1 : Cond.methodLink (e_cn m.1) idx Lib.MathLoose.min_long.x ∈ tblG) (w2 : Cond.static Lib.MathLoose.min_long.x ∈ tblG ∧ Cond.initialized "java/lang/Math" ∈ tblG ∧ Cond.code Lib.MathLoose.min_long.x Lib.MathLoose.min_long.code 4 (some .long) ∈ tblG) (hcat : e_cat st ≤ 8)
    (k : Tr l K (d + 1) m (pc + 3) ls ((1, if b < a then b else a) :: st) M Q) : Tr l K (d + 1) m pc ls ((1, b) :: (1, a) :: st) M Q := by
  refine Tr.up (fun _ _ h => Ends.sn (fun hM hst hls => oks_c (by split <;> first | exact oks_h hst | exact oks_h (oks_t hst)) (oks_t (oks_t hst))) (fun p e R s mid args below meth c H locs cells slots lsA Q hX hf hg hc hs hR hM hst hls hS hlv kk => ?_) h) k
  obtain ⟨hxx, hb, hml, hr, hown, hts, hlk0, hname, hK, hb0, hex, hclo⟩ := hX
  refine va_mmin_long (x := Int64.ofInt a) (y := Int64.ofInt b) hxx hb (hml.trans hlv.1.symm) hown (hts _ w1) (hts _ w2.1) (hts _ w2.2.1) (hts _ w2.2.2) (by omega) (by rw [e_vcats]; omega) hc hs hd ?_
  have e1 : (if Int64.ofInt b < Int64.ofInt a then Int64.ofInt b else Int64.ofInt a) = Int64.ofInt (if b < a then b else a) := by
    have h1 := i64_ltt (oks_h hst) (oks_h (oks_t hst))
    by_cases c9 : b < a
    · rw [if_pos c9, if_pos (h1.mpr c9)]
    · rw [if_neg c9, if_neg (fun h => c9 (h1.mp h))]
  rw [e1]
  exact kk
theorem Tr.mabs {idx : Nat} {a : Int} (hd : decode m.2.2.1 pc = .ok (.invokestatic idx, 3)) (w1 : Cond.methodLink (e_cn m.1) idx Lib.Math.abs.name ∈ tblG) (w2 : Cond.static Lib.Math.abs.name ∈ tblG ∧ Cond.initialized "java/lang/Math" ∈ tblG ∧ Cond.code Lib.Math.abs.name Lib.Math.abs.code 1 (some .int) ∈ tblG) (hcat : e_cat st ≤ 8)
    (k : Tr l K (d + 1) m (pc + 3) ls ((0, if a < 0 then w32 (0 - a) else a) :: st) M Q) : Tr l K (d + 1) m pc ls ((0, a) :: st) M Q := by
  refine Tr.up (fun _ _ h => Ends.sn (fun hM hst hls => oks_c (by split <;> first | exact oks_h hst | exact ok0 (w32_b _)) (oks_t hst)) (fun p e R s mid args below meth c H locs cells slots lsA Q hX hf hg hc hs hR hM hst hls hS hlv kk => ?_) h) k
  obtain ⟨hxx, hb, hml, hr, hown, hts, hlk0, hname, hK, hb0, hex, hclo⟩ := hX
  refine va_mabs (x := Int32.ofInt a) hxx hb (hml.trans hlv.1.symm) hown (hts _ w1) (hts _ w2.1) (hts _ w2.2.1) (hts _ w2.2.2) (by omega) (by rw [e_vcats]; omega) hc hs hd ?_
  have e1 : (if 0 ≤ Int32.ofInt a then Int32.ofInt a else 0 - Int32.ofInt a) = Int32.ofInt (if a < 0 then w32 (0 - a) else a) := by
    have h1 : (0 : Int32) ≤ Int32.ofInt a ↔ 0 ≤ a := by
      rw [Int32.le_iff_toInt_le, i32_tt (oks_h hst)]
      rfl
    by_cases c9 : a < 0
    · rw [if_pos c9, if_neg (fun h => by have := h1.mp h; omega), i32_sub]
      rfl
    · rw [if_neg c9, if_pos (h1.mpr (by omega))]
  rw [e1]
  exact kk
theorem Tr.i2c {a : Int} (hd : decode m.2.2.1 pc = .ok (.i2c, 1)) (h : 0 ≤ a ∧ a ≤ 65535) (k : Tr l K d m (pc + 1) ls ((0, a) :: st) M Q) : Tr l K d m pc ls ((0, a) :: st) M Q := by
  have h1 : (Int32.ofInt a).toUInt32.toNat = a.toNat := by
    show (BitVec.ofInt 32 a).toNat = _
    rw [BitVec.toNat_ofInt]
    omega
  have e : ((Int32.ofInt a).toUInt32 % 65536).toInt32 = Int32.ofInt a := by
    have e1 : (Int32.ofInt a).toUInt32 % 65536 = (Int32.ofInt a).toUInt32 := by
      apply UInt32.toNat_inj.mp
      rw [UInt32.toNat_mod, h1]
      show a.toNat % 65536 = a.toNat
      omega
    rw [e1]
    rfl
  exact Tr.up (fun _ _ => Ends.sk (fun hM hst hls => oks_c (oks_h hst) (oks_t hst)) (fun p e2 R s mid args below meth c H locs cells slots lsA Q hX hf hg hR hM hst hls hS hlv k => lv_i2c (v := Int32.ofInt a) hX.1 hX.2.1 hd e k)) k
theorem nar_c {a : Int} (h : 0 ≤ a ∧ a ≤ 65535) : narrow .char (.int (Int32.ofInt a)) = .int (Int32.ofInt a) := by
  show Value.int (Int32.ofInt a).toUInt32.toUInt16.toUInt32.toInt32 = _
  have h1 : (Int32.ofInt a).toUInt32.toNat = a.toNat := by
    show (BitVec.ofInt 32 a).toNat = _
    rw [BitVec.toNat_ofInt]
    omega
  have e1 : (Int32.ofInt a).toUInt32.toUInt16.toUInt32 = (Int32.ofInt a).toUInt32 := by
    apply UInt32.toNat_inj.mp
    rw [UInt16.toNat_toUInt32, UInt32.toNat_toUInt16, h1]
    omega
  rw [e1]
  rfl
end MATHR
theorem f_max_p (a b : Int) : ((if a < b then b else a) = a ∧ b ≤ a) ∨ ((if a < b then b else a) = b ∧ a ≤ b) := by split <;> omega
theorem f_maxL_p (a b : Int) : ((if b < a then a else b) = a ∧ b ≤ a) ∨ ((if b < a then a else b) = b ∧ a ≤ b) := by split <;> omega
theorem f_min_p (a b : Int) : ((if b < a then b else a) = a ∧ a ≤ b) ∨ ((if b < a then b else a) = b ∧ b ≤ a) := by split <;> omega
theorem f_abs_p {a : Int} (h : -2147483648 < a ∧ a ≤ 2147483647) : ((if a < 0 then w32 (0 - a) else a) = a ∧ 0 ≤ a) ∨ ((if a < 0 then w32 (0 - a) else a) = -a ∧ a ≤ 0) := by
  split
  · rw [w32_id (by omega)]
    omega
  · omega
theorem f_abs_b {a : Int} (h : -2147483648 ≤ a ∧ a ≤ 2147483647) : -2147483648 ≤ (if a < 0 then w32 (0 - a) else a) ∧ (if a < 0 then w32 (0 - a) else a) ≤ 2147483647 := by
  split
  · exact w32_b _
  · exact h
/-! a row of longs, copied -/
section ACL
variable {l : Launch} {K : EC} {d : Nat} {m : MD} {pc : Nat} {ls : List (Nat × PV)} {st st0 : List PV} {M M1 M' : Mem} {Q : Mem → Option PV → Prop}
theorem Tr.acopyL {idx n0 n1 : Nat} {x y sp dp n : Int} (hd : decode m.2.2.1 pc = .ok (.invokestatic idx, 3)) (w1 : Cond.methodLink (e_cn m.1) idx arraycopyName ∈ tblG) (w2 : Cond.native arraycopyName ∈ tblG) (w3 : Cond.static arraycopyName ∈ tblG) (w4 : Cond.initialized "java/lang/System" ∈ tblG)
    (ht0 : mT M x = (21, n0)) (ht1 : mT M y = (21, n1)) (g1 : 0 ≤ sp) (g2 : 0 ≤ dp) (g3 : 0 ≤ n) (g4 : sp + n ≤ n0) (g5 : dp + n ≤ n1) (hcat : e_cat st ≤ 8)
    (k : Tr l K (d + 1) m (pc + 3) ls st (cpy M x y sp dp n) Q) : Tr l K (d + 1) m pc ls ((0, n) :: (0, dp) :: (2, y) :: (0, sp) :: (2, x) :: st) M Q := by
  refine Tr.up (fun _ _ h => Ends.me (M2 := cpy M x y sp dp n) rfl rfl (fun hM hst hls => ⟨⟨hM.1, fun z j => ?_⟩, oks_t (oks_t (oks_t (oks_t (oks_t hst))))⟩) (fun p e R s mid args below meth c H locs cells slots lsA Q hX hf hg hR hM hst hls hS hlv kk => ?_) h) k
  · rw [rd_cpy]
    show e_ok (e_sl M z j, _)
    split
    · rename_i c9
      obtain ⟨rfl, -, -⟩ := c9
      have h8 := hM.2 x (sp + (j - dp))
      unfold e_sl at h8 ⊢
      rw [ht0] at h8
      rw [ht1]
      exact h8
    · exact hM.2 z j
  · have hx := e_in hM ht0 (by omega)
    have hy := e_in hM ht1 (by omega)
    obtain ⟨hxx, hb, hml, hr, hown, hts, hlk0, hname, hK, hb0, hex, hclo⟩ := hX
    show W p l e R s mid args below meth c H locs cells slots Q (F0 mid pc lsA (e_val K (0, n) :: e_val K (0, dp) :: e_val K (2, y) :: e_val K (0, sp) :: e_val K (2, x) :: st.map (e_val K)))
    rw [e_ref K hx.1, e_ref K hy.1]
    have hwx := e_W_at K hx
    rw [e_ent_l K ht0] at hwx
    have hwy := e_W_at K hy
    rw [e_ent_l K ht1] at hwy
    have on := oks_h hst
    have odp := oks_h (oks_t hst)
    have osp := oks_h (oks_t (oks_t (oks_t hst)))
    have cn := i32_cl g3 on.i.2
    have cdp := i32_cl g2 odp.i.2
    have csp := i32_cl g1 osp.i.2
    intro T hT X
    have hc0 : H[K.1 + x.toNat]? = some (vp_cell (K.2.2.2.1 1) (n0, .inr (.inl fun j => Int64.ofInt (rd M x j)))) := hR.1 x.toNat _ hwx
    have hc1 : H[K.1 + y.toNat]? = some (vp_cell (K.2.2.2.1 1) (n1, .inr (.inl fun j => Int64.ofInt (rd M y j)))) := hR.1 y.toNat _ hwy
    obtain ⟨-, k0, hk0, cm0, hkk0⟩ := (hK.2 1 _ rfl).1 n0 (fun j => .long (Int64.ofInt (rd M x j)))
    obtain ⟨-, k1, hk1, cm1, hkk1⟩ := (hK.2 1 _ rfl).1 n1 (fun j => .long (Int64.ofInt (rd M y j)))
    obtain ⟨vm', X', step⟩ := X.arraycopy hxx hown (hts _ w1) (hts _ w2) (hts _ w3) (hts _ w4) (cs := vp_cell (K.2.2.2.1 1) (n0, .inr (.inl fun j => Int64.ofInt (rd M x j)))) (cd := vp_cell (K.2.2.2.1 1) (n1, .inr (.inl fun j => Int64.ofInt (rd M y j)))) (srcPos := Int32.ofInt sp) (destPos := Int32.ofInt dp) (n := Int32.ofInt n) (by rw [hT]; exact hc0) (by rw [hT]; exact hc1)
      (fun _ h => by cases h) (fun _ h => by cases h) (fun h => by cases h) (fun h => by cases h) hk0 hk1 hkk0 hkk1 (by rfl) (fun c9 => by have := (z32_lt osp).mp c9; omega) (fun c9 => by have := (z32_lt odp).mp c9; omega) (fun c9 => by have := (z32_lt on).mp c9; omega)
      (by rw [i32_tt osp, i32_tt on]; show ¬ _ > ((arrV _ n0 _).slots.size : Int); rw [arrV_size]; omega)
      (by rw [i32_tt odp, i32_tt on]; show ¬ _ > ((arrV _ n1 _).slots.size : Int); rw [arrV_size]; omega)
      (fun vm₁ _ i hi => by
        rw [cn] at hi
        have e : (vp_cell (K.2.2.2.1 1) (n0, .inr (.inl fun j => Int64.ofInt (rd M x j)))).slots.getD ((Int32.ofInt sp).toNatClampNeg + i) .null = .long (Int64.ofInt (rd M x (((Int32.ofInt sp).toNatClampNeg + i : Nat) : Int))) := by
          show (arrV _ n0 (fun j => .long (Int64.ofInt (rd M x j)))).slots.getD _ _ = _
          rw [Array.getD_eq_getD_getElem?, arrV_read _ _ (by rw [csp]; omega)]
          rfl
        rw [e]
        exact ⟨rfl, trivial⟩)
      (g := F0 mid pc lsA (.int (Int32.ofInt n) :: .int (Int32.ofInt dp) :: .ref (K.1 + y.toNat) :: .int (Int32.ofInt sp) :: .ref (K.1 + x.toNat) :: st.map (e_val K))) rfl (by show lsA.size = c.maxLocals; rw [hlv.1, hml]) (rest := st.map (e_val K)) rfl (by rw [hb]; exact hd) (by omega) (by show 2 * 0 + _ + _ ≤ _; rw [e_vcats]; have h60 : nativeFrameWords "java/lang/System" "arraycopy" 5 + 11 ≤ 60 := (by decide +kernel); omega)
    have e1 : copied (vp_cell (K.2.2.2.1 1) (n0, .inr (.inl fun j => Int64.ofInt (rd M x j)))) (vp_cell (K.2.2.2.1 1) (n1, .inr (.inl fun j => Int64.ofInt (rd M y j)))) (Int32.ofInt sp) (Int32.ofInt dp) (Int32.ofInt n) = vp_cell (K.2.2.2.1 1) (n1, .inr (.inl fun j => Int64.ofInt (rd (cpy M x y sp dp n) y j))) := by
      have e2 := va_copied (sp := (Int32.ofInt sp).toNatClampNeg) (dp := (Int32.ofInt dp).toNatClampNeg) (n := (Int32.ofInt n).toNatClampNeg) (fun z => Value.long z) (K.2.2.2.1 1) (K.2.2.2.1 1) (n0 := n0) (n1 := n1) (fun j => Int64.ofInt (rd M x j)) (fun j => Int64.ofInt (rd M y j)) (by rw [csp, cn]; omega)
      refine Eq.trans e2 ?_
      rw [vp_cell_l]
      congr 1
      funext j
      rw [csp, cdp, cn]
      unfold va_cpy
      rw [rd_cpy]
      by_cases c9 : dp.toNat ≤ j ∧ j < dp.toNat + n.toNat
      · rw [if_pos c9, if_pos ⟨rfl, by omega, by omega⟩]
        show Value.long (Int64.ofInt (rd M x ((sp.toNat + (j - dp.toNat) : Nat) : Int))) = _
        rw [show ((sp.toNat + (j - dp.toNat) : Nat) : Int) = sp + ((j : Int) - dp) by omega]
      · rw [if_neg c9, if_neg (by omega)]
    rw [e1] at X' step
    have hl : K.1 + y.toNat < H.size := (Array.getElem?_eq_some_iff.mp hc1).1
    have hheap : ((T.setVm vm').setCell (K.1 + y.toNat) (vp_cell (K.2.2.2.1 1) (n1, .inr (.inl fun j => Int64.ofInt (rd (cpy M x y sp dp n) y j))))).heap = H.setIfInBounds (K.1 + y.toNat) (vp_cell (K.2.2.2.1 1) (n1, .inr (.inl fun j => Int64.ofInt (rd (cpy M x y sp dp n) y j)))) := by rw [← hT]; rfl
    have oq : ∀ q : Nat, q ≠ K.1 + y.toNat → (H.setIfInBounds (K.1 + y.toNat) (vp_cell (K.2.2.2.1 1) (n1, .inr (.inl fun j => Int64.ofInt (rd (cpy M x y sp dp n) y j)))))[q]? = H[q]? := fun q hq => by simp [Array.getElem?_setIfInBounds, Ne.symm hq]
    have hR2 : e_R K (cpy M x y sp dp n) (H.setIfInBounds (K.1 + y.toNat) (vp_cell (K.2.2.2.1 1) (n1, .inr (.inl fun j => Int64.ofInt (rd (cpy M x y sp dp n) y j))))) := by
      refine e_put hR hy rfl rfl (fun z j hz => by rw [rd_cpy, if_neg (by omega)]) (by simp) oq ?_
      rw [e_ent_l K (M := cpy M x y sp dp n) ht1]
      show (H.setIfInBounds (K.1 + y.toNat) _)[K.1 + y.toNat]? = some _
      simp [Array.getElem?_setIfInBounds, hl]
    obtain ⟨t, a1, b1⟩ := kk _ _ hR2 ⟨by simp; exact hS.1, fun q g1 g2 => by
        rw [oq q (fun e => g2 (by rw [e]; exact Nat.le_add_right _ _))]
        exact hS.2.1 q g1 g2, fun q hq => by
        rcases List.mem_append.mp hq with h | h
        · exact hS.2.2 q h
        · obtain ⟨z, -, hz⟩ := List.mem_map.mp h
          rw [← hz]
          exact Nat.le_add_right _ _⟩ _ hheap X'
    exact ⟨t, step t a1, b1⟩
end ACL
end
/-! 23.kept -/
section
/-! what is kept beside the intervals: ops with their args, the Trail's rows -/
theorem fxT_lt : fxT.all (fun e => decide (e.1 < 191)) = true := by decide +kernel
theorem ivF_lt : ivF.all (fun e => decide (e.1 < 191)) = true := by decide +kernel
theorem ivA_lt : ivA.all (fun e => decide (e.1 < 191)) = true := by decide +kernel
theorem wr_t (M : Mem) (x i v : Int) : mT (wr M x i v) = mT M := rfl
/-- an op and its arg are written side by side -/
theorem Gc.two {M : Mem} {x y i a b : Int} (h : Gc M) (hg : good a b) (hx : (x, y) ∈ gcT) : Gc (wr (wr M x i a) y i b) := by
  intro e he j
  have key : ∀ e' ∈ gcT, e'.1 ≠ e'.2 ∧ ∀ e2 ∈ gcT, (e'.1 = e2.1 ↔ e' = e2) ∧ (e'.2 = e2.2 ↔ e' = e2) ∧ e'.1 ≠ e2.2 := by
    intro e' h1
    simp only [gcT, List.mem_cons, List.not_mem_nil, or_false] at h1
    rcases h1 with rfl | rfl | rfl <;> refine ⟨by decide, fun e2 h2 => ?_⟩ <;> simp only [gcT, List.mem_cons, List.not_mem_nil, or_false] at h2 <;> rcases h2 with rfl | rfl | rfl <;> decide
  by_cases c : e = (x, y)
  · subst c
    have k0 := (key _ hx).1
    by_cases cj : j = i
    · subst cj
      rw [rd_ws, rd_wn _ (fun d => k0 d.1), rd_ws]
      exact hg
    · rw [rd_wn _ (fun d => cj d.2), rd_wn _ (fun d => cj d.2), rd_wn _ (fun d => cj d.2), rd_wn _ (fun d => cj d.2)]
      exact h _ hx j
  · have k1 := (key e he).2 _ hx
    have k2 := (key _ hx).2 e he
    have a1 : e.1 ≠ x := fun d => c (k1.1.mp d)
    have a2 : e.2 ≠ y := fun d => c (k1.2.1.mp d)
    have a3 : e.1 ≠ y := k1.2.2
    have a4 : e.2 ≠ x := fun d => k2.2.2 d.symm
    rw [rd_wn _ (fun d => a3 d.1), rd_wn _ (fun d => a1 d.1), rd_wn _ (fun d => a2 d.1), rd_wn _ (fun d => a4 d.1)]
    exact h e he j
theorem gcT_s {x y : Int} (hx : (x, y) ∈ gcT) : x < 191 ∧ y < 191 ∧ 0 ≤ x ∧ 0 ≤ y ∧ x ≠ 63 ∧ x ≠ 69 ∧ y ≠ 63 ∧ y ≠ 69 := by
  simp only [gcT, List.mem_cons, List.not_mem_nil, or_false, Prod.mk.injEq] at hx
  rcases hx with ⟨rfl, rfl⟩ | ⟨rfl, rfl⟩ | ⟨rfl, rfl⟩ <;> decide
/-- the Trail's part of it, where only rows below 191 changed, and neither 63 nor 69 -/
theorem Tl.of {M M2 : Mem} (h : Tl M) (hT : mT M2 = mT M) (hn : M2.1 = M.1) (hz : M2.2.1 = M.2.1) (he : ∀ y i : Int, (y = 63 ∨ 191 ≤ y) → rd M2 y i = rd M y i) : Tl M2 := by
  obtain ⟨t1, t2, t3, t4, t5, t6⟩ := h
  have c : ∀ i : Int, rd M2 63 i = rd M 63 i := fun i => he _ _ (Or.inl rfl)
  refine ⟨?_, ?_, ?_, fun j hj => ?_, ?_, fun j hj i i0 i1 => ?_⟩
  · rw [c]; exact t1
  · rw [hn, c]; exact t2
  · rw [hz, c]; exact t3
  · rw [hT, c, c]; exact t4 j hj
  · rw [c, c, c]; exact t5
  · rw [c] at i1
    rw [c]
    have hx := tref_hi t1 hj
    have hr := (t4 j hj).1
    rw [he _ _ (Or.inr (by rcases hx with hx | hx <;> omega))]
    exact t6 j hj i i0 i1
theorem Xp.two {q : Mem → Prop} {M : Mem} {x y i a b : Int} (h : Xp q M) (hg : good a b) (hx : (x, y) ∈ gcT) (hq : q (wr (wr M x i a) y i b)) : Xp q (wr (wr M x i a) y i b) := by
  have s := gcT_s hx
  refine ⟨h.1.two hg hx, h.2.1.of rfl rfl rfl fun z j hz => ?_, hq⟩
  rw [rd_wn _ (fun d => by have := d.1; omega), rd_wn _ (fun d => by have := d.1; omega)]
/-- the two writes side by side, of rows without places of their own -/
theorem St.two {q : Mem → Prop} {ws : List (Int × Int)} {as : List Int} {M0 M : Mem} {x y i a b lo hi lo2 hi2 : Int} (k k2 : Nat) (h : St q ws as M0 M) (hx : (x, y) ∈ gcT) (hg : good a b) (m1 : x ∈ as) (m2 : y ∈ as)
    (hk : ivA[k]? = some (x, lo, hi)) (hu : ivA.zipIdx.all (fun e => decide (e.2 = k) || !(decide (e.1.1 = x))) = true) (ha : ivF.all (fun e => !decide (e.1 = x)) = true) (hf : fxnoA x = true) (hv : lo ≤ a ∧ a ≤ hi)
    (hk2 : ivA[k2]? = some (y, lo2, hi2)) (hu2 : ivA.zipIdx.all (fun e => decide (e.2 = k2) || !(decide (e.1.1 = y))) = true) (ha2 : ivF.all (fun e => !decide (e.1 = y)) = true) (hf2 : fxnoA y = true) (hv2 : lo2 ≤ b ∧ b ≤ hi2) (hq : q (wr (wr M x i a) y i b)) : St q ws as M0 (wr (wr M x i a) y i b) := by
  have s := gcT_s hx
  have hI : Fx (wr (wr M x i a) y i b) ∧ Iv (wr (wr M x i a) y i b) := by
    refine ⟨h.1.1.of rfl rfl fun e he => ?_, fun e he => ?_, fun e he j => ?_⟩
    · have h1 := List.all_eq_true.mp hf e he
      have h2 := List.all_eq_true.mp hf2 e he
      simp only [Bool.not_eq_true', decide_eq_false_iff_not] at h1 h2
      rw [rd_wn _ (fun d => h2 d.1), rd_wn _ (fun d => h1 d.1)]
    · have h1 := List.all_eq_true.mp ha e he
      have h2 := List.all_eq_true.mp ha2 e he
      simp only [Bool.not_eq_true', decide_eq_false_iff_not] at h1 h2
      rw [rd_wn _ (fun d => h2 d.1), rd_wn _ (fun d => h1 d.1)]
      exact h.1.2.1.1 e he
    · obtain ⟨n, hn0, hn1⟩ := List.getElem_of_mem he
      have g1 := List.all_eq_true.mp hu (e, n) (by rw [← hn1]; exact List.mk_mem_zipIdx_iff_getElem?.mpr (by rw [List.getElem?_eq_getElem hn0]))
      have g2 := List.all_eq_true.mp hu2 (e, n) (by rw [← hn1]; exact List.mk_mem_zipIdx_iff_getElem?.mpr (by rw [List.getElem?_eq_getElem hn0]))
      simp only [Bool.or_eq_true, decide_eq_true_eq, Bool.not_eq_true', decide_eq_false_iff_not] at g1 g2
      have old := h.1.2.1.2 e he j
      have ee : ivA[n]? = some e := by rw [List.getElem?_eq_getElem hn0, hn1]
      rw [rd_wr]
      by_cases c2 : e.1 = y ∧ j = i
      · rw [if_pos c2]
        have : n = k2 := g2.resolve_right (fun d => d c2.1)
        subst this
        rw [ee] at hk2
        cases hk2
        exact hv2
      · rw [if_neg c2, rd_wr]
        by_cases c1 : e.1 = x ∧ j = i
        · rw [if_pos c1]
          have : n = k := g1.resolve_right (fun d => d c1.1)
          subst this
          rw [ee] at hk
          cases hk
          exact hv
        · rw [if_neg c1]
          exact old
  refine ⟨⟨hI.1, hI.2, h.1.2.2.two hg hx hq⟩, fun z j h8 n1 n2 => ?_, fun n1 z j h8 => ?_⟩
  · rw [rd_wn _ (fun d => n1 (by rw [d.1]; exact m2)), rd_wn _ (fun d => n1 (by rw [d.1]; exact m1))]
    exact h.2.1 z j h8 n1 n2
  · rw [rd_wn _ (fun d => by have := d.1; omega), rd_wn _ (fun d => by have := d.1; omega)]
    exact h.2.2 n1 z j h8
/-- the op is known: what its arg is -/
theorem gc_at {q : Mem → Prop} {M : Mem} (h : Xp q M) (x y : Int) (hx : (x, y) ∈ gcT) {i o : Int} (e : rd M x i = o) : (o = 1 → 0 ≤ rd M y i ∧ rd M y i ≤ 2) ∧ (o = 2 ∨ o = 4 → 0 ≤ rd M y i ∧ rd M y i ≤ 5) := by
  have h1 := h.1 _ hx i
  have e2 : rd M (x, y).1 i = o := e
  rw [e2] at h1
  exact h1
-- the Trail
section TRAIL
variable {q : Mem → Prop} {ws : List (Int × Int)} {as : List Int} {M0 M : Mem}
theorem tl_b (h : St q ws as M0 M) {b : Int} (eb : rd M 63 1 = b) : b = 64 ∨ b = 191 ∨ b = 200 ∨ b = 209 ∨ b = 218 ∨ b = 227 ∨ b = 236 := by rw [← eb]; exact h.1.2.2.2.1.1
theorem tl_ref (h : St q ws as M0 M) {b : Int} (eb : rd M 63 1 = b) {j : Int} (hj : j ∈ tJ) : rd M 63 j = tref b j := by rw [← eb]; exact (h.1.2.2.2.1.2.2.2.1 j hj).1
theorem tl_ty (h : St q ws as M0 M) {b r : Int} (eb : rd M 63 1 = b) {j : Int} (hj : j ∈ tJ) (er : r = tref b j) : mT M r = (if j = 5 then 21 else 20, fN b) := by rw [er, ← tl_ref h eb hj, ← eb]; exact (h.1.2.2.2.1.2.2.2.1 j hj).2
theorem tl_tyI (h : St q ws as M0 M) {b r : Int} (eb : rd M 63 1 = b) {j : Int} (hj : j ∈ tJ) (h5 : j ≠ 5) (er : r = tref b j) : mT M r = (20, fN b) := by rw [tl_ty h eb hj er, if_neg h5]
theorem tl_tyL (h : St q ws as M0 M) {b r : Int} (eb : rd M 63 1 = b) (er : r = tref b 5) : mT M r = (21, fN b) := by rw [tl_ty h eb (j := 5) (by decide) er, if_pos rfl]
theorem tl_n (h : St q ws as M0 M) {b : Int} (eb : rd M 63 1 = b) : 0 ≤ rd M 63 0 ∧ rd M 63 0 ≤ fN b ∧ 0 ≤ rd M 63 7 ∧ rd M 63 7 ≤ fN b ∧ (fN b : Int) ≤ 2016 := by
  have h1 := h.1.2.2.2.1.2.2.2.2.1
  rw [eb] at h1
  refine ⟨h1.1, h1.2.1, h1.2.2.1, h1.2.2.2, ?_⟩
  rcases tl_b h eb with rfl | rfl | rfl | rfl | rfl | rfl | rfl <;> decide
theorem tl_hi (h : St q ws as M0 M) {b r i : Int} (eb : rd M 63 1 = b) {j : Int} (hj : j ∈ tJ) (er : r = tref b j) (h0 : 0 ≤ i) (h1 : i < fN b) : 191 ≤ r := by
  have := tref_hi (tl_b h eb) hj
  rcases this with c | c <;> omega
theorem tl_el (h : St q ws as M0 M) {b r i : Int} (eb : rd M 63 1 = b) {j : Int} (hj : j ∈ tJ) (er : r = tref b j) (h0 : 0 ≤ i) (h1 : i < fN b) : tlo j ≤ rd M r i ∧ rd M r i ≤ thi j := by
  have := h.1.2.2.2.1.2.2.2.2.2 j hj i h0 (by rw [eb]; exact h1)
  rw [tl_ref h eb hj, ← er] at this
  exact this
theorem tl_eI (h : St q ws as M0 M) {b r i : Int} (eb : rd M 63 1 = b) {j : Int} (hj : j ∈ tJ) (h5 : ¬ (j = 1 ∨ j = 8) ∧ j ≠ 5) (er : r = tref b j) (h0 : 0 ≤ i) (h1 : i < fN b) : -2147483648 ≤ rd M r i ∧ rd M r i ≤ 2147483647 := by
  have := tl_el h eb hj er h0 h1
  unfold tlo thi at this
  rw [if_neg h5.1, if_neg h5.1, if_neg h5.2, if_neg h5.2] at this
  exact this
theorem tl_eP (h : St q ws as M0 M) {b r i : Int} (eb : rd M 63 1 = b) {j : Int} (hj : j ∈ tJ) (h5 : j = 1 ∨ j = 8) (er : r = tref b j) (h0 : 0 ≤ i) (h1 : i < fN b) : 0 ≤ rd M r i ∧ rd M r i ≤ 5 := by
  have := tl_el h eb hj er h0 h1
  unfold tlo thi at this
  rw [if_pos h5, if_pos h5] at this
  exact this
theorem tl_eL (h : St q ws as M0 M) {b r i : Int} (eb : rd M 63 1 = b) (er : r = tref b 5) (h0 : 0 ≤ i) (h1 : i < fN b) : -9223372036854775808 ≤ rd M r i ∧ rd M r i ≤ 9223372036854775807 := by
  have := tl_el h eb (j := 5) (by decide) er h0 h1
  unfold tlo thi at this
  have n1 : ¬ ((5 : Int) = 1 ∨ (5 : Int) = 8) := by decide
  rw [if_neg n1, if_neg n1, if_pos rfl, if_pos rfl] at this
  exact this
theorem tref_inj {b j k : Int} (hb : b = 64 ∨ b = 191 ∨ b = 200 ∨ b = 209 ∨ b = 218 ∨ b = 227 ∨ b = 236) (hj : j ∈ tJ) (hk : k ∈ tJ) (h : tref b j = tref b k) : j = k := by
  simp only [tJ, List.mem_cons, List.not_mem_nil, or_false] at hj hk
  rcases hb with rfl | rfl | rfl | rfl | rfl | rfl | rfl <;> rcases hj with rfl | rfl | rfl | rfl | rfl | rfl | rfl | rfl | rfl <;> rcases hk with rfl | rfl | rfl | rfl | rfl | rfl | rfl | rfl | rfl <;> first | rfl | exact absurd h (by decide)
/-- a write into one of the Trail's rows -/
theorem tl_wr (h : St q ws as M0 M) (m : (191 : Int) ∈ as) {b r i v : Int} (eb : rd M 63 1 = b) {j : Int} (hj : j ∈ tJ) (er : r = tref b j) (h0 : 0 ≤ i) (h1 : i < fN b) (hv : tlo j ≤ v ∧ v ≤ thi j) (hq : q (wr M r i v)) : St q ws as M0 (wr M r i v) := by
  have hr := tl_hi h eb hj er h0 h1
  have lt : ∀ (y k : Int), y < 191 → rd (wr M r i v) y k = rd M y k := fun y k hy => rd_wn _ (fun d => by have := d.1; omega)
  obtain ⟨hF, hV, hG, ⟨t1, t2, t3, t4, t5, t6⟩, hR⟩ := h.1
  refine ⟨⟨hF.of rfl rfl fun e he => lt _ _ ?_, ⟨fun e he => ?_, fun e he k => ?_⟩, fun e he k => ?_, ⟨?_, ?_, ?_, fun k hk => ?_, ?_, fun j2 hj2 k i0 i1 => ?_⟩, hq⟩, fun y k h8 n1 n2 => ?_, fun n1 => absurd m n1⟩
  · simpa using List.all_eq_true.mp fxT_lt e he
  · rw [lt _ _ (by simpa using List.all_eq_true.mp ivF_lt e he)]
    exact hV.1 e he
  · rw [lt _ _ (by simpa using List.all_eq_true.mp ivA_lt e he)]
    exact hV.2 e he k
  · have s := gcT_s he
    rw [lt _ _ s.1, lt _ _ s.2.1]
    exact hG e he k
  · rw [lt _ _ (by decide)]; exact t1
  · rw [lt _ _ (by decide)]; exact t2
  · rw [lt _ _ (by decide)]; exact t3
  · rw [lt _ _ (by decide), lt _ _ (by decide)]; exact t4 k hk
  · rw [lt _ _ (by decide), lt _ _ (by decide), lt _ _ (by decide)]; exact t5
  · rw [lt 63 _ (by decide)] at i1
    rw [lt 63 _ (by decide), rd_wr]
    by_cases c : rd M 63 j2 = r ∧ k = i
    · rw [if_pos c]
      have e1 := tl_ref h eb hj2
      have e2 : j = j2 := tref_inj (tl_b h eb) hj hj2 (by rw [← er, ← e1, c.1])
      rw [← e2]
      exact hv
    · rw [if_neg c]
      exact t6 j2 hj2 k i0 i1
  · rw [lt _ _ h8]; exact h.2.1 y k h8 n1 n2
theorem Tl.cnt {M : Mem} {k v : Int} (h : Tl M) (hk : k = 0 ∨ k = 7) (h0 : 0 ≤ v) (h1 : v ≤ fN (rd M 63 1)) : Tl (wr M 63 k v) := by
  obtain ⟨t1, t2, t3, t4, t5, t6⟩ := h
  have lt : ∀ (y j : Int), y ≠ 63 ∨ (j ≠ 0 ∧ j ≠ 7) → rd (wr M 63 k v) y j = rd M y j := fun y j hy => rd_wn _ (fun d => by have := d.1; have := d.2; omega)
  refine ⟨?_, ?_, ?_, fun j hj => ?_, ?_, fun j hj i i0 i1 => ?_⟩
  · rw [lt _ _ (by decide)]; exact t1
  · rw [lt _ _ (by decide)]; exact t2
  · rw [lt _ _ (by decide)]; exact t3
  · have hj2 : j ≠ 0 ∧ j ≠ 7 := by
      simp only [tJ, List.mem_cons, List.not_mem_nil, or_false] at hj
      omega
    rw [lt 63 j (Or.inr hj2), lt 63 1 (by decide)]
    exact t4 j hj
  · rw [lt 63 1 (by decide)]
    rcases hk with rfl | rfl
    · rw [rd_ws, rd_wn _ (by decide)]
      exact ⟨h0, h1, t5.2.2⟩
    · rw [rd_ws, rd_wn _ (by decide)]
      exact ⟨t5.1, t5.2.1, h0, h1⟩
  · have hj2 : j ≠ 0 ∧ j ≠ 7 := by
      simp only [tJ, List.mem_cons, List.not_mem_nil, or_false] at hj
      omega
    rw [lt 63 1 (by decide)] at i1
    rw [lt 63 j (Or.inr hj2)]
    have hr := (t4 j hj).1
    rw [lt _ _ (Or.inl (by rcases tref_hi t1 hj with c | c <;> omega))]
    exact t6 j hj i i0 i1
/-- a count of the Trail is written -/
theorem xp_cnt {M : Mem} {b k v : Int} (h : Xp q M) (eb : rd M 63 1 = b) (hk : k = 0 ∨ k = 7) (h0 : 0 ≤ v) (h1 : v ≤ fN b) (hq : q (wr M 63 k v)) : Xp q (wr M 63 k v) := by
  refine ⟨fun e he j => ?_, h.2.1.cnt hk h0 (by rw [eb]; exact h1), hq⟩
  have s := gcT_s he
  rw [rd_wn _ (fun d => by have := d.1; omega), rd_wn _ (fun d => by have := d.1; omega)]
  exact h.1 e he j
/-- behind a run's begin: a PART that isn't asleep is in a STRETCH that is there -/
def Rn (M : Mem) : Prop := ∀ p : Int, 0 ≤ p → p < 6 → rd M 69 p < rd M 63 0
theorem Rn.of {M M2 : Mem} (h : Rn M) (h0 : ∀ j : Int, rd M2 69 j = rd M 69 j) (h1 : rd M2 63 0 = rd M 63 0) : Rn M2 := fun p p0 p1 => by
  rw [h0, h1]
  exact h p p0 p1
theorem tl_r (h : St Rn ws as M0 M) {p : Int} (p0 : 0 ≤ p) (p1 : p < 6) {c : Int} (ec : rd M 63 0 = c) : rd M 69 p < c := by rw [← ec]; exact h.1.2.2.2.2 p p0 p1
theorem Rn.run {M : Mem} {i v : Int} (h : Rn M) (hv : v < rd M 63 0) : Rn (wr M 69 i v) := fun p p0 p1 => by
  have e9 : rd (wr M 69 i v) 63 0 = rd M 63 0 := rd_wn M (fun d => absurd d.1 (by decide))
  rw [e9, rd_wr]
  split
  · exact hv
  · exact h p p0 p1
/-- a STRETCH is there once it is counted -/
theorem st_up {M : Mem} {b v : Int} (h : St Tru ws as M0 M) (m : ((63, 0) : Int × Int) ∈ ws) (eb : rd M 63 1 = b) (h0 : 0 ≤ v) (h1 : v ≤ fN b) (hr : ∀ p : Int, 0 ≤ p → p < 6 → rd M 69 p < v) : St Rn ws as M0 (wr M 63 0 v) := by
  have hn := tl_n h eb
  refine St.rn (stX_63_0 h m (by omega) (xp_cnt h.1.2.2 eb (Or.inl rfl) h0 h1 trivial)) fun p p0 p1 => ?_
  rw [rd_ws, rd_wn _ (fun d => absurd d.1 (by decide))]
  exact hr p p0 p1
theorem fil_at {M : Mem} {x v j : Int} {n : Nat} (h0 : 0 ≤ j) (h1 : j < n) : rd (fil M x n v) x j = v := by rw [rd_fil, if_pos ⟨rfl, h0, h1⟩]
/-- which ones of a machine's LINES come next are LINES, or the end -/
def Yn15 (M : Mem) : Prop := ∀ k : Int, 0 ≤ k → k < rd M 15 0 → 0 ≤ rd M 19 k ∧ 0 ≤ rd M 20 k
def Yn35 (M : Mem) : Prop := ∀ k : Int, 0 ≤ k → k < rd M 35 0 → 0 ≤ rd M 39 k ∧ 0 ≤ rd M 40 k
theorem Yn15.of {M M2 : Mem} (h : Yn15 M) (h0 : ∀ j : Int, rd M2 19 j = rd M 19 j) (h1 : ∀ j : Int, rd M2 20 j = rd M 20 j) (h2 : rd M2 15 0 = rd M 15 0) : Yn15 M2 := fun k k0 k1 => by
  rw [h0, h1]
  exact h k k0 (by rw [← h2]; exact k1)
theorem Yn35.of {M M2 : Mem} (h : Yn35 M) (h0 : ∀ j : Int, rd M2 39 j = rd M 39 j) (h1 : ∀ j : Int, rd M2 40 j = rd M 40 j) (h2 : rd M2 35 0 = rd M 35 0) : Yn35 M2 := fun k k0 k1 => by
  rw [h0, h1]
  exact h k k0 (by rw [← h2]; exact k1)
end TRAIL
end
/-! 24.room -/
section
/-! the Trail's rows made longer: nine new rows, one behind another -/
def tjk (k : Nat) : Int := if k < 5 then k + 1 else k + 3
def Hf (M0 : Mem) (n k : Nat) (M : Mem) : Prop := M.1 = M0.1 + k ∧ M.2.1 = M0.2.1 + k * n ∧ (∀ x : Int, x < M0.1 → mT M x = mT M0 x) ∧ (∀ i : Nat, i < k → mT M ((M0.1 : Int) + i) = (if tjk i = 5 then 21 else 20, n))
  ∧ (∀ y j : Int, y < M0.1 → (∀ i : Nat, i < k → ¬ (y = 63 ∧ j = tjk i)) → rd M y j = rd M0 y j) ∧ (∀ i : Nat, i < k → rd M 63 (tjk i) = (M0.1 : Int) + i) ∧ ∀ i : Nat, i < k → ∀ j : Int, tlo (tjk i) ≤ rd M ((M0.1 : Int) + i) j ∧ rd M ((M0.1 : Int) + i) j ≤ thi (tjk i)
theorem Hf.rf (M0 : Mem) (n : Nat) : Hf M0 n 0 M0 := ⟨rfl, by omega, fun _ _ => rfl, fun i h => absurd h (Nat.not_lt_zero _), fun _ _ _ _ => rfl, fun i h => absurd h (Nat.not_lt_zero _), fun i h => absurd h (Nat.not_lt_zero _)⟩
theorem tjk_inj {i k : Nat} (h : tjk i = tjk k) : i = k := by
  unfold tjk at h
  split at h <;> split at h <;> omega
theorem tlo_thi (j : Int) : tlo j ≤ 0 ∧ 0 ≤ thi j := by
  unfold tlo thi
  split
  · omega
  · split <;> omega
theorem Hf.step {M0 M : Mem} {n k N : Nat} {r f : Int} {c : Nat} (h : Hf M0 n k M) (h63 : (63 : Int) < M0.1) (hf : f = tjk k) (hc : c = if f = 5 then 21 else 20) (hr : rd M0 63 f = r) (hr1 : r < M0.1) (hr0 : r ≠ 63) (hel : ∀ i : Int, 0 ≤ i → i < N → tlo f ≤ rd M0 r i ∧ rd M0 r i ≤ thi f) : Hf M0 n (k + 1) (wr (cpy (mnew M (c, n)) r (M.1 : Int) 0 0 N) 63 f (M.1 : Int)) := by
  obtain ⟨h1, h2, h3, h4, h5, h6, h7⟩ := h
  have ea : (M.1 : Int) = (M0.1 : Int) + k := by omega
  have mt : ∀ x : Int, mT (wr (cpy (mnew M (c, n)) r (M.1 : Int) 0 0 N) 63 f (M.1 : Int)) x = if x = (M.1 : Int) then (c, n) else mT M x := fun x => mT_nw M _ x
  have low : ∀ y j : Int, y ≠ (M.1 : Int) → ¬ (y = 63 ∧ j = f) → rd (wr (cpy (mnew M (c, n)) r (M.1 : Int) 0 0 N) 63 f (M.1 : Int)) y j = rd M y j := fun y j c1 c2 => by
    rw [rd_wn _ c2, rd_cpy, if_neg (fun d => c1 d.1), rd_nw, if_neg c1]
  refine ⟨by show M.1 + 1 = _; omega, ?_, fun x hx => ?_, fun i hi => ?_, fun y j hy hn => ?_, fun i hi => ?_, fun i hi j => ?_⟩
  · show M.2.1 + n = _
    rw [h2, Nat.succ_mul]
    omega
  · rw [mt, if_neg (by omega)]
    exact h3 x hx
  · rw [mt]
    by_cases d : i = k
    · subst d
      rw [if_pos ea.symm, hc, hf]
    · rw [if_neg (by omega)]
      exact h4 i (by omega)
  · rw [low y j (by omega) (fun d => hn k (by omega) ⟨d.1, d.2.trans hf⟩)]
    exact h5 y j hy fun i hi => hn i (by omega)
  · by_cases d : i = k
    · subst d
      rw [← hf, rd_ws]
      exact ea
    · rw [low _ _ (by omega) (fun e => d (tjk_inj (e.2.trans hf)))]
      exact h6 i (by omega)
  · by_cases d : i = k
    · subst d
      rw [← ea, rd_wn _ (fun e => by have := e.1; omega), rd_cpy, ← hf]
      have hz := tlo_thi f
      by_cases e : (0 : Int) ≤ j ∧ j < 0 + N
      · rw [if_pos ⟨rfl, e.1, e.2⟩, rd_nw, if_neg (by omega), h5 r _ hr1 (fun i hi e9 => hr0 e9.1)]
        have := hel (0 + (j - 0)) (by omega) (by omega)
        exact this
      · rw [if_neg (fun e9 => e ⟨e9.2.1, e9.2.2⟩), rd_nw, if_pos rfl]
        unfold e_df
        rw [if_neg (by rw [hc]; split <;> omega)]
        exact hz
    · rw [low _ _ (by omega) (fun e => by have := e.1; omega)]
      exact h7 i (by omega) j
theorem tjk_in {k : Nat} (h : k < 9) : tjk k ∈ tJ := by
  obtain rfl | rfl | rfl | rfl | rfl | rfl | rfl | rfl | rfl : k = 0 ∨ k = 1 ∨ k = 2 ∨ k = 3 ∨ k = 4 ∨ k = 5 ∨ k = 6 ∨ k = 7 ∨ k = 8 := by omega
  all_goals decide
theorem tjk_of {j : Int} (h : j ∈ tJ) : ∃ k : Nat, k < 9 ∧ j = tjk k := by
  simp only [tJ, List.mem_cons, List.not_mem_nil, or_false] at h
  rcases h with rfl | rfl | rfl | rfl | rfl | rfl | rfl | rfl | rfl
  · exact ⟨0, by decide, rfl⟩
  · exact ⟨1, by decide, rfl⟩
  · exact ⟨2, by decide, rfl⟩
  · exact ⟨3, by decide, rfl⟩
  · exact ⟨4, by decide, rfl⟩
  · exact ⟨5, by decide, rfl⟩
  · exact ⟨6, by decide, rfl⟩
  · exact ⟨7, by decide, rfl⟩
  · exact ⟨8, by decide, rfl⟩
theorem fx63 : fxT.all (fun e => !(decide (e.1 = 63) && tJ.contains e.2.1)) = true := by decide +kernel
theorem ivA63 : ivA.all (fun e => !decide (e.1 = 63)) = true := by decide +kernel
theorem ivF63 : ivF.all (fun e => !(decide (e.1 = 63) && tJ.contains e.2.1) || decide (e.2.2.1 ≤ 0 ∧ 300 ≤ e.2.2.2)) = true := by decide +kernel
/-- behind the ninth all is as it was -/
theorem Hf.done {ws : List (Int × Int)} {as : List Int} {M0 M : Mem} {b : Int} {n : Nat} (hI : In Tru M0) (eb : rd M0 63 1 = b) (hb : b ≠ 236) (hn : n = 2 * fN b + 32) (h : Hf M0 n 9 M) (m1 : (191 : Int) ∈ as) (m2 : tJ.all (fun j => ws.contains (63, j)) = true) : St Tru ws as M0 M := by
  obtain ⟨h1, h2, h3, h4, h5, h6, h7⟩ := h
  obtain ⟨hF, hV, hG, ⟨t1, t2, t3, t4, t5, t6⟩, -⟩ := hI
  rw [eb] at t1 t2 t3 t5
  have key : (M0.1 : Int) = tcell b ∧ 191 ≤ M0.1 ∧ fN (M0.1 : Int) = n ∧ tcell (M0.1 : Int) = M0.1 + 9 ∧ tslot (M0.1 : Int) = M0.2.1 + 9 * n ∧ ((M0.1 : Int) = 191 ∨ (M0.1 : Int) = 200 ∨ (M0.1 : Int) = 209 ∨ (M0.1 : Int) = 218 ∨ (M0.1 : Int) = 227 ∨ (M0.1 : Int) = 236) := by
    rw [t3, hn]
    rcases t1 with rfl | rfl | rfl | rfl | rfl | rfl | rfl <;> first | exact absurd rfl hb | (rw [t2]; decide)
  obtain ⟨k1, k2, k3, k4, k5, k6⟩ := key
  have low : ∀ y j : Int, y < 191 → y ≠ 63 ∨ j ∉ tJ → rd M y j = rd M0 y j := fun y j hy hj => h5 y j (by omega) fun i hi e => hj.elim (fun c => c e.1) (fun c => c (by rw [e.2]; exact tjk_in hi))
  have e63 : ∀ k : Nat, k < 9 → rd M 63 (tjk k) = (M0.1 : Int) + k := h6
  have eB : rd M 63 1 = (M0.1 : Int) := by
    have := e63 0 (by decide)
    simpa [tjk] using this
  refine ⟨⟨⟨fun x hx => by rw [h3 x (by omega)]; exact hF.1 x hx, by omega, fun e he => ?_⟩, ⟨fun e he => ?_, fun e he j => ?_⟩, fun e he j => ?_, ⟨?_, ?_, ?_, fun j hj => ?_, ?_, fun j hj i i0 i1 => ?_⟩, trivial⟩, fun x j h8 n1 n2 => ?_, fun c => absurd m1 c⟩
  · have g1 := List.all_eq_true.mp fxT_lt e he
    have g2 := List.all_eq_true.mp fx63 e he
    simp only [decide_eq_true_eq] at g1
    have g3 : e.1 ≠ 63 ∨ e.2.1 ∉ tJ := by
      rcases Classical.em (e.1 = 63) with d | d
      · refine Or.inr fun z => ?_
        rw [decide_eq_true d, show tJ.contains e.2.1 = true by simpa using z] at g2
        cases g2
      · exact Or.inl d
    rw [low _ _ g1 g3]
    exact hF.2.2 e he
  · have g1 := List.all_eq_true.mp ivF_lt e he
    simp only [decide_eq_true_eq] at g1
    by_cases c : e.1 = 63 ∧ e.2.1 ∈ tJ
    · have g2 := List.all_eq_true.mp ivF63 e he
      obtain ⟨k, hk, ek⟩ := tjk_of c.2
      rw [decide_eq_true c.1, show tJ.contains e.2.1 = true by simpa using c.2] at g2
      have g3 := of_decide_eq_true (show decide (e.2.2.1 ≤ 0 ∧ 300 ≤ e.2.2.2) = true from g2)
      rw [c.1, ek, e63 k hk]
      omega
    · rw [low _ _ g1 (by rcases Classical.em (e.1 = 63) with d | d; exact Or.inr (fun q => c ⟨d, q⟩); exact Or.inl d)]
      exact hV.1 e he
  · have g1 := List.all_eq_true.mp ivA_lt e he
    have g2 := List.all_eq_true.mp ivA63 e he
    simp only [decide_eq_true_eq] at g1
    simp only [Bool.not_eq_true', decide_eq_false_iff_not] at g2
    rw [low _ _ g1 (Or.inl g2)]
    exact hV.2 e he j
  · have s := gcT_s he
    rw [low _ _ s.1 (Or.inl s.2.2.2.2.1), low _ _ s.2.1 (Or.inl s.2.2.2.2.2.2.1)]
    exact hG e he j
  · rw [eB]; exact Or.inr k6
  · rw [eB, k4, h1]
  · rw [eB, k5, h2]
  · obtain ⟨k, hk, rfl⟩ := tjk_of hj
    rw [eB, e63 k hk, h4 k hk, k3]
    refine ⟨?_, rfl⟩
    unfold tref tjk
    by_cases c : k < 5
    · rw [if_pos c, if_pos (by omega)]; omega
    · rw [if_neg c, if_neg (by omega), if_neg (by omega)]; omega
  · rw [eB, low 63 0 (by decide) (Or.inr (by decide)), low 63 7 (by decide) (Or.inr (by decide)), k3]
    omega
  · obtain ⟨k, hk, rfl⟩ := tjk_of hj
    rw [e63 k hk]
    exact h7 k hk i
  · refine low x j h8 ?_
    rcases Classical.em (x = 63) with d | d
    · refine Or.inr fun q => n2 ?_
      rw [d]
      have := List.all_eq_true.mp m2 j q
      simpa using this
    · exact Or.inl d
end
/-! 24b.bits -/
section
/-! bits of longs -/
def u64 (x : Int) : Nat := (x % 18446744073709551616).toNat
theorem u64_lt (x : Int) : u64 x < 18446744073709551616 := by unfold u64; omega
theorem i64_nat (x : Int) : (Int64.ofInt x).toBitVec.toNat = u64 x := by
  show (BitVec.ofInt 64 x).toNat = _
  rw [BitVec.toNat_ofInt]
  rfl
theorem i64_low (b : BitVec 64) (h : b.toNat < 9223372036854775808) : b.toInt = (b.toNat : Int) := BitVec.toInt_eq_toNat_of_lt (by omega)
/-- land with the k lowest bits -/
theorem f_land_m {a m : Int} (k : Nat) (hk : k ≤ 62) (hm : (Int64.ofInt m).toBitVec.toNat = 2 ^ k - 1) : f_land a m = ((u64 a % 2 ^ k : Nat) : Int) := by
  unfold f_land
  have h1 : (Int64.ofInt a &&& Int64.ofInt m).toBitVec.toNat = u64 a % 2 ^ k := by
    rw [Int64.toBitVec_and, BitVec.toNat_and, hm, i64_nat, Nat.and_two_pow_sub_one_eq_mod]
  have h2 : u64 a % 2 ^ k < 2 ^ k := Nat.mod_lt _ (Nat.two_pow_pos k)
  have h3 : 2 ^ k ≤ 2 ^ 62 := Nat.pow_le_pow_right (by decide) hk
  show BitVec.toInt _ = _
  rw [i64_low _ (by rw [h1]; omega), h1]
theorem f_land_1 (a : Int) : f_land a 1 = a % 2 ∧ 0 ≤ f_land a 1 ∧ f_land a 1 ≤ 1 := by
  rw [f_land_m (a := a) (m := 1) 1 (by decide) (by decide)]
  unfold u64
  omega
theorem f_land_b {a m : Int} (k : Nat) (hk : k ≤ 62) (hm : (Int64.ofInt m).toBitVec.toNat = 2 ^ k - 1) (he : ((2 ^ k - 1 : Nat) : Int) = m) : 0 ≤ f_land a m ∧ f_land a m ≤ m := by
  rw [f_land_m k hk hm]
  have h2 : u64 a % 2 ^ k < 2 ^ k := Nat.mod_lt _ (Nat.two_pow_pos k)
  omega
theorem lushr_k (a : Int) (s : Nat) (s0 : 1 ≤ s) (s1 : s < 64) (hy : ((Int32.ofInt (s : Int)).toInt64.toUInt64 &&& Int64.toUInt64 63).toNat = s) : f_lushr a (s : Int) = ((u64 a / 2 ^ s : Nat) : Int) := by
  unfold f_lushr
  have h1 : ((Int64.ofInt a).toUInt64 >>> ((Int32.ofInt (s : Int)).toInt64.toUInt64 &&& Int64.toUInt64 63)).toNat = u64 a / 2 ^ s := by
    rw [UInt64.toNat_shiftRight, hy, Nat.mod_eq_of_lt s1, Nat.shiftRight_eq_div_pow]
    exact congrArg (· / 2 ^ s) (i64_nat a)
  have h2 : u64 a / 2 ^ s < 9223372036854775808 := by
    have h3 : 2 ^ 1 ≤ 2 ^ s := Nat.pow_le_pow_right (by decide) s0
    have h4 := u64_lt a
    exact Nat.div_lt_of_lt_mul (by omega)
  show BitVec.toInt (((Int64.ofInt a).toUInt64 >>> _).toBitVec) = _
  rw [i64_low _ (by show UInt64.toNat _ < _; rw [h1]; exact h2)]
  show ((UInt64.toNat _ : Nat) : Int) = _
  rw [h1]
theorem lushr_1 (a : Int) : f_lushr a 1 = ((u64 a / 2 : Nat) : Int) := lushr_k a 1 (by decide) (by decide) (by decide +kernel)
theorem lushr_8 (a : Int) : f_lushr a 8 = ((u64 a / 256 : Nat) : Int) := lushr_k a 8 (by decide) (by decide) (by decide +kernel)
theorem lushr_p1 (a : Int) : (0 ≤ f_lushr a 1 ∧ f_lushr a 1 ≤ 9223372036854775807) ∧ f_lushr a 1 = (a % 18446744073709551616) / 2 := by
  rw [lushr_1]
  unfold u64
  omega
theorem lushr_p8 (a : Int) : (0 ≤ f_lushr a 8 ∧ f_lushr a 8 ≤ 72057594037927935) ∧ f_lushr a 8 = (a % 18446744073709551616) / 256 := by
  rw [lushr_8]
  unfold u64
  omega
/-- how many bits -/
def popN : Nat → Nat → Nat
  | 0, _ => 0
  | k + 1, n => n % 2 + popN k (n / 2)
def pop (x : Int) : Nat := popN 64 (u64 x)
theorem popN_le (k : Nat) : ∀ n, popN k n ≤ k := by
  induction k with
  | zero => intro n; exact Nat.le_refl 0
  | succ k ih =>
    intro n
    have := ih (n / 2)
    unfold popN
    omega
theorem popN_ext (k : Nat) : ∀ n, n < 2 ^ k → popN (k + 1) n = popN k n := by
  induction k with
  | zero =>
    intro n h
    have : n = 0 := by omega
    subst this
    rfl
  | succ k ih =>
    intro n h
    have h2 := ih (n / 2) (by rw [Nat.pow_succ] at h; omega)
    show n % 2 + popN (k + 1) (n / 2) = n % 2 + popN k (n / 2)
    rw [h2]
theorem popN_pos (k : Nat) : ∀ n, n < 2 ^ k → n ≠ 0 → 0 < popN k n := by
  induction k with
  | zero => intro n h h0; omega
  | succ k ih =>
    intro n h h0
    show 0 < n % 2 + popN k (n / 2)
    by_cases c : n % 2 = 0
    · have := ih (n / 2) (by rw [Nat.pow_succ] at h; omega) (by omega)
      omega
    · omega
theorem popN_zero (k : Nat) : popN k 0 = 0 := by
  induction k with
  | zero => rfl
  | succ k ih =>
    show 0 % 2 + popN k (0 / 2) = 0
    rw [Nat.zero_div, ih]
theorem pop_le (x : Int) : pop x ≤ 64 := popN_le 64 _
theorem pop_0 : pop 0 = 0 := popN_zero 64
theorem pop_pos {x : Int} (h : x ≠ 0) (h2 : -9223372036854775808 ≤ x ∧ x ≤ 9223372036854775807) : 0 < pop x := popN_pos 64 _ (u64_lt x) (by unfold u64; omega)
theorem pop_half (x : Int) : (pop x : Int) = x % 2 + pop (f_lushr x 1) := by
  rw [lushr_1]
  have e : u64 ((u64 x / 2 : Nat) : Int) = u64 x / 2 := by
    have := u64_lt x
    unfold u64 at this ⊢
    omega
  unfold pop
  rw [e, popN_ext 63 (u64 x / 2) (by have := u64_lt x; omega)]
  show ((u64 x % 2 + popN 63 (u64 x / 2) : Nat) : Int) = _
  unfold u64
  omega
theorem rem_abs (a b : Int) (h : -9223372036854775808 ≤ a ∧ a ≤ 9223372036854775807) (hb : b ≠ 0) : (-9223372036854775808 ≤ a.tmod b ∧ a.tmod b ≤ 9223372036854775807) ∧ ((0 < b → -b < a.tmod b ∧ a.tmod b < b) ∧ (b < 0 → b < a.tmod b ∧ a.tmod b < -b)) := by
  have h1 := rem64_b a b h
  have h2 : (a.tmod b).natAbs < b.natAbs := by
    rw [Int.natAbs_tmod]
    exact Nat.mod_lt _ (by omega)
  exact ⟨h1, fun c => by omega, fun c => by omega⟩
theorem orders_mul {v k : Int} (h : (k = 2 ∧ v = 1) ∨ (k = 3 ∧ v = 2) ∨ (k = 4 ∧ v = 6) ∨ (k = 5 ∧ v = 24) ∨ (k = 6 ∧ v = 120) ∨ (k = 7 ∧ v = 720) ∨ (k = 8 ∧ v = 5040) ∨ (k = 9 ∧ v = 40320) ∨ 9 < k) : (-9223372036854775808 ≤ w64 (v * k) ∧ w64 (v * k) ≤ 9223372036854775807) ∧ ((k = 2 ∧ w64 (v * k) = 2) ∨ (k = 3 ∧ w64 (v * k) = 6) ∨ (k = 4 ∧ w64 (v * k) = 24) ∨ (k = 5 ∧ w64 (v * k) = 120) ∨ (k = 6 ∧ w64 (v * k) = 720) ∨ (k = 7 ∧ w64 (v * k) = 5040) ∨ (k = 8 ∧ w64 (v * k) = 40320) ∨ 8 < k) := by
  refine ⟨w64_b _, ?_⟩
  rcases h with ⟨rfl, rfl⟩ | ⟨rfl, rfl⟩ | ⟨rfl, rfl⟩ | ⟨rfl, rfl⟩ | ⟨rfl, rfl⟩ | ⟨rfl, rfl⟩ | ⟨rfl, rfl⟩ | ⟨rfl, rfl⟩ | h
  · exact Or.inl ⟨rfl, by decide⟩
  · exact Or.inr (Or.inl ⟨rfl, by decide⟩)
  · exact Or.inr (Or.inr (Or.inl ⟨rfl, by decide⟩))
  · exact Or.inr (Or.inr (Or.inr (Or.inl ⟨rfl, by decide⟩)))
  · exact Or.inr (Or.inr (Or.inr (Or.inr (Or.inl ⟨rfl, by decide⟩))))
  · exact Or.inr (Or.inr (Or.inr (Or.inr (Or.inr (Or.inl ⟨rfl, by decide⟩)))))
  · exact Or.inr (Or.inr (Or.inr (Or.inr (Or.inr (Or.inr (Or.inl ⟨rfl, by decide⟩))))))
  · omega
  · omega
theorem lushr_pop (a : Int) : f_lushr a 1 = (a % 18446744073709551616) / 2 ∧ (0 ≤ f_lushr a 1 ∧ f_lushr a 1 ≤ 9223372036854775807) ∧ (pop a : Int) = a % 2 + pop (f_lushr a 1) := ⟨(lushr_p1 a).2, (lushr_p1 a).1, pop_half a⟩
theorem pop_b {a v n : Int} (h : n + pop v = pop a) (hv : v = 0) (h2 : -9223372036854775808 ≤ a ∧ a ≤ 9223372036854775807) : (n = pop a ∧ 0 ≤ n ∧ n ≤ 64) ∧ (a = 0 ∨ 1 ≤ n) := by
  subst hv
  rw [pop_0] at h
  have h3 := pop_le a
  refine ⟨by omega, ?_⟩
  by_cases c : a = 0
  · exact Or.inl c
  · have := pop_pos c h2
    omega
end
/-! 24c.bits -/
section
/-! Long.bitCount, Integer.bitCount: what they work out is how many bits there are -/
theorem and_by (a c : Nat) {b d : Nat} (hb : b < 256) (hd : d < 256) : (256 * a + b) &&& (256 * c + d) = 256 * (a &&& c) + (b &&& d) := by
  have h1 : ((256 * a + b) &&& (256 * c + d)) / 2 ^ 8 = (256 * a + b) / 2 ^ 8 &&& (256 * c + d) / 2 ^ 8 := Nat.and_div_two_pow
  have h2 : ((256 * a + b) &&& (256 * c + d)) % 2 ^ 8 = (256 * a + b) % 2 ^ 8 &&& (256 * c + d) % 2 ^ 8 := Nat.and_mod_two_pow
  rw [show (256 * a + b) / 2 ^ 8 = a by omega, show (256 * c + d) / 2 ^ 8 = c by omega] at h1
  rw [show (256 * a + b) % 2 ^ 8 = b by omega, show (256 * c + d) % 2 ^ 8 = d by omega] at h2
  obtain ⟨X, hX⟩ : ∃ X, (256 * a + b) &&& (256 * c + d) = X := ⟨_, rfl⟩
  obtain ⟨A, hA⟩ : ∃ A, a &&& c = A := ⟨_, rfl⟩
  obtain ⟨B, hB⟩ : ∃ B, b &&& d = B := ⟨_, rfl⟩
  rw [hX, hA] at h1
  rw [hX, hB] at h2
  rw [hX, hA, hB]
  omega
def mk5 : Nat → Nat
  | 0 => 0
  | n + 1 => 256 * mk5 n + 85
def mk3 : Nat → Nat
  | 0 => 0
  | n + 1 => 256 * mk3 n + 51
def mkf : Nat → Nat
  | 0 => 0
  | n + 1 => 256 * mkf n + 15
def sw1 (n u : Nat) : Nat := u - ((u / 2) &&& mk5 n)
def sw2 (n u : Nat) : Nat := (u &&& mk3 n) + ((u / 4) &&& mk3 n)
def sw3 (n u : Nat) : Nat := (u + u / 16) &&& mkf n
theorem tb_1 : ∀ e : Fin 2, ∀ y : Fin 128, (128 * e.val + y.val) &&& 85 = y.val &&& 85 := by decide +kernel
theorem tb_2 : ∀ e : Fin 4, ∀ y : Fin 64, (64 * e.val + y.val) &&& 51 = y.val &&& 51 := by decide +kernel
def tf1 (r : Nat) : Nat := r - (r / 2 &&& 85)
def tf2 (r : Nat) : Nat := (r &&& 51) + (r / 4 &&& 51)
theorem tb_3 : ∀ r : Fin 256, tf1 r.val < 256 ∧ tf2 (tf1 r.val) < 256 ∧ tf2 (tf1 r.val) % 16 ≤ 4 ∧ tf2 (tf1 r.val) / 16 ≤ 4 ∧ tf2 (tf1 r.val) % 16 + tf2 (tf1 r.val) / 16 = popN 8 r.val := by decide +kernel
theorem sw1_s (n q : Nat) {r : Nat} (hr : r < 256) : sw1 (n + 1) (256 * q + r) = 256 * sw1 n q + tf1 r := by
  show (256 * q + r) - (((256 * q + r) / 2) &&& (256 * mk5 n + 85)) = 256 * (q - (q / 2 &&& mk5 n)) + (r - (r / 2 &&& 85))
  have e1 : (256 * q + r) / 2 = 256 * (q / 2) + (128 * (q % 2) + r / 2) := by omega
  rw [e1, and_by (q / 2) (mk5 n) (b := 128 * (q % 2) + r / 2) (d := 85) (by omega) (by omega)]
  have e2 : (128 * (q % 2) + r / 2) &&& 85 = r / 2 &&& 85 := tb_1 ⟨q % 2, by omega⟩ ⟨r / 2, by omega⟩
  have h1 : q / 2 &&& mk5 n ≤ q / 2 := Nat.and_le_left
  have h2 : r / 2 &&& 85 ≤ r / 2 := Nat.and_le_left
  rw [e2]
  obtain ⟨A, hA⟩ : ∃ A, q / 2 &&& mk5 n = A := ⟨_, rfl⟩
  obtain ⟨B, hB⟩ : ∃ B, r / 2 &&& 85 = B := ⟨_, rfl⟩
  rw [hA] at h1
  rw [hB] at h2
  rw [hA, hB]
  omega
theorem sw2_s (n q : Nat) {r : Nat} (hr : r < 256) : sw2 (n + 1) (256 * q + r) = 256 * sw2 n q + tf2 r := by
  show ((256 * q + r) &&& (256 * mk3 n + 51)) + (((256 * q + r) / 4) &&& (256 * mk3 n + 51)) = 256 * ((q &&& mk3 n) + (q / 4 &&& mk3 n)) + ((r &&& 51) + (r / 4 &&& 51))
  have e1 : (256 * q + r) / 4 = 256 * (q / 4) + (64 * (q % 4) + r / 4) := by omega
  rw [e1, and_by (q / 4) (mk3 n) (b := 64 * (q % 4) + r / 4) (d := 51) (by omega) (by omega), and_by q (mk3 n) (b := r) (d := 51) hr (by omega)]
  have e2 : (64 * (q % 4) + r / 4) &&& 51 = r / 4 &&& 51 := tb_2 ⟨q % 4, by omega⟩ ⟨r / 4, by omega⟩
  rw [e2]
  omega
theorem sw3_s (n q : Nat) {r : Nat} (hq : q % 16 ≤ 4) (h1 : r % 16 ≤ 4) (h2 : r / 16 ≤ 4) : sw3 (n + 1) (256 * q + r) = 256 * sw3 n q + (r % 16 + r / 16) := by
  show (256 * q + r + (256 * q + r) / 16) &&& (256 * mkf n + 15) = 256 * ((q + q / 16) &&& mkf n) + (r % 16 + r / 16)
  have e1 : 256 * q + r + (256 * q + r) / 16 = 256 * (q + q / 16) + (r + 16 * (q % 16) + r / 16) := by omega
  rw [e1, and_by (q + q / 16) (mkf n) (b := r + 16 * (q % 16) + r / 16) (d := 15) (by omega) (by omega)]
  have e2 : (r + 16 * (q % 16) + r / 16) &&& 15 = (r + 16 * (q % 16) + r / 16) % 16 := Nat.and_two_pow_sub_one_eq_mod _ 4
  rw [e2]
  omega
theorem sw_low (n u : Nat) : sw2 n (sw1 n u) % 16 ≤ 4 := by
  cases n with
  | zero =>
    unfold sw2 mk3
    rw [Nat.and_zero, Nat.and_zero]
    omega
  | succ n =>
    have h := tb_3 ⟨u % 256, by omega⟩
    have e : u = 256 * (u / 256) + u % 256 := by omega
    rw [e, sw1_s n _ (by omega), sw2_s n _ h.1]
    have h3 := h.2.2.1
    simp only at h3
    omega
def csv : Nat → Nat → Nat
  | 0, _ => 0
  | n + 1, u => 256 * csv n (u / 256) + popN 8 (u % 256)
theorem sw_all (n : Nat) : ∀ u, sw3 n (sw2 n (sw1 n u)) = csv n u := by
  induction n with
  | zero =>
    intro u
    unfold sw3 mkf csv
    exact Nat.and_zero _
  | succ n ih =>
    intro u
    have h := tb_3 ⟨u % 256, by omega⟩
    have e : u = 256 * (u / 256) + u % 256 := by omega
    have e2 : sw3 (n + 1) (sw2 (n + 1) (sw1 (n + 1) u)) = 256 * sw3 n (sw2 n (sw1 n (u / 256))) + (tf2 (tf1 (u % 256)) % 16 + tf2 (tf1 (u % 256)) / 16) := by
      rw [e, sw1_s n _ (by omega), sw2_s n _ h.1, sw3_s n _ (sw_low n _) h.2.2.1 h.2.2.2.1]
      rw [show (256 * (u / 256) + u % 256) / 256 = u / 256 by omega, show (256 * (u / 256) + u % 256) % 256 = u % 256 by omega]
    rw [e2, ih, h.2.2.2.2]
    rfl
theorem popN_split (a b : Nat) : ∀ u, popN (a + b) u = popN a u + popN b (u / 2 ^ a) := by
  induction a with
  | zero => intro u; rw [Nat.zero_add, Nat.pow_zero, Nat.div_one]; exact (Nat.zero_add _).symm
  | succ a ih =>
    intro u
    rw [show a + 1 + b = (a + b) + 1 by omega]
    show u % 2 + popN (a + b) (u / 2) = u % 2 + popN a (u / 2) + popN b (u / 2 ^ (a + 1))
    rw [ih, Nat.div_div_eq_div_mul, show 2 * 2 ^ a = 2 ^ (a + 1) by rw [Nat.pow_succ]; omega]
    omega
theorem popN_mod (a : Nat) : ∀ u, popN a (u % 2 ^ a) = popN a u := by
  induction a with
  | zero => intro u; rfl
  | succ a ih =>
    intro u
    show u % 2 ^ (a + 1) % 2 + popN a (u % 2 ^ (a + 1) / 2) = u % 2 + popN a (u / 2)
    have e : 2 ^ (a + 1) = 2 * 2 ^ a := by rw [Nat.pow_succ]; omega
    rw [e, Nat.mod_mul_right_div_self, ih, Nat.mod_mul_right_mod]
theorem csv_d (n u : Nat) : ∃ c v : Nat, c ≤ 8 ∧ csv (n + 1) u = 256 * csv n v + c ∧ popN (8 * n + 8) u = c + popN (8 * n) v := by
  refine ⟨popN 8 (u % 256), u / 256, popN_le 8 _, rfl, ?_⟩
  rw [show 8 * n + 8 = 8 + 8 * n by omega, popN_split, show u % 256 = u % 2 ^ 8 from rfl, popN_mod]
theorem csv_8 (u : Nat) : ∃ c0 c1 c2 c3 c4 c5 c6 c7 : Nat, (c0 ≤ 8 ∧ c1 ≤ 8 ∧ c2 ≤ 8 ∧ c3 ≤ 8 ∧ c4 ≤ 8 ∧ c5 ≤ 8 ∧ c6 ≤ 8 ∧ c7 ≤ 8) ∧ csv 8 u = c0 + 256 * (c1 + 256 * (c2 + 256 * (c3 + 256 * (c4 + 256 * (c5 + 256 * (c6 + 256 * c7)))))) ∧ popN 64 u = c0 + c1 + c2 + c3 + c4 + c5 + c6 + c7 := by
  obtain ⟨c0, u1, b0, e0, p0⟩ := csv_d 7 u
  obtain ⟨c1, u2, b1, e1, p1⟩ := csv_d 6 u1
  obtain ⟨c2, u3, b2, e2, p2⟩ := csv_d 5 u2
  obtain ⟨c3, u4, b3, e3, p3⟩ := csv_d 4 u3
  obtain ⟨c4, u5, b4, e4, p4⟩ := csv_d 3 u4
  obtain ⟨c5, u6, b5, e5, p5⟩ := csv_d 2 u5
  obtain ⟨c6, u7, b6, e6, p6⟩ := csv_d 1 u6
  obtain ⟨c7, u8, b7, e7, p7⟩ := csv_d 0 u7
  have z : csv 0 u8 = 0 := rfl
  have zp : popN (8 * 0) u8 = 0 := rfl
  refine ⟨c0, c1, c2, c3, c4, c5, c6, c7, ⟨b0, b1, b2, b3, b4, b5, b6, b7⟩, ?_, ?_⟩
  · rw [e0, e1, e2, e3, e4, e5, e6, e7, z]; omega
  · have q0 : popN 64 u = c0 + popN (8 * 7) u1 := p0
    rw [q0, show popN (8 * 7) u1 = c1 + popN (8 * 6) u2 from p1, show popN (8 * 6) u2 = c2 + popN (8 * 5) u3 from p2, show popN (8 * 5) u3 = c3 + popN (8 * 4) u4 from p3, show popN (8 * 4) u4 = c4 + popN (8 * 3) u5 from p4, show popN (8 * 3) u5 = c5 + popN (8 * 2) u6 from p5, show popN (8 * 2) u6 = c6 + popN (8 * 1) u7 from p6, show popN (8 * 1) u7 = c7 + popN (8 * 0) u8 from p7, zp]
    omega
theorem div_c {c k y : Nat} (h : c < k) : (c + k * y) / k = y := by
  rw [Nat.add_mul_div_left _ _ (by omega), Nat.div_eq_of_lt h]
  omega
theorem al_v (c0 c1 c2 c3 c4 c5 c6 c7 : Nat) : c0 + 256 * (c1 + 256 * (c2 + 256 * (c3 + 256 * (c4 + 256 * (c5 + 256 * (c6 + 256 * c7)))))) + (c1 + 256 * (c2 + 256 * (c3 + 256 * (c4 + 256 * (c5 + 256 * (c6 + 256 * c7)))))) = ((c0 + c1) + 256 * (c1 + c2)) + 65536 * ((c2 + c3) + 256 * ((c3 + c4) + 256 * ((c4 + c5) + 256 * ((c5 + c6) + 256 * (c6 + c7 + 256 * c7))))) := by omega
theorem al_w (c0 c1 c2 c3 c4 c5 c6 c7 : Nat) : ((c0 + c1) + 256 * (c1 + c2)) + 65536 * ((c2 + c3) + 256 * ((c3 + c4) + 256 * ((c4 + c5) + 256 * ((c5 + c6) + 256 * (c6 + c7 + 256 * c7))))) + ((c2 + c3) + 256 * ((c3 + c4) + 256 * ((c4 + c5) + 256 * ((c5 + c6) + 256 * (c6 + c7 + 256 * c7))))) = ((c0 + c1 + c2 + c3) + 256 * (c1 + c2 + c3 + c4) + 65536 * (c2 + c3 + c4 + c5) + 16777216 * (c3 + c4 + c5 + c6)) + 4294967296 * ((c4 + c5 + c6 + c7) + 256 * ((c5 + c6 + c7) + 256 * (c6 + c7 + 256 * c7))) := by omega
theorem al_x (c0 c1 c2 c3 c4 c5 c6 c7 : Nat) : ((c0 + c1 + c2 + c3) + 256 * (c1 + c2 + c3 + c4) + 65536 * (c2 + c3 + c4 + c5) + 16777216 * (c3 + c4 + c5 + c6)) + 4294967296 * ((c4 + c5 + c6 + c7) + 256 * ((c5 + c6 + c7) + 256 * (c6 + c7 + 256 * c7))) + ((c4 + c5 + c6 + c7) + 256 * ((c5 + c6 + c7) + 256 * (c6 + c7 + 256 * c7))) = (c0 + c1 + c2 + c3 + c4 + c5 + c6 + c7) + 128 * (2 * ((c1 + c2 + c3 + c4 + c5 + c6 + c7) + 256 * (c2 + c3 + c4 + c5 + c6 + c7) + 65536 * (c3 + c4 + c5 + c6 + c7) + 16777216 * (c4 + c5 + c6 + c7) + 4294967296 * (c5 + c6 + c7) + 1099511627776 * (c6 + c7) + 281474976710656 * c7)) := by omega
theorem al_b {c0 c1 c2 c3 c4 c5 c6 c7 : Nat} (h : c0 ≤ 8 ∧ c1 ≤ 8 ∧ c2 ≤ 8 ∧ c3 ≤ 8 ∧ c4 ≤ 8 ∧ c5 ≤ 8 ∧ c6 ≤ 8 ∧ c7 ≤ 8) : (c0 + c1 + c2 + c3 + c4 + c5 + c6 + c7) + 128 * (2 * ((c1 + c2 + c3 + c4 + c5 + c6 + c7) + 256 * (c2 + c3 + c4 + c5 + c6 + c7) + 65536 * (c3 + c4 + c5 + c6 + c7) + 16777216 * (c4 + c5 + c6 + c7) + 4294967296 * (c5 + c6 + c7) + 1099511627776 * (c6 + c7) + 281474976710656 * c7)) < 9223372036854775808 := by omega
theorem al_m {x z : Nat} (h : x ≤ 64) : (x + 128 * (2 * z)) % 128 = x := by omega
/-- what the last steps add up -/
theorem csv_f {u U V W X : Nat} (hU : U = csv 8 u) (hV : V = U + U / 256) (hW : W = V + V / 65536) (hX : X = W + W / 4294967296) : X % 128 = popN 64 u ∧ U < 9223372036854775808 ∧ V < 9223372036854775808 ∧ W < 9223372036854775808 ∧ X < 9223372036854775808 := by
  have uv : U ≤ V := by rw [hV]; exact Nat.le_add_right _ _
  have vw : V ≤ W := by rw [hW]; exact Nat.le_add_right _ _
  have wx : W ≤ X := by rw [hX]; exact Nat.le_add_right _ _
  obtain ⟨c0, c1, c2, c3, c4, c5, c6, c7, hb, hc, hp⟩ := csv_8 u
  rw [hc] at hU
  rw [hp]
  have d1 : U / 256 = c1 + 256 * (c2 + 256 * (c3 + 256 * (c4 + 256 * (c5 + 256 * (c6 + 256 * c7))))) := by rw [hU]; exact div_c (Nat.lt_of_le_of_lt hb.1 (by decide))
  rw [d1, hU, al_v] at hV
  have d2 : V / 65536 = (c2 + c3) + 256 * ((c3 + c4) + 256 * ((c4 + c5) + 256 * ((c5 + c6) + 256 * (c6 + c7 + 256 * c7)))) := by rw [hV]; exact div_c (by clear hU hV hW hX d1 uv vw wx hc hp; omega)
  rw [d2, hV, al_w] at hW
  have d3 : W / 4294967296 = (c4 + c5 + c6 + c7) + 256 * ((c5 + c6 + c7) + 256 * (c6 + c7 + 256 * c7)) := by rw [hW]; exact div_c (by clear hU hV hW hX d1 d2 uv vw wx hc hp; omega)
  rw [d3, hW, al_x] at hX
  have bx : X < 9223372036854775808 := by rw [hX]; exact al_b hb
  refine ⟨?_, Nat.lt_of_le_of_lt uv (Nat.lt_of_le_of_lt vw (Nat.lt_of_le_of_lt wx bx)), Nat.lt_of_le_of_lt vw (Nat.lt_of_le_of_lt wx bx), Nat.lt_of_le_of_lt wx bx, bx⟩
  rw [hX]
  exact al_m (by clear hU hV hW hX d1 d2 d3 uv vw wx hc hp bx; omega)
theorem u64_land (a b : Int) : u64 (f_land a b) = u64 a &&& u64 b := by
  rw [← i64_nat, ← i64_nat, ← i64_nat]
  unfold f_land
  rw [Int64.ofInt_toInt, Int64.toBitVec_and, BitVec.toNat_and]
theorem u64_w (x : Int) : u64 (w64 x) = u64 x := by
  unfold u64 w64
  omega
theorem u64_c {n : Nat} (h : n < 18446744073709551616) : u64 (n : Int) = n := by
  unfold u64
  omega
theorem u64_sub {a y : Int} (h : u64 y ≤ u64 a) : u64 (a - y) = u64 a - u64 y := by
  unfold u64 at *
  omega
theorem u64_add {a y : Int} (h : u64 a + u64 y < 18446744073709551616) : u64 (a + y) = u64 a + u64 y := by
  unfold u64 at *
  omega
theorem u64_sr (a : Int) (s : Nat) (s0 : 1 ≤ s) (s1 : s < 64) (hy : ((Int32.ofInt (s : Int)).toInt64.toUInt64 &&& Int64.toUInt64 63).toNat = s) : u64 (f_lushr a (s : Int)) = u64 a / 2 ^ s := by
  rw [lushr_k a s s0 s1 hy]
  exact u64_c (Nat.lt_of_le_of_lt (Nat.div_le_self _ _) (u64_lt a))
theorem bc_J {a e1 e2 e3 e4 e5 e6 : Int} (h1 : w64 (a - f_land (f_lushr a 1) 6148914691236517205) = e1) (h2 : w64 (f_land e1 3689348814741910323 + f_land (f_lushr e1 2) 3689348814741910323) = e2) (h3 : f_land (w64 (e2 + f_lushr e2 4)) 1085102592571150095 = e3) (h4 : w64 (e3 + f_lushr e3 8) = e4) (h5 : w64 (e4 + f_lushr e4 16) = e5) (h6 : w64 (e5 + f_lushr e5 32) = e6) : u64 e6 % 128 = popN 64 (u64 a) := by
  have r1 : ∀ x : Int, u64 (f_lushr x 1) = u64 x / 2 := fun x => u64_sr x 1 (by decide) (by decide) (by decide +kernel)
  have r2 : ∀ x : Int, u64 (f_lushr x 2) = u64 x / 4 := fun x => u64_sr x 2 (by decide) (by decide) (by decide +kernel)
  have r4 : ∀ x : Int, u64 (f_lushr x 4) = u64 x / 16 := fun x => u64_sr x 4 (by decide) (by decide) (by decide +kernel)
  have r8 : ∀ x : Int, u64 (f_lushr x 8) = u64 x / 256 := fun x => u64_sr x 8 (by decide) (by decide) (by decide +kernel)
  have r16 : ∀ x : Int, u64 (f_lushr x 16) = u64 x / 65536 := fun x => u64_sr x 16 (by decide) (by decide) (by decide +kernel)
  have r32 : ∀ x : Int, u64 (f_lushr x 32) = u64 x / 4294967296 := fun x => u64_sr x 32 (by decide) (by decide) (by decide +kernel)
  have m1 : u64 6148914691236517205 = mk5 8 := by decide +kernel
  have m2 : u64 3689348814741910323 = mk3 8 := by decide +kernel
  have m3 : u64 1085102592571150095 = mkf 8 := by decide +kernel
  have n2 : mk3 8 = 3689348814741910323 := by decide +kernel
  have k1 : u64 e1 = sw1 8 (u64 a) := by
    have q : u64 (f_land (f_lushr a 1) 6148914691236517205) = u64 a / 2 &&& mk5 8 := by rw [u64_land, r1, m1]
    have q2 : u64 a / 2 &&& mk5 8 ≤ u64 a / 2 := Nat.and_le_left
    rw [← h1, u64_w, u64_sub (by rw [q]; exact Nat.le_trans q2 (Nat.div_le_self _ _)), q]
    rfl
  have k2 : u64 e2 = sw2 8 (u64 e1) := by
    have q : u64 (f_land e1 3689348814741910323) = u64 e1 &&& mk3 8 := by rw [u64_land, m2]
    have q2 : u64 (f_land (f_lushr e1 2) 3689348814741910323) = u64 e1 / 4 &&& mk3 8 := by rw [u64_land, r2, m2]
    have b1 : u64 e1 &&& mk3 8 ≤ mk3 8 := Nat.and_le_right
    have b2 : u64 e1 / 4 &&& mk3 8 ≤ mk3 8 := Nat.and_le_right
    rw [← h2, u64_w, u64_add (by rw [q, q2]; omega), q, q2]
    rfl
  have b3 : u64 e2 ≤ 7378697629483820646 := by
    have b1 : u64 e1 &&& mk3 8 ≤ mk3 8 := Nat.and_le_right
    have b2 : u64 e1 / 4 &&& mk3 8 ≤ mk3 8 := Nat.and_le_right
    rw [k2]
    unfold sw2
    omega
  have k3 : u64 e3 = csv 8 (u64 a) := by
    rw [← h3, u64_land, u64_w, u64_add (by rw [r4]; omega), r4, m3]
    show sw3 8 (u64 e2) = _
    rw [k2, k1]
    exact sw_all 8 _
  have f := csv_f (u := u64 a) k3 (V := u64 e3 + u64 e3 / 256) rfl rfl rfl
  have k4 : u64 e4 = u64 e3 + u64 e3 / 256 := by rw [← h4, u64_w, u64_add (by rw [r8]; omega), r8]
  rw [← k4] at f
  have k5 : u64 e5 = u64 e4 + u64 e4 / 65536 := by rw [← h5, u64_w, u64_add (by rw [r16]; omega), r16]
  rw [← k5] at f
  have k6 : u64 e6 = u64 e5 + u64 e5 / 4294967296 := by rw [← h6, u64_w, u64_add (by rw [r32]; omega), r32]
  rw [← k6] at f
  exact f.1
theorem bc_fin {x : Int} {n : Nat} (h : u64 x % 128 = n) : f_iand (w32 x) 127 = n := by
  unfold f_iand
  rw [pk_and (Int32.ofInt (w32 x)) 7 (by decide +kernel)]
  have e : (Int32.ofInt (w32 x)).toBitVec.toNat % 2 ^ 7 = n := by
    show (BitVec.ofInt 32 (w32 x)).toNat % 2 ^ 7 = n
    rw [BitVec.toNat_ofInt]
    unfold u64 at h
    unfold w32
    omega
  rw [e, nI_toInt (by omega)]
/-! ints -/
section
variable {l : Launch} {K : EC} {d : Nat} {m : MD} {pc : Nat} {ls ls2 : List (Nat × PV)} {st : List PV} {M : Mem} {Q : Mem → Option PV → Prop}
def f_iushr (a b : Int) : Int := ((Int32.ofInt a).toUInt32 >>> ((Int32.ofInt b).toUInt32 &&& Int32.toUInt32 31)).toInt32.toInt
theorem Tr.iushr {a b : Int} (hd : decode m.2.2.1 pc = .ok (.iushr, 1)) (k : Tr l K d m (pc + 1) ls ((0, f_iushr a b) :: st) M Q) : Tr l K d m pc ls ((0, b) :: (0, a) :: st) M Q :=
  Tr.up (fun _ _ => Ends.sk (fun hM hst hls => oks_c (ok0 (i32_b _)) (oks_t (oks_t hst))) (fun p e R s mid args below meth c H locs cells slots lsA Q hX hf hg hR hM hst hls hS hlv k => lv_iushr (x := Int32.ofInt a) (y := Int32.ofInt b) (v := Int32.ofInt (f_iushr a b)) hX.1 hX.2.1 hd (Int32.ofInt_toInt _).symm k)) k
end
def bcI (a : Int) : Int :=
  let e1 := w32 (a - f_iand (f_iushr a 1) 1431655765)
  let e2 := w32 (f_iand e1 858993459 + f_iand (f_iushr e1 2) 858993459)
  let e3 := f_iand (w32 (e2 + f_iushr e2 4)) 252645135
  let e4 := w32 (e3 + f_iushr e3 8)
  let e5 := w32 (e4 + f_iushr e4 16)
  f_iand e5 63
theorem bcI_t : ∀ k : Fin 256, bcI ((k.val : Nat) : Int) = pop ((k.val : Nat) : Int) ∧ pop ((k.val : Nat) : Int) ≤ 8 := by decide +kernel
theorem bcI_p {a : Int} (h : 0 ≤ a ∧ a ≤ 255) : bcI a = pop a ∧ pop a ≤ 8 := by
  obtain ⟨k, rfl⟩ : ∃ k : Nat, a = k := ⟨a.toNat, by omega⟩
  exact bcI_t ⟨k, by omega⟩
end
/-! 25.00 -/
section
def mX11_feed : MD := (11, yX11_feed, cX11_feed, 6, some .int)
theorem d_X11_feed_0 : decode mX11_feed.2.2.1 0 = .ok (.aload_n 0, 1) := by decide +kernel
theorem d_X11_feed_1 : decode mX11_feed.2.2.1 1 = .ok (.getfield 84, 3) := by decide +kernel
theorem f_11_84 : e_fld 11 84 11 1 14 0 false := ⟨RX11, TX11, 1, rfl, rfl, by decide, rfl, rfl, rfl, iX11, tblG_in (inT3 (List.mem_of_getElem? (i := 49) rfl)) rfl, tyX11_ok, nmX11⟩
theorem d_X11_feed_4 : decode mX11_feed.2.2.1 4 = .ok (.bipush 20, 2) := by decide +kernel
theorem d_X11_feed_6 : decode mX11_feed.2.2.1 6 = .ok (.iadd, 1) := by decide +kernel
theorem d_X11_feed_7 : decode mX11_feed.2.2.1 7 = .ok (.sipush 900, 3) := by decide +kernel
theorem d_X11_feed_10 : decode mX11_feed.2.2.1 10 = .ok (.if_icmp .le 5, 3) := by decide +kernel
theorem d_X11_feed_15 : decode mX11_feed.2.2.1 15 = .ok (.aload_n 0, 1) := by decide +kernel
theorem d_X11_feed_16 : decode mX11_feed.2.2.1 16 = .ok (.iload_n 1, 1) := by decide +kernel
theorem d_X11_feed_17 : decode mX11_feed.2.2.1 17 = .ok (.invokevirtual 88, 3) := by decide +kernel
def mX11_lay : MD := (11, yX11_lay, cX11_lay, 3, none)
theorem sel_X11_lay : Cond.instanceMethod mX11_lay.2.1 ∈ tblG ∧ Cond.selects mX11_lay.2.1.cls mX11_lay.2.1 mX11_lay.2.1 ∈ tblG := ⟨tblG_in (inT3 (List.mem_of_getElem? (i := 97) rfl)) rfl, tblG_in (inP1 (q := (mX11_lay.2.1, 14)) (List.mem_of_getElem? (i := 0) rfl)) rfl⟩
theorem s_11_88 : e_siteV 11 88 mX11_lay 11 := ⟨tblG_in (inT3 (List.mem_of_getElem? (i := 95) rfl)) rfl, sel_X11_lay.1, sel_X11_lay.2, rfl⟩
theorem d_X11_lay_0 : decode mX11_lay.2.2.1 0 = .ok (.bipush 24, 2) := by decide +kernel
theorem d_X11_lay_2 : decode mX11_lay.2.2.1 2 = .ok (.istore_n 2, 1) := by decide +kernel
theorem d_X11_lay_3 : decode mX11_lay.2.2.1 3 = .ok (.iload_n 2, 1) := by decide +kernel
theorem d_X11_lay_4 : decode mX11_lay.2.2.1 4 = .ok (.ifCond .lt 42, 3) := by decide +kernel
theorem d_X11_lay_7 : decode mX11_lay.2.2.1 7 = .ok (.aload_n 0, 1) := by decide +kernel
theorem d_X11_lay_8 : decode mX11_lay.2.2.1 8 = .ok (.getfield 84, 3) := by decide +kernel
theorem d_X11_lay_11 : decode mX11_lay.2.2.1 11 = .ok (.sipush 900, 3) := by decide +kernel
theorem d_X11_lay_14 : decode mX11_lay.2.2.1 14 = .ok (.if_icmp .ge 32, 3) := by decide +kernel
theorem d_X11_lay_46 : decode mX11_lay.2.2.1 46 = .ok (.return_, 1) := by decide +kernel
theorem d_X11_lay_17 : decode mX11_lay.2.2.1 17 = .ok (.aload_n 0, 1) := by decide +kernel
theorem d_X11_lay_18 : decode mX11_lay.2.2.1 18 = .ok (.getfield 9, 3) := by decide +kernel
theorem d_X11_lay_21 : decode mX11_lay.2.2.1 21 = .ok (.aload_n 0, 1) := by decide +kernel
theorem d_X11_lay_22 : decode mX11_lay.2.2.1 22 = .ok (.getfield 84, 3) := by decide +kernel
theorem d_X11_lay_25 : decode mX11_lay.2.2.1 25 = .ok (.iload_n 1, 1) := by decide +kernel
theorem d_X11_lay_26 : decode mX11_lay.2.2.1 26 = .ok (.iload_n 2, 1) := by decide +kernel
theorem d_X11_lay_27 : decode mX11_lay.2.2.1 27 = .ok (.ishr, 1) := by decide +kernel
theorem d_X11_lay_28 : decode mX11_lay.2.2.1 28 = .ok (.i2b, 1) := by decide +kernel
theorem d_X11_lay_29 : decode mX11_lay.2.2.1 29 = .ok (.bastore, 1) := by decide +kernel
theorem d_X11_lay_30 : decode mX11_lay.2.2.1 30 = .ok (.aload_n 0, 1) := by decide +kernel
theorem d_X11_lay_31 : decode mX11_lay.2.2.1 31 = .ok (.dup, 1) := by decide +kernel
theorem d_X11_lay_32 : decode mX11_lay.2.2.1 32 = .ok (.getfield 84, 3) := by decide +kernel
theorem d_X11_lay_35 : decode mX11_lay.2.2.1 35 = .ok (.iconst 1, 1) := by decide +kernel
theorem d_X11_lay_36 : decode mX11_lay.2.2.1 36 = .ok (.iadd, 1) := by decide +kernel
theorem d_X11_lay_37 : decode mX11_lay.2.2.1 37 = .ok (.putfield 84, 3) := by decide +kernel
theorem d_X11_lay_40 : decode mX11_lay.2.2.1 40 = .ok (.iinc 2 (-8), 3) := by decide +kernel
theorem d_X11_lay_43 : decode mX11_lay.2.2.1 43 = .ok (.goto (-40), 3) := by decide +kernel
theorem ok_X11_lay : e_m mX11_lay 1 := ⟨tblG_in (inT3 (List.mem_of_getElem? (i := 98) rfl)) rfl, plainFor_of_name (by decide), rfl, ini_11, by decide +kernel, by decide⟩
theorem d_X11_feed_20 : decode mX11_feed.2.2.1 20 = .ok (.aload_n 0, 1) := by decide +kernel
theorem d_X11_feed_21 : decode mX11_feed.2.2.1 21 = .ok (.iload_n 2, 1) := by decide +kernel
theorem d_X11_feed_22 : decode mX11_feed.2.2.1 22 = .ok (.invokevirtual 88, 3) := by decide +kernel
theorem d_X11_feed_25 : decode mX11_feed.2.2.1 25 = .ok (.aload_n 0, 1) := by decide +kernel
theorem d_X11_feed_26 : decode mX11_feed.2.2.1 26 = .ok (.iload_n 3, 1) := by decide +kernel
theorem d_X11_feed_27 : decode mX11_feed.2.2.1 27 = .ok (.invokevirtual 88, 3) := by decide +kernel
theorem d_X11_feed_30 : decode mX11_feed.2.2.1 30 = .ok (.aload_n 0, 1) := by decide +kernel
theorem d_X11_feed_31 : decode mX11_feed.2.2.1 31 = .ok (.iload 4, 2) := by decide +kernel
theorem d_X11_feed_33 : decode mX11_feed.2.2.1 33 = .ok (.invokevirtual 88, 3) := by decide +kernel
theorem d_X11_feed_36 : decode mX11_feed.2.2.1 36 = .ok (.aload_n 0, 1) := by decide +kernel
theorem d_X11_feed_37 : decode mX11_feed.2.2.1 37 = .ok (.iload 5, 2) := by decide +kernel
theorem d_X11_feed_39 : decode mX11_feed.2.2.1 39 = .ok (.invokevirtual 88, 3) := by decide +kernel
theorem d_X11_feed_42 : decode mX11_feed.2.2.1 42 = .ok (.aload_n 0, 1) := by decide +kernel
theorem d_X11_feed_43 : decode mX11_feed.2.2.1 43 = .ok (.getfield 84, 3) := by decide +kernel
theorem d_X11_feed_46 : decode mX11_feed.2.2.1 46 = .ok (.ireturn, 1) := by decide +kernel
theorem d_X11_feed_13 : decode mX11_feed.2.2.1 13 = .ok (.iconst (-1), 1) := by decide +kernel
theorem d_X11_feed_14 : decode mX11_feed.2.2.1 14 = .ok (.ireturn, 1) := by decide +kernel
def mX11_end : MD := (11, yX11_end, cX11_end, 2, some .boolean)
theorem d_X11_end_0 : decode mX11_end.2.2.1 0 = .ok (.iload_n 1, 1) := by decide +kernel
theorem d_X11_end_1 : decode mX11_end.2.2.1 1 = .ok (.ifCond .lt 11, 3) := by decide +kernel
theorem d_X11_end_12 : decode mX11_end.2.2.1 12 = .ok (.iconst 0, 1) := by decide +kernel
theorem d_X11_end_13 : decode mX11_end.2.2.1 13 = .ok (.ireturn, 1) := by decide +kernel
theorem d_X11_end_4 : decode mX11_end.2.2.1 4 = .ok (.iload_n 1, 1) := by decide +kernel
theorem d_X11_end_5 : decode mX11_end.2.2.1 5 = .ok (.aload_n 0, 1) := by decide +kernel
theorem d_X11_end_6 : decode mX11_end.2.2.1 6 = .ok (.getfield 84, 3) := by decide +kernel
theorem d_X11_end_9 : decode mX11_end.2.2.1 9 = .ok (.if_icmp .le 5, 3) := by decide +kernel
theorem d_X11_end_14 : decode mX11_end.2.2.1 14 = .ok (.aload_n 0, 1) := by decide +kernel
theorem d_X11_end_15 : decode mX11_end.2.2.1 15 = .ok (.iload_n 1, 1) := by decide +kernel
theorem d_X11_end_16 : decode mX11_end.2.2.1 16 = .ok (.putfield 84, 3) := by decide +kernel
theorem d_X11_end_19 : decode mX11_end.2.2.1 19 = .ok (.iconst 1, 1) := by decide +kernel
theorem d_X11_end_20 : decode mX11_end.2.2.1 20 = .ok (.ireturn, 1) := by decide +kernel
def mX11_fault : MD := (11, yX11_fault, cX11_fault, 2, some .int)
theorem d_X11_fault_0 : decode mX11_fault.2.2.1 0 = .ok (.iload_n 1, 1) := by decide +kernel
theorem d_X11_fault_1 : decode mX11_fault.2.2.1 1 = .ok (.ifCond .ne 11, 3) := by decide +kernel
theorem d_X11_fault_12 : decode mX11_fault.2.2.1 12 = .ok (.iload_n 1, 1) := by decide +kernel
theorem d_X11_fault_13 : decode mX11_fault.2.2.1 13 = .ok (.iconst 1, 1) := by decide +kernel
theorem d_X11_fault_14 : decode mX11_fault.2.2.1 14 = .ok (.if_icmp .ne 13, 3) := by decide +kernel
theorem d_X11_fault_27 : decode mX11_fault.2.2.1 27 = .ok (.iconst (-1), 1) := by decide +kernel
theorem d_X11_fault_28 : decode mX11_fault.2.2.1 28 = .ok (.ireturn, 1) := by decide +kernel
theorem d_X11_fault_17 : decode mX11_fault.2.2.1 17 = .ok (.aload_n 0, 1) := by decide +kernel
theorem d_X11_fault_18 : decode mX11_fault.2.2.1 18 = .ok (.getfield 23, 3) := by decide +kernel
theorem d_X11_fault_21 : decode mX11_fault.2.2.1 21 = .ok (.getfield 127, 3) := by decide +kernel
theorem f_11_127 : e_fld 11 127 5 1 7 0 false := ⟨RX5, TX5, 1, rfl, rfl, by decide, rfl, rfl, rfl, iX5, tblG_in (inT1 (List.mem_of_getElem? (i := 71) rfl)) rfl, tyX5_ok, nmX5⟩
theorem d_X11_fault_24 : decode mX11_fault.2.2.1 24 = .ok (.goto 4, 3) := by decide +kernel
theorem d_X11_fault_4 : decode mX11_fault.2.2.1 4 = .ok (.aload_n 0, 1) := by decide +kernel
theorem d_X11_fault_5 : decode mX11_fault.2.2.1 5 = .ok (.getfield 23, 3) := by decide +kernel
theorem d_X11_fault_8 : decode mX11_fault.2.2.1 8 = .ok (.getfield 124, 3) := by decide +kernel
theorem f_11_124 : e_fld 11 124 5 0 7 0 false := ⟨RX5, TX5, 0, rfl, rfl, by decide, rfl, rfl, rfl, iX5, tblG_in (inT1 (List.mem_of_getElem? (i := 69) rfl)) rfl, tyX5_ok, nmX5⟩
theorem d_X11_fault_11 : decode mX11_fault.2.2.1 11 = .ok (.ireturn, 1) := by decide +kernel
def mX11_has : MD := (11, yX11_has, cX11_has, 2, some .int)
theorem d_X11_has_0 : decode mX11_has.2.2.1 0 = .ok (.iload_n 1, 1) := by decide +kernel
theorem d_X11_has_1 : decode mX11_has.2.2.1 1 = .ok (.tableswitch 76 0 5 #[39, 39, 39, 49, 60, 68], 39) := by decide +kernel
theorem d_X11_has_77 : decode mX11_has.2.2.1 77 = .ok (.iconst (-1), 1) := by decide +kernel
theorem d_X11_has_78 : decode mX11_has.2.2.1 78 = .ok (.ireturn, 1) := by decide +kernel
theorem d_X11_has_69 : decode mX11_has.2.2.1 69 = .ok (.aload_n 0, 1) := by decide +kernel
theorem d_X11_has_70 : decode mX11_has.2.2.1 70 = .ok (.getfield 77, 3) := by decide +kernel
theorem d_X11_has_73 : decode mX11_has.2.2.1 73 = .ok (.getfield 136, 3) := by decide +kernel
theorem f_11_136 : e_fld 11 136 0 0 8 0 false := ⟨RX0, TX0, 0, rfl, rfl, by decide, rfl, rfl, rfl, iX0, tblG_in (inT3 (List.mem_of_getElem? (i := 10) rfl)) rfl, tyX0_ok, nmX0⟩
theorem d_X11_has_76 : decode mX11_has.2.2.1 76 = .ok (.ireturn, 1) := by decide +kernel
theorem d_X11_has_61 : decode mX11_has.2.2.1 61 = .ok (.aload_n 0, 1) := by decide +kernel
theorem d_X11_has_62 : decode mX11_has.2.2.1 62 = .ok (.getfield 70, 3) := by decide +kernel
theorem d_X11_has_65 : decode mX11_has.2.2.1 65 = .ok (.getfield 133, 3) := by decide +kernel
theorem f_11_133 : e_fld 11 133 2 0 7 0 false := ⟨RX2, TX2, 0, rfl, rfl, by decide, rfl, rfl, rfl, iX2, tblG_in (inT2 (List.mem_of_getElem? (i := 219) rfl)) rfl, tyX2_ok, nmX2⟩
theorem d_X11_has_68 : decode mX11_has.2.2.1 68 = .ok (.ireturn, 1) := by decide +kernel
theorem d_X11_has_50 : decode mX11_has.2.2.1 50 = .ok (.aload_n 0, 1) := by decide +kernel
theorem d_X11_has_51 : decode mX11_has.2.2.1 51 = .ok (.getfield 30, 3) := by decide +kernel
theorem d_X11_has_54 : decode mX11_has.2.2.1 54 = .ok (.getfield 115, 3) := by decide +kernel
theorem f_11_115 : e_fld 11 115 3 11 12 2 true := ⟨RX3, TX3, 11, rfl, rfl, by decide, rfl, rfl, rfl, iX3, tblG_in (inT1 (List.mem_of_getElem? (i := 206) rfl)) rfl, tyX3_ok, nmX3⟩
theorem d_X11_has_57 : decode mX11_has.2.2.1 57 = .ok (.getfield 119, 3) := by decide +kernel
theorem f_11_119 : e_fld 11 119 4 0 13 0 false := ⟨RX4, TX4, 0, rfl, rfl, by decide, rfl, rfl, rfl, iX4, tblG_in (inT1 (List.mem_of_getElem? (i := 106) rfl)) rfl, tyX4_ok, nmX4⟩
theorem d_X11_has_60 : decode mX11_has.2.2.1 60 = .ok (.ireturn, 1) := by decide +kernel
theorem d_X11_has_40 : decode mX11_has.2.2.1 40 = .ok (.aload_n 0, 1) := by decide +kernel
theorem d_X11_has_41 : decode mX11_has.2.2.1 41 = .ok (.getfield 30, 3) := by decide +kernel
theorem d_X11_has_44 : decode mX11_has.2.2.1 44 = .ok (.getfield 130, 3) := by decide +kernel
theorem f_11_130 : e_fld 11 130 3 4 12 2 true := ⟨RX3, TX3, 4, rfl, rfl, by decide, rfl, rfl, rfl, iX3, tblG_in (inT1 (List.mem_of_getElem? (i := 175) rfl)) rfl, tyX3_ok, nmX3⟩
theorem d_X11_has_47 : decode mX11_has.2.2.1 47 = .ok (.iload_n 1, 1) := by decide +kernel
theorem d_X11_has_48 : decode mX11_has.2.2.1 48 = .ok (.iaload, 1) := by decide +kernel
theorem d_X11_has_49 : decode mX11_has.2.2.1 49 = .ok (.ireturn, 1) := by decide +kernel
def mX11_put : MD := (11, yX11_put, cX11_put, 3, some .boolean)
theorem d_X11_put_0 : decode mX11_put.2.2.1 0 = .ok (.iload_n 1, 1) := by decide +kernel
theorem d_X11_put_1 : decode mX11_put.2.2.1 1 = .ok (.ifCond .lt 16, 3) := by decide +kernel
theorem d_X11_put_17 : decode mX11_put.2.2.1 17 = .ok (.iconst 0, 1) := by decide +kernel
theorem d_X11_put_18 : decode mX11_put.2.2.1 18 = .ok (.ireturn, 1) := by decide +kernel
theorem d_X11_put_4 : decode mX11_put.2.2.1 4 = .ok (.iload_n 1, 1) := by decide +kernel
theorem d_X11_put_5 : decode mX11_put.2.2.1 5 = .ok (.aload_n 0, 1) := by decide +kernel
theorem d_X11_put_6 : decode mX11_put.2.2.1 6 = .ok (.getfield 30, 3) := by decide +kernel
theorem d_X11_put_9 : decode mX11_put.2.2.1 9 = .ok (.getfield 130, 3) := by decide +kernel
theorem d_X11_put_12 : decode mX11_put.2.2.1 12 = .ok (.iconst 1, 1) := by decide +kernel
theorem d_X11_put_13 : decode mX11_put.2.2.1 13 = .ok (.iaload, 1) := by decide +kernel
theorem d_X11_put_14 : decode mX11_put.2.2.1 14 = .ok (.if_icmp .lt 5, 3) := by decide +kernel
theorem d_X11_put_19 : decode mX11_put.2.2.1 19 = .ok (.iload_n 2, 1) := by decide +kernel
theorem d_X11_put_20 : decode mX11_put.2.2.1 20 = .ok (.aload_n 0, 1) := by decide +kernel
theorem d_X11_put_21 : decode mX11_put.2.2.1 21 = .ok (.getfield 30, 3) := by decide +kernel
theorem d_X11_put_24 : decode mX11_put.2.2.1 24 = .ok (.getfield 100, 3) := by decide +kernel
theorem f_11_100 : e_fld 11 100 3 8 12 2 true := ⟨RX3, TX3, 8, rfl, rfl, by decide, rfl, rfl, rfl, iX3, tblG_in (inT1 (List.mem_of_getElem? (i := 196) rfl)) rfl, tyX3_ok, nmX3⟩
theorem d_X11_put_27 : decode mX11_put.2.2.1 27 = .ok (.iload_n 1, 1) := by decide +kernel
theorem d_X11_put_28 : decode mX11_put.2.2.1 28 = .ok (.iaload, 1) := by decide +kernel
theorem d_X11_put_29 : decode mX11_put.2.2.1 29 = .ok (.if_icmp .lt 16, 3) := by decide +kernel
theorem d_X11_put_45 : decode mX11_put.2.2.1 45 = .ok (.iconst 0, 1) := by decide +kernel
theorem d_X11_put_46 : decode mX11_put.2.2.1 46 = .ok (.ireturn, 1) := by decide +kernel
theorem d_X11_put_32 : decode mX11_put.2.2.1 32 = .ok (.iload_n 2, 1) := by decide +kernel
theorem d_X11_put_33 : decode mX11_put.2.2.1 33 = .ok (.aload_n 0, 1) := by decide +kernel
theorem d_X11_put_34 : decode mX11_put.2.2.1 34 = .ok (.getfield 30, 3) := by decide +kernel
theorem d_X11_put_37 : decode mX11_put.2.2.1 37 = .ok (.getfield 141, 3) := by decide +kernel
theorem f_11_141 : e_fld 11 141 3 9 12 2 true := ⟨RX3, TX3, 9, rfl, rfl, by decide, rfl, rfl, rfl, iX3, tblG_in (inT1 (List.mem_of_getElem? (i := 200) rfl)) rfl, tyX3_ok, nmX3⟩
theorem d_X11_put_40 : decode mX11_put.2.2.1 40 = .ok (.iload_n 1, 1) := by decide +kernel
theorem d_X11_put_41 : decode mX11_put.2.2.1 41 = .ok (.iaload, 1) := by decide +kernel
theorem d_X11_put_42 : decode mX11_put.2.2.1 42 = .ok (.if_icmp .le 5, 3) := by decide +kernel
theorem d_X11_put_47 : decode mX11_put.2.2.1 47 = .ok (.aload_n 0, 1) := by decide +kernel
theorem d_X11_put_48 : decode mX11_put.2.2.1 48 = .ok (.getfield 37, 3) := by decide +kernel
theorem d_X11_put_51 : decode mX11_put.2.2.1 51 = .ok (.iload_n 1, 1) := by decide +kernel
theorem d_X11_put_52 : decode mX11_put.2.2.1 52 = .ok (.iload_n 2, 1) := by decide +kernel
theorem d_X11_put_53 : decode mX11_put.2.2.1 53 = .ok (.iastore, 1) := by decide +kernel
theorem d_X11_put_54 : decode mX11_put.2.2.1 54 = .ok (.iconst 1, 1) := by decide +kernel
theorem d_X11_put_55 : decode mX11_put.2.2.1 55 = .ok (.ireturn, 1) := by decide +kernel
def mX11_ran : MD := (11, yX11_ran, cX11_ran, 2, some .int)
theorem d_X11_ran_0 : decode mX11_ran.2.2.1 0 = .ok (.aload_n 0, 1) := by decide +kernel
theorem d_X11_ran_1 : decode mX11_ran.2.2.1 1 = .ok (.getfield 109, 3) := by decide +kernel
theorem f_11_109 : e_fld 11 109 11 9 14 3 false := ⟨RX11, TX11, 9, rfl, rfl, by decide, rfl, rfl, rfl, iX11, tblG_in (inT3 (List.mem_of_getElem? (i := 57) rfl)) rfl, tyX11_ok, nmX11⟩
theorem d_X11_ran_4 : decode mX11_ran.2.2.1 4 = .ok (.ifCond .ne 5, 3) := by decide +kernel
theorem d_X11_ran_7 : decode mX11_ran.2.2.1 7 = .ok (.iconst (-1), 1) := by decide +kernel
theorem d_X11_ran_8 : decode mX11_ran.2.2.1 8 = .ok (.ireturn, 1) := by decide +kernel
theorem d_X11_ran_9 : decode mX11_ran.2.2.1 9 = .ok (.iload_n 1, 1) := by decide +kernel
theorem d_X11_ran_10 : decode mX11_ran.2.2.1 10 = .ok (.tableswitch 86 0 5 #[38, 46, 54, 62, 70, 78], 38) := by decide +kernel
theorem d_X11_ran_96 : decode mX11_ran.2.2.1 96 = .ok (.iconst (-1), 1) := by decide +kernel
theorem d_X11_ran_97 : decode mX11_ran.2.2.1 97 = .ok (.ireturn, 1) := by decide +kernel
theorem d_X11_ran_88 : decode mX11_ran.2.2.1 88 = .ok (.aload_n 0, 1) := by decide +kernel
theorem d_X11_ran_89 : decode mX11_ran.2.2.1 89 = .ok (.getfield 46, 3) := by decide +kernel
theorem d_X11_ran_92 : decode mX11_ran.2.2.1 92 = .ok (.getfield 167, 3) := by decide +kernel
theorem f_11_167 : e_fld 11 167 6 15 18 0 false := ⟨RX6, TX6, 15, rfl, rfl, by decide, rfl, rfl, rfl, iX6, tblG_in (inT2 (List.mem_of_getElem? (i := 124) rfl)) rfl, tyX6_ok, nmX6⟩
theorem d_X11_ran_95 : decode mX11_ran.2.2.1 95 = .ok (.ireturn, 1) := by decide +kernel
theorem d_X11_ran_80 : decode mX11_ran.2.2.1 80 = .ok (.aload_n 0, 1) := by decide +kernel
theorem d_X11_ran_81 : decode mX11_ran.2.2.1 81 = .ok (.getfield 46, 3) := by decide +kernel
theorem d_X11_ran_84 : decode mX11_ran.2.2.1 84 = .ok (.getfield 164, 3) := by decide +kernel
theorem f_11_164 : e_fld 11 164 6 11 18 0 false := ⟨RX6, TX6, 11, rfl, rfl, by decide, rfl, rfl, rfl, iX6, tblG_in (inT2 (List.mem_of_getElem? (i := 116) rfl)) rfl, tyX6_ok, nmX6⟩
theorem d_X11_ran_87 : decode mX11_ran.2.2.1 87 = .ok (.ireturn, 1) := by decide +kernel
theorem d_X11_ran_72 : decode mX11_ran.2.2.1 72 = .ok (.aload_n 0, 1) := by decide +kernel
theorem d_X11_ran_73 : decode mX11_ran.2.2.1 73 = .ok (.getfield 46, 3) := by decide +kernel
theorem d_X11_ran_76 : decode mX11_ran.2.2.1 76 = .ok (.getfield 161, 3) := by decide +kernel
theorem f_11_161 : e_fld 11 161 6 13 18 0 false := ⟨RX6, TX6, 13, rfl, rfl, by decide, rfl, rfl, rfl, iX6, tblG_in (inT2 (List.mem_of_getElem? (i := 120) rfl)) rfl, tyX6_ok, nmX6⟩
theorem d_X11_ran_79 : decode mX11_ran.2.2.1 79 = .ok (.ireturn, 1) := by decide +kernel
theorem d_X11_ran_64 : decode mX11_ran.2.2.1 64 = .ok (.aload_n 0, 1) := by decide +kernel
theorem d_X11_ran_65 : decode mX11_ran.2.2.1 65 = .ok (.getfield 46, 3) := by decide +kernel
theorem d_X11_ran_68 : decode mX11_ran.2.2.1 68 = .ok (.getfield 158, 3) := by decide +kernel
theorem f_11_158 : e_fld 11 158 6 12 18 0 false := ⟨RX6, TX6, 12, rfl, rfl, by decide, rfl, rfl, rfl, iX6, tblG_in (inT2 (List.mem_of_getElem? (i := 118) rfl)) rfl, tyX6_ok, nmX6⟩
theorem d_X11_ran_71 : decode mX11_ran.2.2.1 71 = .ok (.ireturn, 1) := by decide +kernel
theorem d_X11_ran_56 : decode mX11_ran.2.2.1 56 = .ok (.aload_n 0, 1) := by decide +kernel
theorem d_X11_ran_57 : decode mX11_ran.2.2.1 57 = .ok (.getfield 46, 3) := by decide +kernel
theorem d_X11_ran_60 : decode mX11_ran.2.2.1 60 = .ok (.getfield 155, 3) := by decide +kernel
theorem f_11_155 : e_fld 11 155 6 10 18 0 false := ⟨RX6, TX6, 10, rfl, rfl, by decide, rfl, rfl, rfl, iX6, tblG_in (inT2 (List.mem_of_getElem? (i := 114) rfl)) rfl, tyX6_ok, nmX6⟩
theorem d_X11_ran_63 : decode mX11_ran.2.2.1 63 = .ok (.ireturn, 1) := by decide +kernel
theorem d_X11_ran_48 : decode mX11_ran.2.2.1 48 = .ok (.aload_n 0, 1) := by decide +kernel
theorem d_X11_ran_49 : decode mX11_ran.2.2.1 49 = .ok (.getfield 46, 3) := by decide +kernel
theorem d_X11_ran_52 : decode mX11_ran.2.2.1 52 = .ok (.getfield 152, 3) := by decide +kernel
theorem f_11_152 : e_fld 11 152 6 9 18 0 false := ⟨RX6, TX6, 9, rfl, rfl, by decide, rfl, rfl, rfl, iX6, tblG_in (inT2 (List.mem_of_getElem? (i := 111) rfl)) rfl, tyX6_ok, nmX6⟩
theorem d_X11_ran_55 : decode mX11_ran.2.2.1 55 = .ok (.ireturn, 1) := by decide +kernel
def mX11_value : MD := (11, yX11_value, cX11_value, 2, some .int)
theorem d_X11_value_0 : decode mX11_value.2.2.1 0 = .ok (.aload_n 0, 1) := by decide +kernel
theorem d_X11_value_1 : decode mX11_value.2.2.1 1 = .ok (.getfield 109, 3) := by decide +kernel
theorem d_X11_value_4 : decode mX11_value.2.2.1 4 = .ok (.ifCond .eq 20, 3) := by decide +kernel
theorem d_X11_value_24 : decode mX11_value.2.2.1 24 = .ok (.ldc 170, 2) := by decide +kernel
theorem k_11_170 : Jvm.Cond.constant (e_cn 11) 170 (Int32.ofInt (-2000000000)) ∈ tblG := tblG_in (inT5 (List.mem_of_getElem? (i := 173) rfl)) rfl
theorem d_X11_value_26 : decode mX11_value.2.2.1 26 = .ok (.ireturn, 1) := by decide +kernel
theorem d_X11_value_7 : decode mX11_value.2.2.1 7 = .ok (.iload_n 1, 1) := by decide +kernel
theorem d_X11_value_8 : decode mX11_value.2.2.1 8 = .ok (.ifCond .lt 16, 3) := by decide +kernel
theorem d_X11_value_11 : decode mX11_value.2.2.1 11 = .ok (.iload_n 1, 1) := by decide +kernel
theorem d_X11_value_12 : decode mX11_value.2.2.1 12 = .ok (.aload_n 0, 1) := by decide +kernel
theorem d_X11_value_13 : decode mX11_value.2.2.1 13 = .ok (.getfield 30, 3) := by decide +kernel
theorem d_X11_value_16 : decode mX11_value.2.2.1 16 = .ok (.getfield 130, 3) := by decide +kernel
theorem d_X11_value_19 : decode mX11_value.2.2.1 19 = .ok (.iconst 2, 1) := by decide +kernel
theorem d_X11_value_20 : decode mX11_value.2.2.1 20 = .ok (.iaload, 1) := by decide +kernel
theorem d_X11_value_21 : decode mX11_value.2.2.1 21 = .ok (.if_icmp .lt 6, 3) := by decide +kernel
theorem d_X11_value_27 : decode mX11_value.2.2.1 27 = .ok (.aload_n 0, 1) := by decide +kernel
theorem d_X11_value_28 : decode mX11_value.2.2.1 28 = .ok (.getfield 46, 3) := by decide +kernel
theorem d_X11_value_31 : decode mX11_value.2.2.1 31 = .ok (.getfield 171, 3) := by decide +kernel
theorem f_11_171 : e_fld 11 171 6 3 18 2 true := ⟨RX6, TX6, 3, rfl, rfl, by decide, rfl, rfl, rfl, iX6, tblG_in (inT2 (List.mem_of_getElem? (i := 104) rfl)) rfl, tyX6_ok, nmX6⟩
theorem d_X11_value_34 : decode mX11_value.2.2.1 34 = .ok (.iload_n 1, 1) := by decide +kernel
theorem d_X11_value_35 : decode mX11_value.2.2.1 35 = .ok (.iaload, 1) := by decide +kernel
theorem d_X11_value_36 : decode mX11_value.2.2.1 36 = .ok (.ireturn, 1) := by decide +kernel
def mX11_spent : MD := (11, yX11_spent, cX11_spent, 3, some .int)
theorem d_X11_spent_0 : decode mX11_spent.2.2.1 0 = .ok (.aload_n 0, 1) := by decide +kernel
theorem d_X11_spent_1 : decode mX11_spent.2.2.1 1 = .ok (.getfield 109, 3) := by decide +kernel
theorem d_X11_spent_4 : decode mX11_spent.2.2.1 4 = .ok (.ifCond .eq 20, 3) := by decide +kernel
theorem d_X11_spent_24 : decode mX11_spent.2.2.1 24 = .ok (.iconst (-1), 1) := by decide +kernel
theorem d_X11_spent_25 : decode mX11_spent.2.2.1 25 = .ok (.ireturn, 1) := by decide +kernel
theorem d_X11_spent_7 : decode mX11_spent.2.2.1 7 = .ok (.aload_n 0, 1) := by decide +kernel
theorem d_X11_spent_8 : decode mX11_spent.2.2.1 8 = .ok (.iload_n 1, 1) := by decide +kernel
theorem d_X11_spent_9 : decode mX11_spent.2.2.1 9 = .ok (.invokevirtual 174, 3) := by decide +kernel
def mX11_isPart : MD := (11, yX11_isPart, cX11_isPart, 2, some .boolean)
end
/-! 25.01 -/
section
theorem sel_X11_isPart : Cond.instanceMethod mX11_isPart.2.1 ∈ tblG ∧ Cond.selects mX11_isPart.2.1.cls mX11_isPart.2.1 mX11_isPart.2.1 ∈ tblG := ⟨tblG_in (inT5 (List.mem_of_getElem? (i := 180) rfl)) rfl, tblG_in (inP4 (q := (mX11_isPart.2.1, 14)) (List.mem_of_getElem? (i := 10) rfl)) rfl⟩
theorem s_11_174 : e_siteV 11 174 mX11_isPart 11 := ⟨tblG_in (inT5 (List.mem_of_getElem? (i := 178) rfl)) rfl, sel_X11_isPart.1, sel_X11_isPart.2, rfl⟩
theorem d_X11_isPart_0 : decode mX11_isPart.2.2.1 0 = .ok (.iload_n 1, 1) := by decide +kernel
theorem d_X11_isPart_1 : decode mX11_isPart.2.2.1 1 = .ok (.ifCond .lt 20, 3) := by decide +kernel
theorem d_X11_isPart_21 : decode mX11_isPart.2.2.1 21 = .ok (.iconst 0, 1) := by decide +kernel
theorem d_X11_isPart_22 : decode mX11_isPart.2.2.1 22 = .ok (.ireturn, 1) := by decide +kernel
theorem d_X11_isPart_4 : decode mX11_isPart.2.2.1 4 = .ok (.iload_n 1, 1) := by decide +kernel
theorem d_X11_isPart_5 : decode mX11_isPart.2.2.1 5 = .ok (.aload_n 0, 1) := by decide +kernel
theorem d_X11_isPart_6 : decode mX11_isPart.2.2.1 6 = .ok (.getfield 30, 3) := by decide +kernel
theorem d_X11_isPart_9 : decode mX11_isPart.2.2.1 9 = .ok (.getfield 130, 3) := by decide +kernel
theorem d_X11_isPart_12 : decode mX11_isPart.2.2.1 12 = .ok (.iconst 0, 1) := by decide +kernel
theorem d_X11_isPart_13 : decode mX11_isPart.2.2.1 13 = .ok (.iaload, 1) := by decide +kernel
theorem d_X11_isPart_14 : decode mX11_isPart.2.2.1 14 = .ok (.if_icmp .ge 7, 3) := by decide +kernel
theorem d_X11_isPart_17 : decode mX11_isPart.2.2.1 17 = .ok (.iconst 1, 1) := by decide +kernel
theorem d_X11_isPart_18 : decode mX11_isPart.2.2.1 18 = .ok (.goto 4, 3) := by decide +kernel
theorem ok_X11_isPart : e_m mX11_isPart 1 := ⟨tblG_in (inT5 (List.mem_of_getElem? (i := 181) rfl)) rfl, plainFor_of_name (by decide), rfl, ini_11, by decide +kernel, by decide⟩
theorem d_X11_spent_12 : decode mX11_spent.2.2.1 12 = .ok (.ifCond .eq 12, 3) := by decide +kernel
theorem d_X11_spent_15 : decode mX11_spent.2.2.1 15 = .ok (.iload_n 2, 1) := by decide +kernel
theorem d_X11_spent_16 : decode mX11_spent.2.2.1 16 = .ok (.ifCond .lt 8, 3) := by decide +kernel
theorem d_X11_spent_19 : decode mX11_spent.2.2.1 19 = .ok (.iload_n 2, 1) := by decide +kernel
theorem d_X11_spent_20 : decode mX11_spent.2.2.1 20 = .ok (.iconst 4, 1) := by decide +kernel
theorem d_X11_spent_21 : decode mX11_spent.2.2.1 21 = .ok (.if_icmp .lt 5, 3) := by decide +kernel
theorem d_X11_spent_26 : decode mX11_spent.2.2.1 26 = .ok (.aload_n 0, 1) := by decide +kernel
theorem d_X11_spent_27 : decode mX11_spent.2.2.1 27 = .ok (.getfield 46, 3) := by decide +kernel
theorem d_X11_spent_30 : decode mX11_spent.2.2.1 30 = .ok (.getfield 178, 3) := by decide +kernel
theorem f_11_178 : e_fld 11 178 6 0 18 2 true := ⟨RX6, TX6, 0, rfl, rfl, by decide, rfl, rfl, rfl, iX6, tblG_in (inT2 (List.mem_of_getElem? (i := 100) rfl)) rfl, tyX6_ok, nmX6⟩
theorem d_X11_spent_33 : decode mX11_spent.2.2.1 33 = .ok (.getfield 182, 3) := by decide +kernel
theorem f_11_182 : e_fld 11 182 1 2 9 2 true := ⟨RX1, TX1, 2, rfl, rfl, by decide, rfl, rfl, rfl, iX1, tblG_in (inT2 (List.mem_of_getElem? (i := 70) rfl)) rfl, tyX1_ok, nmX1⟩
theorem d_X11_spent_36 : decode mX11_spent.2.2.1 36 = .ok (.iload_n 1, 1) := by decide +kernel
theorem d_X11_spent_37 : decode mX11_spent.2.2.1 37 = .ok (.iconst 4, 1) := by decide +kernel
theorem d_X11_spent_38 : decode mX11_spent.2.2.1 38 = .ok (.imul, 1) := by decide +kernel
theorem d_X11_spent_39 : decode mX11_spent.2.2.1 39 = .ok (.iload_n 2, 1) := by decide +kernel
theorem d_X11_spent_40 : decode mX11_spent.2.2.1 40 = .ok (.iadd, 1) := by decide +kernel
theorem d_X11_spent_41 : decode mX11_spent.2.2.1 41 = .ok (.iaload, 1) := by decide +kernel
theorem d_X11_spent_42 : decode mX11_spent.2.2.1 42 = .ok (.ireturn, 1) := by decide +kernel
def mX11_pays : MD := (11, yX11_pays, cX11_pays, 3, some .int)
theorem d_X11_pays_0 : decode mX11_pays.2.2.1 0 = .ok (.aload_n 0, 1) := by decide +kernel
theorem d_X11_pays_1 : decode mX11_pays.2.2.1 1 = .ok (.getfield 109, 3) := by decide +kernel
theorem d_X11_pays_4 : decode mX11_pays.2.2.1 4 = .ok (.ifCond .eq 12, 3) := by decide +kernel
theorem d_X11_pays_16 : decode mX11_pays.2.2.1 16 = .ok (.iconst (-1), 1) := by decide +kernel
theorem d_X11_pays_17 : decode mX11_pays.2.2.1 17 = .ok (.ireturn, 1) := by decide +kernel
theorem d_X11_pays_7 : decode mX11_pays.2.2.1 7 = .ok (.iload_n 2, 1) := by decide +kernel
theorem d_X11_pays_8 : decode mX11_pays.2.2.1 8 = .ok (.ifCond .lt 8, 3) := by decide +kernel
theorem d_X11_pays_11 : decode mX11_pays.2.2.1 11 = .ok (.iload_n 2, 1) := by decide +kernel
theorem d_X11_pays_12 : decode mX11_pays.2.2.1 12 = .ok (.iconst 1, 1) := by decide +kernel
theorem d_X11_pays_13 : decode mX11_pays.2.2.1 13 = .ok (.if_icmp .le 5, 3) := by decide +kernel
theorem d_X11_pays_18 : decode mX11_pays.2.2.1 18 = .ok (.iload_n 1, 1) := by decide +kernel
theorem d_X11_pays_19 : decode mX11_pays.2.2.1 19 = .ok (.iconst (-1), 1) := by decide +kernel
theorem d_X11_pays_20 : decode mX11_pays.2.2.1 20 = .ok (.if_icmp .ne 14, 3) := by decide +kernel
theorem d_X11_pays_34 : decode mX11_pays.2.2.1 34 = .ok (.aload_n 0, 1) := by decide +kernel
theorem d_X11_pays_35 : decode mX11_pays.2.2.1 35 = .ok (.iload_n 1, 1) := by decide +kernel
theorem d_X11_pays_36 : decode mX11_pays.2.2.1 36 = .ok (.invokevirtual 191, 3) := by decide +kernel
def mX11_isLine : MD := (11, yX11_isLine, cX11_isLine, 2, some .boolean)
theorem sel_X11_isLine : Cond.instanceMethod mX11_isLine.2.1 ∈ tblG ∧ Cond.selects mX11_isLine.2.1.cls mX11_isLine.2.1 mX11_isLine.2.1 ∈ tblG := ⟨tblG_in (inT5 (List.mem_of_getElem? (i := 192) rfl)) rfl, tblG_in (inP4 (q := (mX11_isLine.2.1, 14)) (List.mem_of_getElem? (i := 11) rfl)) rfl⟩
theorem s_11_191 : e_siteV 11 191 mX11_isLine 11 := ⟨tblG_in (inT5 (List.mem_of_getElem? (i := 190) rfl)) rfl, sel_X11_isLine.1, sel_X11_isLine.2, rfl⟩
theorem d_X11_isLine_0 : decode mX11_isLine.2.2.1 0 = .ok (.iload_n 1, 1) := by decide +kernel
theorem d_X11_isLine_1 : decode mX11_isLine.2.2.1 1 = .ok (.ifCond .lt 21, 3) := by decide +kernel
theorem d_X11_isLine_22 : decode mX11_isLine.2.2.1 22 = .ok (.iconst 0, 1) := by decide +kernel
theorem d_X11_isLine_23 : decode mX11_isLine.2.2.1 23 = .ok (.ireturn, 1) := by decide +kernel
theorem d_X11_isLine_4 : decode mX11_isLine.2.2.1 4 = .ok (.iload_n 1, 1) := by decide +kernel
theorem d_X11_isLine_5 : decode mX11_isLine.2.2.1 5 = .ok (.aload_n 0, 1) := by decide +kernel
theorem d_X11_isLine_6 : decode mX11_isLine.2.2.1 6 = .ok (.getfield 30, 3) := by decide +kernel
theorem d_X11_isLine_9 : decode mX11_isLine.2.2.1 9 = .ok (.getfield 115, 3) := by decide +kernel
theorem d_X11_isLine_12 : decode mX11_isLine.2.2.1 12 = .ok (.getfield 119, 3) := by decide +kernel
theorem d_X11_isLine_15 : decode mX11_isLine.2.2.1 15 = .ok (.if_icmp .ge 7, 3) := by decide +kernel
theorem d_X11_isLine_18 : decode mX11_isLine.2.2.1 18 = .ok (.iconst 1, 1) := by decide +kernel
theorem d_X11_isLine_19 : decode mX11_isLine.2.2.1 19 = .ok (.goto 4, 3) := by decide +kernel
theorem ok_X11_isLine : e_m mX11_isLine 1 := ⟨tblG_in (inT5 (List.mem_of_getElem? (i := 193) rfl)) rfl, plainFor_of_name (by decide), rfl, ini_11, by decide +kernel, by decide⟩
theorem d_X11_pays_39 : decode mX11_pays.2.2.1 39 = .ok (.ifCond .ne 5, 3) := by decide +kernel
theorem d_X11_pays_44 : decode mX11_pays.2.2.1 44 = .ok (.iload_n 2, 1) := by decide +kernel
theorem d_X11_pays_45 : decode mX11_pays.2.2.1 45 = .ok (.ifCond .ne 17, 3) := by decide +kernel
theorem d_X11_pays_62 : decode mX11_pays.2.2.1 62 = .ok (.aload_n 0, 1) := by decide +kernel
theorem d_X11_pays_63 : decode mX11_pays.2.2.1 63 = .ok (.getfield 46, 3) := by decide +kernel
theorem d_X11_pays_66 : decode mX11_pays.2.2.1 66 = .ok (.getfield 178, 3) := by decide +kernel
theorem d_X11_pays_69 : decode mX11_pays.2.2.1 69 = .ok (.iload_n 1, 1) := by decide +kernel
theorem d_X11_pays_70 : decode mX11_pays.2.2.1 70 = .ok (.invokevirtual 198, 3) := by decide +kernel
def mX1_paysInParts : MD := (1, yX1_paysInParts, cX1_paysInParts, 5, some .int)
theorem sel_X1_paysInParts : Cond.instanceMethod mX1_paysInParts.2.1 ∈ tblG ∧ Cond.selects mX1_paysInParts.2.1.cls mX1_paysInParts.2.1 mX1_paysInParts.2.1 ∈ tblG := ⟨tblG_in (inT5 (List.mem_of_getElem? (i := 199) rfl)) rfl, tblG_in (inT5 (List.mem_of_getElem? (i := 200) rfl)) rfl⟩
theorem s_11_198 : e_siteV 11 198 mX1_paysInParts 1 := ⟨tblG_in (inT5 (List.mem_of_getElem? (i := 198) rfl)) rfl, sel_X1_paysInParts.1, sel_X1_paysInParts.2, rfl⟩
theorem d_X1_paysInParts_0 : decode mX1_paysInParts.2.2.1 0 = .ok (.aload_n 0, 1) := by decide +kernel
theorem d_X1_paysInParts_1 : decode mX1_paysInParts.2.2.1 1 = .ok (.getfield 21, 3) := by decide +kernel
theorem d_X1_paysInParts_4 : decode mX1_paysInParts.2.2.1 4 = .ok (.iload_n 1, 1) := by decide +kernel
theorem d_X1_paysInParts_5 : decode mX1_paysInParts.2.2.1 5 = .ok (.iaload, 1) := by decide +kernel
theorem d_X1_paysInParts_6 : decode mX1_paysInParts.2.2.1 6 = .ok (.istore_n 2, 1) := by decide +kernel
theorem d_X1_paysInParts_7 : decode mX1_paysInParts.2.2.1 7 = .ok (.iconst 0, 1) := by decide +kernel
theorem d_X1_paysInParts_8 : decode mX1_paysInParts.2.2.1 8 = .ok (.istore_n 3, 1) := by decide +kernel
theorem d_X1_paysInParts_9 : decode mX1_paysInParts.2.2.1 9 = .ok (.iload_n 3, 1) := by decide +kernel
theorem d_X1_paysInParts_10 : decode mX1_paysInParts.2.2.1 10 = .ok (.aload_n 0, 1) := by decide +kernel
theorem d_X1_paysInParts_11 : decode mX1_paysInParts.2.2.1 11 = .ok (.getfield 33, 3) := by decide +kernel
theorem d_X1_paysInParts_14 : decode mX1_paysInParts.2.2.1 14 = .ok (.getfield 94, 3) := by decide +kernel
theorem f_1_94 : e_fld 1 94 8 0 12 0 false := ⟨RX8, TX8, 0, rfl, rfl, by decide, rfl, rfl, rfl, iX8, tblG_in (inT2 (List.mem_of_getElem? (i := 11) rfl)) rfl, tyX8_ok, nmX8⟩
theorem d_X1_paysInParts_17 : decode mX1_paysInParts.2.2.1 17 = .ok (.if_icmp .ge 78, 3) := by decide +kernel
theorem d_X1_paysInParts_95 : decode mX1_paysInParts.2.2.1 95 = .ok (.iload_n 2, 1) := by decide +kernel
theorem d_X1_paysInParts_96 : decode mX1_paysInParts.2.2.1 96 = .ok (.ireturn, 1) := by decide +kernel
theorem d_X1_paysInParts_20 : decode mX1_paysInParts.2.2.1 20 = .ok (.aload_n 0, 1) := by decide +kernel
theorem d_X1_paysInParts_21 : decode mX1_paysInParts.2.2.1 21 = .ok (.getfield 33, 3) := by decide +kernel
theorem d_X1_paysInParts_24 : decode mX1_paysInParts.2.2.1 24 = .ok (.getfield 97, 3) := by decide +kernel
theorem f_1_97 : e_fld 1 97 8 5 12 2 false := ⟨RX8, TX8, 5, rfl, rfl, by decide, rfl, rfl, rfl, iX8, tblG_in (inT2 (List.mem_of_getElem? (i := 26) rfl)) rfl, tyX8_ok, nmX8⟩
theorem d_X1_paysInParts_27 : decode mX1_paysInParts.2.2.1 27 = .ok (.iload_n 3, 1) := by decide +kernel
theorem d_X1_paysInParts_28 : decode mX1_paysInParts.2.2.1 28 = .ok (.laload, 1) := by decide +kernel
theorem d_X1_paysInParts_29 : decode mX1_paysInParts.2.2.1 29 = .ok (.iload_n 1, 1) := by decide +kernel
theorem d_X1_paysInParts_30 : decode mX1_paysInParts.2.2.1 30 = .ok (.lshr, 1) := by decide +kernel
theorem d_X1_paysInParts_31 : decode mX1_paysInParts.2.2.1 31 = .ok (.lconst 1, 1) := by decide +kernel
theorem d_X1_paysInParts_32 : decode mX1_paysInParts.2.2.1 32 = .ok (.land, 1) := by decide +kernel
theorem d_X1_paysInParts_33 : decode mX1_paysInParts.2.2.1 33 = .ok (.lconst 1, 1) := by decide +kernel
theorem d_X1_paysInParts_34 : decode mX1_paysInParts.2.2.1 34 = .ok (.lcmp, 1) := by decide +kernel
theorem d_X1_paysInParts_35 : decode mX1_paysInParts.2.2.1 35 = .ok (.ifCond .ne 54, 3) := by decide +kernel
theorem d_X1_paysInParts_38 : decode mX1_paysInParts.2.2.1 38 = .ok (.aload_n 0, 1) := by decide +kernel
theorem d_X1_paysInParts_39 : decode mX1_paysInParts.2.2.1 39 = .ok (.getfield 33, 3) := by decide +kernel
theorem d_X1_paysInParts_42 : decode mX1_paysInParts.2.2.1 42 = .ok (.getfield 101, 3) := by decide +kernel
theorem f_1_101 : e_fld 1 101 8 4 12 2 false := ⟨RX8, TX8, 4, rfl, rfl, by decide, rfl, rfl, rfl, iX8, tblG_in (inT2 (List.mem_of_getElem? (i := 22) rfl)) rfl, tyX8_ok, nmX8⟩
theorem d_X1_paysInParts_45 : decode mX1_paysInParts.2.2.1 45 = .ok (.iload_n 3, 1) := by decide +kernel
theorem d_X1_paysInParts_46 : decode mX1_paysInParts.2.2.1 46 = .ok (.iaload, 1) := by decide +kernel
theorem d_X1_paysInParts_47 : decode mX1_paysInParts.2.2.1 47 = .ok (.aload_n 0, 1) := by decide +kernel
theorem d_X1_paysInParts_48 : decode mX1_paysInParts.2.2.1 48 = .ok (.getfield 41, 3) := by decide +kernel
theorem f_1_41 : e_fld 1 41 1 1 9 2 false := ⟨RX1, TX1, 1, rfl, rfl, by decide, rfl, rfl, rfl, iX1, tblG_in (inT2 (List.mem_of_getElem? (i := 67) rfl)) rfl, tyX1_ok, nmX1⟩
theorem d_X1_paysInParts_51 : decode mX1_paysInParts.2.2.1 51 = .ok (.getfield 71, 3) := by decide +kernel
theorem f_1_71 : e_fld 1 71 3 5 12 2 true := ⟨RX3, TX3, 5, rfl, rfl, by decide, rfl, rfl, rfl, iX3, tblG_in (inT1 (List.mem_of_getElem? (i := 181) rfl)) rfl, tyX3_ok, nmX3⟩
theorem d_X1_paysInParts_54 : decode mX1_paysInParts.2.2.1 54 = .ok (.aload_n 0, 1) := by decide +kernel
theorem d_X1_paysInParts_55 : decode mX1_paysInParts.2.2.1 55 = .ok (.getfield 33, 3) := by decide +kernel
theorem d_X1_paysInParts_58 : decode mX1_paysInParts.2.2.1 58 = .ok (.getfield 104, 3) := by decide +kernel
theorem f_1_104 : e_fld 1 104 8 1 12 2 false := ⟨RX8, TX8, 1, rfl, rfl, by decide, rfl, rfl, rfl, iX8, tblG_in (inT2 (List.mem_of_getElem? (i := 14) rfl)) rfl, tyX8_ok, nmX8⟩
theorem d_X1_paysInParts_61 : decode mX1_paysInParts.2.2.1 61 = .ok (.iload_n 3, 1) := by decide +kernel
theorem d_X1_paysInParts_62 : decode mX1_paysInParts.2.2.1 62 = .ok (.iaload, 1) := by decide +kernel
theorem d_X1_paysInParts_63 : decode mX1_paysInParts.2.2.1 63 = .ok (.iconst 4, 1) := by decide +kernel
theorem d_X1_paysInParts_64 : decode mX1_paysInParts.2.2.1 64 = .ok (.imul, 1) := by decide +kernel
theorem d_X1_paysInParts_65 : decode mX1_paysInParts.2.2.1 65 = .ok (.iconst 2, 1) := by decide +kernel
theorem d_X1_paysInParts_66 : decode mX1_paysInParts.2.2.1 66 = .ok (.iadd, 1) := by decide +kernel
theorem d_X1_paysInParts_67 : decode mX1_paysInParts.2.2.1 67 = .ok (.iaload, 1) := by decide +kernel
theorem d_X1_paysInParts_68 : decode mX1_paysInParts.2.2.1 68 = .ok (.imul, 1) := by decide +kernel
theorem d_X1_paysInParts_69 : decode mX1_paysInParts.2.2.1 69 = .ok (.istore 4, 2) := by decide +kernel
theorem d_X1_paysInParts_71 : decode mX1_paysInParts.2.2.1 71 = .ok (.iload_n 2, 1) := by decide +kernel
theorem d_X1_paysInParts_72 : decode mX1_paysInParts.2.2.1 72 = .ok (.iload 4, 2) := by decide +kernel
theorem d_X1_paysInParts_74 : decode mX1_paysInParts.2.2.1 74 = .ok (.aload_n 0, 1) := by decide +kernel
theorem d_X1_paysInParts_75 : decode mX1_paysInParts.2.2.1 75 = .ok (.getfield 33, 3) := by decide +kernel
theorem d_X1_paysInParts_78 : decode mX1_paysInParts.2.2.1 78 = .ok (.getfield 97, 3) := by decide +kernel
theorem d_X1_paysInParts_81 : decode mX1_paysInParts.2.2.1 81 = .ok (.iload_n 3, 1) := by decide +kernel
theorem d_X1_paysInParts_82 : decode mX1_paysInParts.2.2.1 82 = .ok (.laload, 1) := by decide +kernel
theorem d_X1_paysInParts_83 : decode mX1_paysInParts.2.2.1 83 = .ok (.iload_n 1, 1) := by decide +kernel
theorem d_X1_paysInParts_84 : decode mX1_paysInParts.2.2.1 84 = .ok (.invokestatic 107, 3) := by decide +kernel
def mX1_part : MD := (1, yX1_part, cX1_part, 6, some .int)
theorem s_1_107 : e_siteS 1 107 mX1_part := ⟨tblG_in (inT5 (List.mem_of_getElem? (i := 202) rfl)) rfl, tblG_in (inT5 (List.mem_of_getElem? (i := 203) rfl)) rfl⟩
theorem d_X1_part_0 : decode mX1_part.2.2.1 0 = .ok (.lload_n 1, 1) := by decide +kernel
theorem d_X1_part_1 : decode mX1_part.2.2.1 1 = .ok (.invokestatic 111, 3) := by decide +kernel
def mJ13_bitCount_95d88 : MD := (17, yJ13_bitCount_95d88, cJ13_bitCount_95d88, 2, some .int)
theorem s_1_111 : e_siteS 1 111 mJ13_bitCount_95d88 := ⟨tblG_in (inT5 (List.mem_of_getElem? (i := 205) rfl)) rfl, tblG_in (inT5 (List.mem_of_getElem? (i := 206) rfl)) rfl⟩
theorem d_J13_bitCount_95d88_0 : decode mJ13_bitCount_95d88.2.2.1 0 = .ok (.lload_n 0, 1) := by decide +kernel
theorem d_J13_bitCount_95d88_1 : decode mJ13_bitCount_95d88.2.2.1 1 = .ok (.lload_n 0, 1) := by decide +kernel
theorem d_J13_bitCount_95d88_2 : decode mJ13_bitCount_95d88.2.2.1 2 = .ok (.iconst 1, 1) := by decide +kernel
theorem d_J13_bitCount_95d88_3 : decode mJ13_bitCount_95d88.2.2.1 3 = .ok (.lushr, 1) := by decide +kernel
theorem d_J13_bitCount_95d88_4 : decode mJ13_bitCount_95d88.2.2.1 4 = .ok (.ldc2_w 314, 3) := by decide +kernel
theorem kl_17_314 : Jvm.Cond.constantLong (e_cn 17) 314 (Int64.ofInt 6148914691236517205) ∈ tblG := tblG_in (inT5 (List.mem_of_getElem? (i := 208) rfl)) rfl
theorem d_J13_bitCount_95d88_7 : decode mJ13_bitCount_95d88.2.2.1 7 = .ok (.land, 1) := by decide +kernel
theorem d_J13_bitCount_95d88_8 : decode mJ13_bitCount_95d88.2.2.1 8 = .ok (.lsub, 1) := by decide +kernel
theorem d_J13_bitCount_95d88_9 : decode mJ13_bitCount_95d88.2.2.1 9 = .ok (.lstore_n 0, 1) := by decide +kernel
theorem d_J13_bitCount_95d88_10 : decode mJ13_bitCount_95d88.2.2.1 10 = .ok (.lload_n 0, 1) := by decide +kernel
theorem d_J13_bitCount_95d88_11 : decode mJ13_bitCount_95d88.2.2.1 11 = .ok (.ldc2_w 316, 3) := by decide +kernel
theorem kl_17_316 : Jvm.Cond.constantLong (e_cn 17) 316 (Int64.ofInt 3689348814741910323) ∈ tblG := tblG_in (inT5 (List.mem_of_getElem? (i := 209) rfl)) rfl
theorem d_J13_bitCount_95d88_14 : decode mJ13_bitCount_95d88.2.2.1 14 = .ok (.land, 1) := by decide +kernel
theorem d_J13_bitCount_95d88_15 : decode mJ13_bitCount_95d88.2.2.1 15 = .ok (.lload_n 0, 1) := by decide +kernel
theorem d_J13_bitCount_95d88_16 : decode mJ13_bitCount_95d88.2.2.1 16 = .ok (.iconst 2, 1) := by decide +kernel
theorem d_J13_bitCount_95d88_17 : decode mJ13_bitCount_95d88.2.2.1 17 = .ok (.lushr, 1) := by decide +kernel
theorem d_J13_bitCount_95d88_18 : decode mJ13_bitCount_95d88.2.2.1 18 = .ok (.ldc2_w 316, 3) := by decide +kernel
theorem d_J13_bitCount_95d88_21 : decode mJ13_bitCount_95d88.2.2.1 21 = .ok (.land, 1) := by decide +kernel
theorem d_J13_bitCount_95d88_22 : decode mJ13_bitCount_95d88.2.2.1 22 = .ok (.ladd, 1) := by decide +kernel
theorem d_J13_bitCount_95d88_23 : decode mJ13_bitCount_95d88.2.2.1 23 = .ok (.lstore_n 0, 1) := by decide +kernel
theorem d_J13_bitCount_95d88_24 : decode mJ13_bitCount_95d88.2.2.1 24 = .ok (.lload_n 0, 1) := by decide +kernel
theorem d_J13_bitCount_95d88_25 : decode mJ13_bitCount_95d88.2.2.1 25 = .ok (.lload_n 0, 1) := by decide +kernel
theorem d_J13_bitCount_95d88_26 : decode mJ13_bitCount_95d88.2.2.1 26 = .ok (.iconst 4, 1) := by decide +kernel
theorem d_J13_bitCount_95d88_27 : decode mJ13_bitCount_95d88.2.2.1 27 = .ok (.lushr, 1) := by decide +kernel
theorem d_J13_bitCount_95d88_28 : decode mJ13_bitCount_95d88.2.2.1 28 = .ok (.ladd, 1) := by decide +kernel
theorem d_J13_bitCount_95d88_29 : decode mJ13_bitCount_95d88.2.2.1 29 = .ok (.ldc2_w 318, 3) := by decide +kernel
theorem kl_17_318 : Jvm.Cond.constantLong (e_cn 17) 318 (Int64.ofInt 1085102592571150095) ∈ tblG := tblG_in (inT5 (List.mem_of_getElem? (i := 210) rfl)) rfl
theorem d_J13_bitCount_95d88_32 : decode mJ13_bitCount_95d88.2.2.1 32 = .ok (.land, 1) := by decide +kernel
theorem d_J13_bitCount_95d88_33 : decode mJ13_bitCount_95d88.2.2.1 33 = .ok (.lstore_n 0, 1) := by decide +kernel
theorem d_J13_bitCount_95d88_34 : decode mJ13_bitCount_95d88.2.2.1 34 = .ok (.lload_n 0, 1) := by decide +kernel
theorem d_J13_bitCount_95d88_35 : decode mJ13_bitCount_95d88.2.2.1 35 = .ok (.lload_n 0, 1) := by decide +kernel
theorem d_J13_bitCount_95d88_36 : decode mJ13_bitCount_95d88.2.2.1 36 = .ok (.bipush 8, 2) := by decide +kernel
theorem d_J13_bitCount_95d88_38 : decode mJ13_bitCount_95d88.2.2.1 38 = .ok (.lushr, 1) := by decide +kernel
theorem d_J13_bitCount_95d88_39 : decode mJ13_bitCount_95d88.2.2.1 39 = .ok (.ladd, 1) := by decide +kernel
theorem d_J13_bitCount_95d88_40 : decode mJ13_bitCount_95d88.2.2.1 40 = .ok (.lstore_n 0, 1) := by decide +kernel
theorem d_J13_bitCount_95d88_41 : decode mJ13_bitCount_95d88.2.2.1 41 = .ok (.lload_n 0, 1) := by decide +kernel
theorem d_J13_bitCount_95d88_42 : decode mJ13_bitCount_95d88.2.2.1 42 = .ok (.lload_n 0, 1) := by decide +kernel
theorem d_J13_bitCount_95d88_43 : decode mJ13_bitCount_95d88.2.2.1 43 = .ok (.bipush 16, 2) := by decide +kernel
theorem d_J13_bitCount_95d88_45 : decode mJ13_bitCount_95d88.2.2.1 45 = .ok (.lushr, 1) := by decide +kernel
theorem d_J13_bitCount_95d88_46 : decode mJ13_bitCount_95d88.2.2.1 46 = .ok (.ladd, 1) := by decide +kernel
theorem d_J13_bitCount_95d88_47 : decode mJ13_bitCount_95d88.2.2.1 47 = .ok (.lstore_n 0, 1) := by decide +kernel
theorem d_J13_bitCount_95d88_48 : decode mJ13_bitCount_95d88.2.2.1 48 = .ok (.lload_n 0, 1) := by decide +kernel
theorem d_J13_bitCount_95d88_49 : decode mJ13_bitCount_95d88.2.2.1 49 = .ok (.lload_n 0, 1) := by decide +kernel
theorem d_J13_bitCount_95d88_50 : decode mJ13_bitCount_95d88.2.2.1 50 = .ok (.bipush 32, 2) := by decide +kernel
theorem d_J13_bitCount_95d88_52 : decode mJ13_bitCount_95d88.2.2.1 52 = .ok (.lushr, 1) := by decide +kernel
theorem d_J13_bitCount_95d88_53 : decode mJ13_bitCount_95d88.2.2.1 53 = .ok (.ladd, 1) := by decide +kernel
theorem d_J13_bitCount_95d88_54 : decode mJ13_bitCount_95d88.2.2.1 54 = .ok (.lstore_n 0, 1) := by decide +kernel
theorem d_J13_bitCount_95d88_55 : decode mJ13_bitCount_95d88.2.2.1 55 = .ok (.lload_n 0, 1) := by decide +kernel
theorem d_J13_bitCount_95d88_56 : decode mJ13_bitCount_95d88.2.2.1 56 = .ok (.l2i, 1) := by decide +kernel
theorem d_J13_bitCount_95d88_57 : decode mJ13_bitCount_95d88.2.2.1 57 = .ok (.bipush 127, 2) := by decide +kernel
theorem d_J13_bitCount_95d88_59 : decode mJ13_bitCount_95d88.2.2.1 59 = .ok (.iand, 1) := by decide +kernel
theorem d_J13_bitCount_95d88_60 : decode mJ13_bitCount_95d88.2.2.1 60 = .ok (.ireturn, 1) := by decide +kernel
theorem ini_17 : Cond.initialized "java/lang/Long" ∈ tblG := tblG_in (inT1 (List.mem_of_getElem? (i := 22) rfl)) rfl
theorem ok_J13_bitCount_95d88 : e_m mJ13_bitCount_95d88 1 := ⟨tblG_in (inT5 (List.mem_of_getElem? (i := 207) rfl)) rfl, plainFor_of_name (by decide), rfl, ini_17, by decide +kernel, by decide⟩
theorem d_X1_part_4 : decode mX1_part.2.2.1 4 = .ok (.istore 4, 2) := by decide +kernel
theorem d_X1_part_6 : decode mX1_part.2.2.1 6 = .ok (.lload_n 1, 1) := by decide +kernel
theorem d_X1_part_7 : decode mX1_part.2.2.1 7 = .ok (.lconst 1, 1) := by decide +kernel
theorem d_X1_part_8 : decode mX1_part.2.2.1 8 = .ok (.iload_n 3, 1) := by decide +kernel
theorem d_X1_part_9 : decode mX1_part.2.2.1 9 = .ok (.lshl, 1) := by decide +kernel
theorem d_X1_part_10 : decode mX1_part.2.2.1 10 = .ok (.lconst 1, 1) := by decide +kernel
theorem d_X1_part_11 : decode mX1_part.2.2.1 11 = .ok (.lsub, 1) := by decide +kernel
theorem d_X1_part_12 : decode mX1_part.2.2.1 12 = .ok (.land, 1) := by decide +kernel
theorem d_X1_part_13 : decode mX1_part.2.2.1 13 = .ok (.invokestatic 111, 3) := by decide +kernel
theorem d_X1_part_16 : decode mX1_part.2.2.1 16 = .ok (.istore 5, 2) := by decide +kernel
theorem d_X1_part_18 : decode mX1_part.2.2.1 18 = .ok (.iload 4, 2) := by decide +kernel
theorem d_X1_part_20 : decode mX1_part.2.2.1 20 = .ok (.ifCond .ne 5, 3) := by decide +kernel
theorem d_X1_part_25 : decode mX1_part.2.2.1 25 = .ok (.iload_n 0, 1) := by decide +kernel
theorem d_X1_part_26 : decode mX1_part.2.2.1 26 = .ok (.iload 4, 2) := by decide +kernel
theorem d_X1_part_28 : decode mX1_part.2.2.1 28 = .ok (.idiv, 1) := by decide +kernel
theorem d_X1_part_29 : decode mX1_part.2.2.1 29 = .ok (.iload 5, 2) := by decide +kernel
theorem d_X1_part_31 : decode mX1_part.2.2.1 31 = .ok (.iload_n 0, 1) := by decide +kernel
theorem d_X1_part_32 : decode mX1_part.2.2.1 32 = .ok (.iload 4, 2) := by decide +kernel
theorem d_X1_part_34 : decode mX1_part.2.2.1 34 = .ok (.irem, 1) := by decide +kernel
theorem d_X1_part_35 : decode mX1_part.2.2.1 35 = .ok (.if_icmp .ge 7, 3) := by decide +kernel
theorem d_X1_part_42 : decode mX1_part.2.2.1 42 = .ok (.iconst 0, 1) := by decide +kernel
theorem d_X1_part_43 : decode mX1_part.2.2.1 43 = .ok (.iadd, 1) := by decide +kernel
theorem d_X1_part_44 : decode mX1_part.2.2.1 44 = .ok (.ireturn, 1) := by decide +kernel
theorem d_X1_part_38 : decode mX1_part.2.2.1 38 = .ok (.iconst 1, 1) := by decide +kernel
theorem d_X1_part_39 : decode mX1_part.2.2.1 39 = .ok (.goto 4, 3) := by decide +kernel
theorem d_X1_part_23 : decode mX1_part.2.2.1 23 = .ok (.iconst 0, 1) := by decide +kernel
theorem d_X1_part_24 : decode mX1_part.2.2.1 24 = .ok (.ireturn, 1) := by decide +kernel
theorem ok_X1_part : e_m mX1_part 3 := ⟨tblG_in (inT5 (List.mem_of_getElem? (i := 204) rfl)) rfl, plainFor_of_name (by decide), rfl, ini_1, by decide +kernel, by decide⟩
theorem d_X1_paysInParts_87 : decode mX1_paysInParts.2.2.1 87 = .ok (.iadd, 1) := by decide +kernel
theorem d_X1_paysInParts_88 : decode mX1_paysInParts.2.2.1 88 = .ok (.istore_n 2, 1) := by decide +kernel
end
/-! 25.02 -/
section
theorem d_X1_paysInParts_89 : decode mX1_paysInParts.2.2.1 89 = .ok (.iinc 3 1, 3) := by decide +kernel
theorem d_X1_paysInParts_92 : decode mX1_paysInParts.2.2.1 92 = .ok (.goto (-83), 3) := by decide +kernel
theorem ok_X1_paysInParts : e_m mX1_paysInParts 1 := ⟨tblG_in (inT5 (List.mem_of_getElem? (i := 201) rfl)) rfl, plainFor_of_name (by decide), rfl, ini_1, by decide +kernel, by decide⟩
theorem d_X11_pays_73 : decode mX11_pays.2.2.1 73 = .ok (.ireturn, 1) := by decide +kernel
theorem d_X11_pays_48 : decode mX11_pays.2.2.1 48 = .ok (.aload_n 0, 1) := by decide +kernel
theorem d_X11_pays_49 : decode mX11_pays.2.2.1 49 = .ok (.getfield 46, 3) := by decide +kernel
theorem d_X11_pays_52 : decode mX11_pays.2.2.1 52 = .ok (.getfield 178, 3) := by decide +kernel
theorem d_X11_pays_55 : decode mX11_pays.2.2.1 55 = .ok (.iload_n 1, 1) := by decide +kernel
theorem d_X11_pays_56 : decode mX11_pays.2.2.1 56 = .ok (.invokevirtual 194, 3) := by decide +kernel
def mX1_paysAsLast : MD := (1, yX1_paysAsLast, cX1_paysAsLast, 2, some .int)
theorem sel_X1_paysAsLast : Cond.instanceMethod mX1_paysAsLast.2.1 ∈ tblG ∧ Cond.selects mX1_paysAsLast.2.1.cls mX1_paysAsLast.2.1 mX1_paysAsLast.2.1 ∈ tblG := ⟨tblG_in (inT5 (List.mem_of_getElem? (i := 195) rfl)) rfl, tblG_in (inT5 (List.mem_of_getElem? (i := 196) rfl)) rfl⟩
theorem s_11_194 : e_siteV 11 194 mX1_paysAsLast 1 := ⟨tblG_in (inT5 (List.mem_of_getElem? (i := 194) rfl)) rfl, sel_X1_paysAsLast.1, sel_X1_paysAsLast.2, rfl⟩
theorem d_X1_paysAsLast_0 : decode mX1_paysAsLast.2.2.1 0 = .ok (.aload_n 0, 1) := by decide +kernel
theorem d_X1_paysAsLast_1 : decode mX1_paysAsLast.2.2.1 1 = .ok (.getfield 21, 3) := by decide +kernel
theorem d_X1_paysAsLast_4 : decode mX1_paysAsLast.2.2.1 4 = .ok (.iload_n 1, 1) := by decide +kernel
theorem d_X1_paysAsLast_5 : decode mX1_paysAsLast.2.2.1 5 = .ok (.iaload, 1) := by decide +kernel
theorem d_X1_paysAsLast_6 : decode mX1_paysAsLast.2.2.1 6 = .ok (.aload_n 0, 1) := by decide +kernel
theorem d_X1_paysAsLast_7 : decode mX1_paysAsLast.2.2.1 7 = .ok (.getfield 24, 3) := by decide +kernel
theorem d_X1_paysAsLast_10 : decode mX1_paysAsLast.2.2.1 10 = .ok (.iload_n 1, 1) := by decide +kernel
theorem d_X1_paysAsLast_11 : decode mX1_paysAsLast.2.2.1 11 = .ok (.iaload, 1) := by decide +kernel
theorem d_X1_paysAsLast_12 : decode mX1_paysAsLast.2.2.1 12 = .ok (.iadd, 1) := by decide +kernel
theorem d_X1_paysAsLast_13 : decode mX1_paysAsLast.2.2.1 13 = .ok (.ireturn, 1) := by decide +kernel
theorem ok_X1_paysAsLast : e_m mX1_paysAsLast 1 := ⟨tblG_in (inT5 (List.mem_of_getElem? (i := 197) rfl)) rfl, plainFor_of_name (by decide), rfl, ini_1, by decide +kernel, by decide⟩
theorem d_X11_pays_59 : decode mX11_pays.2.2.1 59 = .ok (.goto 14, 3) := by decide +kernel
theorem d_X11_pays_42 : decode mX11_pays.2.2.1 42 = .ok (.iconst (-1), 1) := by decide +kernel
theorem d_X11_pays_43 : decode mX11_pays.2.2.1 43 = .ok (.ireturn, 1) := by decide +kernel
theorem d_X11_pays_23 : decode mX11_pays.2.2.1 23 = .ok (.aload_n 0, 1) := by decide +kernel
theorem d_X11_pays_24 : decode mX11_pays.2.2.1 24 = .ok (.getfield 46, 3) := by decide +kernel
theorem d_X11_pays_27 : decode mX11_pays.2.2.1 27 = .ok (.getfield 178, 3) := by decide +kernel
theorem d_X11_pays_30 : decode mX11_pays.2.2.1 30 = .ok (.invokevirtual 187, 3) := by decide +kernel
def mX1_sippedAsleep : MD := (1, yX1_sippedAsleep, cX1_sippedAsleep, 3, some .int)
theorem sel_X1_sippedAsleep : Cond.instanceMethod mX1_sippedAsleep.2.1 ∈ tblG ∧ Cond.selects mX1_sippedAsleep.2.1.cls mX1_sippedAsleep.2.1 mX1_sippedAsleep.2.1 ∈ tblG := ⟨tblG_in (inT5 (List.mem_of_getElem? (i := 187) rfl)) rfl, tblG_in (inT5 (List.mem_of_getElem? (i := 188) rfl)) rfl⟩
theorem s_11_187 : e_siteV 11 187 mX1_sippedAsleep 1 := ⟨tblG_in (inT5 (List.mem_of_getElem? (i := 186) rfl)) rfl, sel_X1_sippedAsleep.1, sel_X1_sippedAsleep.2, rfl⟩
theorem d_X1_sippedAsleep_0 : decode mX1_sippedAsleep.2.2.1 0 = .ok (.iconst 0, 1) := by decide +kernel
theorem d_X1_sippedAsleep_1 : decode mX1_sippedAsleep.2.2.1 1 = .ok (.istore_n 1, 1) := by decide +kernel
theorem d_X1_sippedAsleep_2 : decode mX1_sippedAsleep.2.2.1 2 = .ok (.iconst 0, 1) := by decide +kernel
theorem d_X1_sippedAsleep_3 : decode mX1_sippedAsleep.2.2.1 3 = .ok (.istore_n 2, 1) := by decide +kernel
theorem d_X1_sippedAsleep_4 : decode mX1_sippedAsleep.2.2.1 4 = .ok (.iload_n 2, 1) := by decide +kernel
theorem d_X1_sippedAsleep_5 : decode mX1_sippedAsleep.2.2.1 5 = .ok (.aload_n 0, 1) := by decide +kernel
theorem d_X1_sippedAsleep_6 : decode mX1_sippedAsleep.2.2.1 6 = .ok (.getfield 41, 3) := by decide +kernel
theorem d_X1_sippedAsleep_9 : decode mX1_sippedAsleep.2.2.1 9 = .ok (.getfield 91, 3) := by decide +kernel
theorem f_1_91 : e_fld 1 91 3 4 12 2 true := ⟨RX3, TX3, 4, rfl, rfl, by decide, rfl, rfl, rfl, iX3, tblG_in (inT1 (List.mem_of_getElem? (i := 176) rfl)) rfl, tyX3_ok, nmX3⟩
theorem d_X1_sippedAsleep_12 : decode mX1_sippedAsleep.2.2.1 12 = .ok (.iconst 0, 1) := by decide +kernel
theorem d_X1_sippedAsleep_13 : decode mX1_sippedAsleep.2.2.1 13 = .ok (.iaload, 1) := by decide +kernel
theorem d_X1_sippedAsleep_14 : decode mX1_sippedAsleep.2.2.1 14 = .ok (.if_icmp .ge 36, 3) := by decide +kernel
theorem d_X1_sippedAsleep_50 : decode mX1_sippedAsleep.2.2.1 50 = .ok (.iload_n 1, 1) := by decide +kernel
theorem d_X1_sippedAsleep_51 : decode mX1_sippedAsleep.2.2.1 51 = .ok (.ireturn, 1) := by decide +kernel
theorem d_X1_sippedAsleep_17 : decode mX1_sippedAsleep.2.2.1 17 = .ok (.iload_n 1, 1) := by decide +kernel
theorem d_X1_sippedAsleep_18 : decode mX1_sippedAsleep.2.2.1 18 = .ok (.aload_n 0, 1) := by decide +kernel
theorem d_X1_sippedAsleep_19 : decode mX1_sippedAsleep.2.2.1 19 = .ok (.getfield 9, 3) := by decide +kernel
theorem d_X1_sippedAsleep_22 : decode mX1_sippedAsleep.2.2.1 22 = .ok (.iload_n 2, 1) := by decide +kernel
theorem d_X1_sippedAsleep_23 : decode mX1_sippedAsleep.2.2.1 23 = .ok (.iconst 4, 1) := by decide +kernel
theorem d_X1_sippedAsleep_24 : decode mX1_sippedAsleep.2.2.1 24 = .ok (.imul, 1) := by decide +kernel
theorem d_X1_sippedAsleep_25 : decode mX1_sippedAsleep.2.2.1 25 = .ok (.iconst 0, 1) := by decide +kernel
theorem d_X1_sippedAsleep_26 : decode mX1_sippedAsleep.2.2.1 26 = .ok (.iadd, 1) := by decide +kernel
theorem d_X1_sippedAsleep_27 : decode mX1_sippedAsleep.2.2.1 27 = .ok (.iaload, 1) := by decide +kernel
theorem d_X1_sippedAsleep_28 : decode mX1_sippedAsleep.2.2.1 28 = .ok (.aload_n 0, 1) := by decide +kernel
theorem d_X1_sippedAsleep_29 : decode mX1_sippedAsleep.2.2.1 29 = .ok (.getfield 41, 3) := by decide +kernel
theorem d_X1_sippedAsleep_32 : decode mX1_sippedAsleep.2.2.1 32 = .ok (.getfield 71, 3) := by decide +kernel
theorem d_X1_sippedAsleep_35 : decode mX1_sippedAsleep.2.2.1 35 = .ok (.iload_n 2, 1) := by decide +kernel
theorem d_X1_sippedAsleep_36 : decode mX1_sippedAsleep.2.2.1 36 = .ok (.iconst 4, 1) := by decide +kernel
theorem d_X1_sippedAsleep_37 : decode mX1_sippedAsleep.2.2.1 37 = .ok (.imul, 1) := by decide +kernel
theorem d_X1_sippedAsleep_38 : decode mX1_sippedAsleep.2.2.1 38 = .ok (.iconst 0, 1) := by decide +kernel
theorem d_X1_sippedAsleep_39 : decode mX1_sippedAsleep.2.2.1 39 = .ok (.iadd, 1) := by decide +kernel
theorem d_X1_sippedAsleep_40 : decode mX1_sippedAsleep.2.2.1 40 = .ok (.iaload, 1) := by decide +kernel
theorem d_X1_sippedAsleep_41 : decode mX1_sippedAsleep.2.2.1 41 = .ok (.imul, 1) := by decide +kernel
theorem d_X1_sippedAsleep_42 : decode mX1_sippedAsleep.2.2.1 42 = .ok (.iadd, 1) := by decide +kernel
theorem d_X1_sippedAsleep_43 : decode mX1_sippedAsleep.2.2.1 43 = .ok (.istore_n 1, 1) := by decide +kernel
theorem d_X1_sippedAsleep_44 : decode mX1_sippedAsleep.2.2.1 44 = .ok (.iinc 2 1, 3) := by decide +kernel
theorem d_X1_sippedAsleep_47 : decode mX1_sippedAsleep.2.2.1 47 = .ok (.goto (-43), 3) := by decide +kernel
theorem ok_X1_sippedAsleep : e_m mX1_sippedAsleep 0 := ⟨tblG_in (inT5 (List.mem_of_getElem? (i := 189) rfl)) rfl, plainFor_of_name (by decide), rfl, ini_1, by decide +kernel, by decide⟩
theorem d_X11_pays_33 : decode mX11_pays.2.2.1 33 = .ok (.ireturn, 1) := by decide +kernel
def mX11_stretches : MD := (11, yX11_stretches, cX11_stretches, 2, some .int)
theorem d_X11_stretches_0 : decode mX11_stretches.2.2.1 0 = .ok (.aload_n 0, 1) := by decide +kernel
theorem d_X11_stretches_1 : decode mX11_stretches.2.2.1 1 = .ok (.getfield 109, 3) := by decide +kernel
theorem d_X11_stretches_4 : decode mX11_stretches.2.2.1 4 = .ok (.ifCond .eq 11, 3) := by decide +kernel
theorem d_X11_stretches_15 : decode mX11_stretches.2.2.1 15 = .ok (.iconst (-1), 1) := by decide +kernel
theorem d_X11_stretches_16 : decode mX11_stretches.2.2.1 16 = .ok (.ireturn, 1) := by decide +kernel
theorem d_X11_stretches_7 : decode mX11_stretches.2.2.1 7 = .ok (.aload_n 0, 1) := by decide +kernel
theorem d_X11_stretches_8 : decode mX11_stretches.2.2.1 8 = .ok (.iload_n 1, 1) := by decide +kernel
theorem d_X11_stretches_9 : decode mX11_stretches.2.2.1 9 = .ok (.invokevirtual 174, 3) := by decide +kernel
theorem d_X11_stretches_12 : decode mX11_stretches.2.2.1 12 = .ok (.ifCond .ne 5, 3) := by decide +kernel
theorem d_X11_stretches_17 : decode mX11_stretches.2.2.1 17 = .ok (.aload_n 0, 1) := by decide +kernel
theorem d_X11_stretches_18 : decode mX11_stretches.2.2.1 18 = .ok (.getfield 46, 3) := by decide +kernel
theorem d_X11_stretches_21 : decode mX11_stretches.2.2.1 21 = .ok (.getfield 178, 3) := by decide +kernel
theorem d_X11_stretches_24 : decode mX11_stretches.2.2.1 24 = .ok (.getfield 201, 3) := by decide +kernel
theorem f_11_201 : e_fld 11 201 1 8 9 2 true := ⟨RX1, TX1, 8, rfl, rfl, by decide, rfl, rfl, rfl, iX1, tblG_in (inT2 (List.mem_of_getElem? (i := 78) rfl)) rfl, tyX1_ok, nmX1⟩
theorem d_X11_stretches_27 : decode mX11_stretches.2.2.1 27 = .ok (.iload_n 1, 1) := by decide +kernel
theorem d_X11_stretches_28 : decode mX11_stretches.2.2.1 28 = .ok (.invokevirtual 205, 3) := by decide +kernel
def mX8_countOf : MD := (8, yX8_countOf, cX8_countOf, 4, some .int)
theorem sel_X8_countOf : Cond.instanceMethod mX8_countOf.2.1 ∈ tblG ∧ Cond.selects mX8_countOf.2.1.cls mX8_countOf.2.1 mX8_countOf.2.1 ∈ tblG := ⟨tblG_in (inT5 (List.mem_of_getElem? (i := 216) rfl)) rfl, tblG_in (inT5 (List.mem_of_getElem? (i := 217) rfl)) rfl⟩
theorem s_11_205 : e_siteV 11 205 mX8_countOf 8 := ⟨tblG_in (inT5 (List.mem_of_getElem? (i := 215) rfl)) rfl, sel_X8_countOf.1, sel_X8_countOf.2, rfl⟩
theorem d_X8_countOf_0 : decode mX8_countOf.2.2.1 0 = .ok (.iconst 0, 1) := by decide +kernel
theorem d_X8_countOf_1 : decode mX8_countOf.2.2.1 1 = .ok (.istore_n 2, 1) := by decide +kernel
theorem d_X8_countOf_2 : decode mX8_countOf.2.2.1 2 = .ok (.iconst 0, 1) := by decide +kernel
theorem d_X8_countOf_3 : decode mX8_countOf.2.2.1 3 = .ok (.istore_n 3, 1) := by decide +kernel
theorem d_X8_countOf_4 : decode mX8_countOf.2.2.1 4 = .ok (.iload_n 3, 1) := by decide +kernel
theorem d_X8_countOf_5 : decode mX8_countOf.2.2.1 5 = .ok (.aload_n 0, 1) := by decide +kernel
theorem d_X8_countOf_6 : decode mX8_countOf.2.2.1 6 = .ok (.getfield 43, 3) := by decide +kernel
theorem f_8_43 : e_fld 8 43 8 0 12 0 false := ⟨RX8, TX8, 0, rfl, rfl, by decide, rfl, rfl, rfl, iX8, tblG_in (inT2 (List.mem_of_getElem? (i := 10) rfl)) rfl, tyX8_ok, nmX8⟩
theorem d_X8_countOf_9 : decode mX8_countOf.2.2.1 9 = .ok (.if_icmp .ge 22, 3) := by decide +kernel
theorem d_X8_countOf_31 : decode mX8_countOf.2.2.1 31 = .ok (.iload_n 2, 1) := by decide +kernel
theorem d_X8_countOf_32 : decode mX8_countOf.2.2.1 32 = .ok (.ireturn, 1) := by decide +kernel
theorem d_X8_countOf_12 : decode mX8_countOf.2.2.1 12 = .ok (.aload_n 0, 1) := by decide +kernel
theorem d_X8_countOf_13 : decode mX8_countOf.2.2.1 13 = .ok (.getfield 9, 3) := by decide +kernel
theorem d_X8_countOf_16 : decode mX8_countOf.2.2.1 16 = .ok (.iload_n 3, 1) := by decide +kernel
theorem d_X8_countOf_17 : decode mX8_countOf.2.2.1 17 = .ok (.iaload, 1) := by decide +kernel
theorem d_X8_countOf_18 : decode mX8_countOf.2.2.1 18 = .ok (.iload_n 1, 1) := by decide +kernel
theorem d_X8_countOf_19 : decode mX8_countOf.2.2.1 19 = .ok (.if_icmp .ne 6, 3) := by decide +kernel
theorem d_X8_countOf_22 : decode mX8_countOf.2.2.1 22 = .ok (.iinc 2 1, 3) := by decide +kernel
theorem d_X8_countOf_25 : decode mX8_countOf.2.2.1 25 = .ok (.iinc 3 1, 3) := by decide +kernel
theorem d_X8_countOf_28 : decode mX8_countOf.2.2.1 28 = .ok (.goto (-24), 3) := by decide +kernel
theorem ok_X8_countOf : e_m mX8_countOf 1 := ⟨tblG_in (inT5 (List.mem_of_getElem? (i := 218) rfl)) rfl, plainFor_of_name (by decide), rfl, ini_8, by decide +kernel, by decide⟩
theorem d_X11_stretches_31 : decode mX11_stretches.2.2.1 31 = .ok (.ireturn, 1) := by decide +kernel
def mX11_stretch : MD := (11, yX11_stretch, cX11_stretch, 6, some .int)
theorem d_X11_stretch_0 : decode mX11_stretch.2.2.1 0 = .ok (.aload_n 0, 1) := by decide +kernel
theorem d_X11_stretch_1 : decode mX11_stretch.2.2.1 1 = .ok (.iload_n 1, 1) := by decide +kernel
theorem d_X11_stretch_2 : decode mX11_stretch.2.2.1 2 = .ok (.iload_n 2, 1) := by decide +kernel
theorem d_X11_stretch_3 : decode mX11_stretch.2.2.1 3 = .ok (.invokevirtual 214, 3) := by decide +kernel
def mX11_stretchPlace : MD := (11, yX11_stretchPlace, cX11_stretchPlace, 3, some .int)
theorem sel_X11_stretchPlace : Cond.instanceMethod mX11_stretchPlace.2.1 ∈ tblG ∧ Cond.selects mX11_stretchPlace.2.1.cls mX11_stretchPlace.2.1 mX11_stretchPlace.2.1 ∈ tblG := ⟨tblG_in (inT5 (List.mem_of_getElem? (i := 225) rfl)) rfl, tblG_in (inP4 (q := (mX11_stretchPlace.2.1, 14)) (List.mem_of_getElem? (i := 12) rfl)) rfl⟩
theorem s_11_214 : e_siteV 11 214 mX11_stretchPlace 11 := ⟨tblG_in (inT5 (List.mem_of_getElem? (i := 223) rfl)) rfl, sel_X11_stretchPlace.1, sel_X11_stretchPlace.2, rfl⟩
theorem d_X11_stretchPlace_0 : decode mX11_stretchPlace.2.2.1 0 = .ok (.aload_n 0, 1) := by decide +kernel
theorem d_X11_stretchPlace_1 : decode mX11_stretchPlace.2.2.1 1 = .ok (.getfield 109, 3) := by decide +kernel
theorem d_X11_stretchPlace_4 : decode mX11_stretchPlace.2.2.1 4 = .ok (.ifCond .eq 15, 3) := by decide +kernel
theorem d_X11_stretchPlace_19 : decode mX11_stretchPlace.2.2.1 19 = .ok (.iconst (-1), 1) := by decide +kernel
theorem d_X11_stretchPlace_20 : decode mX11_stretchPlace.2.2.1 20 = .ok (.ireturn, 1) := by decide +kernel
theorem ok_X11_stretchPlace : e_m mX11_stretchPlace 2 := ⟨tblG_in (inT5 (List.mem_of_getElem? (i := 226) rfl)) rfl, plainFor_of_name (by decide), rfl, ini_11, by decide +kernel, by decide⟩
theorem d_X11_stretch_6 : decode mX11_stretch.2.2.1 6 = .ok (.istore 4, 2) := by decide +kernel
theorem d_X11_stretch_8 : decode mX11_stretch.2.2.1 8 = .ok (.iload 4, 2) := by decide +kernel
theorem d_X11_stretch_10 : decode mX11_stretch.2.2.1 10 = .ok (.ifCond .ge 5, 3) := by decide +kernel
theorem d_X11_stretch_13 : decode mX11_stretch.2.2.1 13 = .ok (.iconst (-1), 1) := by decide +kernel
theorem d_X11_stretch_14 : decode mX11_stretch.2.2.1 14 = .ok (.ireturn, 1) := by decide +kernel
theorem d_X11_stretchPlace_7 : decode mX11_stretchPlace.2.2.1 7 = .ok (.aload_n 0, 1) := by decide +kernel
theorem d_X11_stretchPlace_8 : decode mX11_stretchPlace.2.2.1 8 = .ok (.iload_n 1, 1) := by decide +kernel
theorem d_X11_stretchPlace_9 : decode mX11_stretchPlace.2.2.1 9 = .ok (.invokevirtual 174, 3) := by decide +kernel
theorem d_X11_stretchPlace_12 : decode mX11_stretchPlace.2.2.1 12 = .ok (.ifCond .eq 7, 3) := by decide +kernel
theorem d_X11_stretchPlace_15 : decode mX11_stretchPlace.2.2.1 15 = .ok (.iload_n 2, 1) := by decide +kernel
theorem d_X11_stretchPlace_16 : decode mX11_stretchPlace.2.2.1 16 = .ok (.ifCond .ge 5, 3) := by decide +kernel
theorem d_X11_stretchPlace_21 : decode mX11_stretchPlace.2.2.1 21 = .ok (.aload_n 0, 1) := by decide +kernel
theorem d_X11_stretchPlace_22 : decode mX11_stretchPlace.2.2.1 22 = .ok (.getfield 46, 3) := by decide +kernel
theorem d_X11_stretchPlace_25 : decode mX11_stretchPlace.2.2.1 25 = .ok (.getfield 178, 3) := by decide +kernel
theorem d_X11_stretchPlace_28 : decode mX11_stretchPlace.2.2.1 28 = .ok (.getfield 201, 3) := by decide +kernel
theorem d_X11_stretchPlace_31 : decode mX11_stretchPlace.2.2.1 31 = .ok (.iload_n 1, 1) := by decide +kernel
theorem d_X11_stretchPlace_32 : decode mX11_stretchPlace.2.2.1 32 = .ok (.iload_n 2, 1) := by decide +kernel
theorem d_X11_stretchPlace_33 : decode mX11_stretchPlace.2.2.1 33 = .ok (.invokevirtual 210, 3) := by decide +kernel
def mX8_placeOf : MD := (8, yX8_placeOf, cX8_placeOf, 5, some .int)
theorem sel_X8_placeOf : Cond.instanceMethod mX8_placeOf.2.1 ∈ tblG ∧ Cond.selects mX8_placeOf.2.1.cls mX8_placeOf.2.1 mX8_placeOf.2.1 ∈ tblG := ⟨tblG_in (inT5 (List.mem_of_getElem? (i := 228) rfl)) rfl, tblG_in (inT5 (List.mem_of_getElem? (i := 229) rfl)) rfl⟩
theorem s_11_210 : e_siteV 11 210 mX8_placeOf 8 := ⟨tblG_in (inT5 (List.mem_of_getElem? (i := 227) rfl)) rfl, sel_X8_placeOf.1, sel_X8_placeOf.2, rfl⟩
theorem d_X8_placeOf_0 : decode mX8_placeOf.2.2.1 0 = .ok (.iconst 0, 1) := by decide +kernel
theorem d_X8_placeOf_1 : decode mX8_placeOf.2.2.1 1 = .ok (.istore_n 3, 1) := by decide +kernel
theorem d_X8_placeOf_2 : decode mX8_placeOf.2.2.1 2 = .ok (.iconst 0, 1) := by decide +kernel
theorem d_X8_placeOf_3 : decode mX8_placeOf.2.2.1 3 = .ok (.istore 4, 2) := by decide +kernel
theorem d_X8_placeOf_5 : decode mX8_placeOf.2.2.1 5 = .ok (.iload 4, 2) := by decide +kernel
theorem d_X8_placeOf_7 : decode mX8_placeOf.2.2.1 7 = .ok (.aload_n 0, 1) := by decide +kernel
theorem d_X8_placeOf_8 : decode mX8_placeOf.2.2.1 8 = .ok (.getfield 43, 3) := by decide +kernel
theorem d_X8_placeOf_11 : decode mX8_placeOf.2.2.1 11 = .ok (.if_icmp .ge 31, 3) := by decide +kernel
theorem d_X8_placeOf_42 : decode mX8_placeOf.2.2.1 42 = .ok (.iconst (-1), 1) := by decide +kernel
theorem d_X8_placeOf_43 : decode mX8_placeOf.2.2.1 43 = .ok (.ireturn, 1) := by decide +kernel
theorem d_X8_placeOf_14 : decode mX8_placeOf.2.2.1 14 = .ok (.aload_n 0, 1) := by decide +kernel
theorem d_X8_placeOf_15 : decode mX8_placeOf.2.2.1 15 = .ok (.getfield 9, 3) := by decide +kernel
theorem d_X8_placeOf_18 : decode mX8_placeOf.2.2.1 18 = .ok (.iload 4, 2) := by decide +kernel
theorem d_X8_placeOf_20 : decode mX8_placeOf.2.2.1 20 = .ok (.iaload, 1) := by decide +kernel
theorem d_X8_placeOf_21 : decode mX8_placeOf.2.2.1 21 = .ok (.iload_n 1, 1) := by decide +kernel
theorem d_X8_placeOf_22 : decode mX8_placeOf.2.2.1 22 = .ok (.if_icmp .ne 14, 3) := by decide +kernel
theorem d_X8_placeOf_25 : decode mX8_placeOf.2.2.1 25 = .ok (.iload_n 3, 1) := by decide +kernel
theorem d_X8_placeOf_26 : decode mX8_placeOf.2.2.1 26 = .ok (.iload_n 2, 1) := by decide +kernel
theorem d_X8_placeOf_27 : decode mX8_placeOf.2.2.1 27 = .ok (.if_icmp .ne 6, 3) := by decide +kernel
theorem d_X8_placeOf_33 : decode mX8_placeOf.2.2.1 33 = .ok (.iinc 3 1, 3) := by decide +kernel
theorem d_X8_placeOf_30 : decode mX8_placeOf.2.2.1 30 = .ok (.iload 4, 2) := by decide +kernel
theorem d_X8_placeOf_32 : decode mX8_placeOf.2.2.1 32 = .ok (.ireturn, 1) := by decide +kernel
theorem d_X8_placeOf_36 : decode mX8_placeOf.2.2.1 36 = .ok (.iinc 4 1, 3) := by decide +kernel
theorem d_X8_placeOf_39 : decode mX8_placeOf.2.2.1 39 = .ok (.goto (-34), 3) := by decide +kernel
theorem ok_X8_placeOf : e_m mX8_placeOf 2 := ⟨tblG_in (inT5 (List.mem_of_getElem? (i := 230) rfl)) rfl, plainFor_of_name (by decide), rfl, ini_8, by decide +kernel, by decide⟩
theorem d_X11_stretchPlace_36 : decode mX11_stretchPlace.2.2.1 36 = .ok (.ireturn, 1) := by decide +kernel
theorem d_X11_stretch_15 : decode mX11_stretch.2.2.1 15 = .ok (.aload_n 0, 1) := by decide +kernel
theorem d_X11_stretch_16 : decode mX11_stretch.2.2.1 16 = .ok (.getfield 46, 3) := by decide +kernel
theorem d_X11_stretch_19 : decode mX11_stretch.2.2.1 19 = .ok (.getfield 178, 3) := by decide +kernel
theorem d_X11_stretch_22 : decode mX11_stretch.2.2.1 22 = .ok (.getfield 201, 3) := by decide +kernel
theorem d_X11_stretch_25 : decode mX11_stretch.2.2.1 25 = .ok (.astore 5, 2) := by decide +kernel
theorem d_X11_stretch_27 : decode mX11_stretch.2.2.1 27 = .ok (.iload_n 3, 1) := by decide +kernel
theorem d_X11_stretch_28 : decode mX11_stretch.2.2.1 28 = .ok (.tableswitch 55 0 2 #[28, 37, 46], 28) := by decide +kernel
theorem d_X11_stretch_83 : decode mX11_stretch.2.2.1 83 = .ok (.iconst (-1), 1) := by decide +kernel
theorem d_X11_stretch_84 : decode mX11_stretch.2.2.1 84 = .ok (.ireturn, 1) := by decide +kernel
theorem d_X11_stretch_74 : decode mX11_stretch.2.2.1 74 = .ok (.aload 5, 2) := by decide +kernel
theorem d_X11_stretch_76 : decode mX11_stretch.2.2.1 76 = .ok (.getfield 223, 3) := by decide +kernel
theorem f_11_223 : e_fld 11 223 8 4 12 2 false := ⟨RX8, TX8, 4, rfl, rfl, by decide, rfl, rfl, rfl, iX8, tblG_in (inT2 (List.mem_of_getElem? (i := 23) rfl)) rfl, tyX8_ok, nmX8⟩
theorem d_X11_stretch_79 : decode mX11_stretch.2.2.1 79 = .ok (.iload 4, 2) := by decide +kernel
theorem d_X11_stretch_81 : decode mX11_stretch.2.2.1 81 = .ok (.iaload, 1) := by decide +kernel
theorem d_X11_stretch_82 : decode mX11_stretch.2.2.1 82 = .ok (.ireturn, 1) := by decide +kernel
theorem d_X11_stretch_65 : decode mX11_stretch.2.2.1 65 = .ok (.aload 5, 2) := by decide +kernel
theorem d_X11_stretch_67 : decode mX11_stretch.2.2.1 67 = .ok (.getfield 220, 3) := by decide +kernel
theorem f_11_220 : e_fld 11 220 8 3 12 2 false := ⟨RX8, TX8, 3, rfl, rfl, by decide, rfl, rfl, rfl, iX8, tblG_in (inT2 (List.mem_of_getElem? (i := 20) rfl)) rfl, tyX8_ok, nmX8⟩
theorem d_X11_stretch_70 : decode mX11_stretch.2.2.1 70 = .ok (.iload 4, 2) := by decide +kernel
theorem d_X11_stretch_72 : decode mX11_stretch.2.2.1 72 = .ok (.iaload, 1) := by decide +kernel
theorem d_X11_stretch_73 : decode mX11_stretch.2.2.1 73 = .ok (.ireturn, 1) := by decide +kernel
theorem d_X11_stretch_56 : decode mX11_stretch.2.2.1 56 = .ok (.aload 5, 2) := by decide +kernel
theorem d_X11_stretch_58 : decode mX11_stretch.2.2.1 58 = .ok (.getfield 217, 3) := by decide +kernel
theorem f_11_217 : e_fld 11 217 8 2 12 2 false := ⟨RX8, TX8, 2, rfl, rfl, by decide, rfl, rfl, rfl, iX8, tblG_in (inT2 (List.mem_of_getElem? (i := 17) rfl)) rfl, tyX8_ok, nmX8⟩
theorem d_X11_stretch_61 : decode mX11_stretch.2.2.1 61 = .ok (.iload 4, 2) := by decide +kernel
theorem d_X11_stretch_63 : decode mX11_stretch.2.2.1 63 = .ok (.iaload, 1) := by decide +kernel
theorem d_X11_stretch_64 : decode mX11_stretch.2.2.1 64 = .ok (.ireturn, 1) := by decide +kernel
def mX11_lines : MD := (11, yX11_lines, cX11_lines, 4, some .long)
theorem d_X11_lines_0 : decode mX11_lines.2.2.1 0 = .ok (.aload_n 0, 1) := by decide +kernel
theorem d_X11_lines_1 : decode mX11_lines.2.2.1 1 = .ok (.iload_n 1, 1) := by decide +kernel
theorem d_X11_lines_2 : decode mX11_lines.2.2.1 2 = .ok (.iload_n 2, 1) := by decide +kernel
theorem d_X11_lines_3 : decode mX11_lines.2.2.1 3 = .ok (.invokevirtual 214, 3) := by decide +kernel
theorem d_X11_lines_6 : decode mX11_lines.2.2.1 6 = .ok (.istore_n 3, 1) := by decide +kernel
theorem d_X11_lines_7 : decode mX11_lines.2.2.1 7 = .ok (.iload_n 3, 1) := by decide +kernel
theorem d_X11_lines_8 : decode mX11_lines.2.2.1 8 = .ok (.ifCond .ge 7, 3) := by decide +kernel
theorem d_X11_lines_11 : decode mX11_lines.2.2.1 11 = .ok (.lconst 0, 1) := by decide +kernel
theorem d_X11_lines_12 : decode mX11_lines.2.2.1 12 = .ok (.goto 18, 3) := by decide +kernel
theorem d_X11_lines_30 : decode mX11_lines.2.2.1 30 = .ok (.lreturn, 1) := by decide +kernel
theorem d_X11_lines_15 : decode mX11_lines.2.2.1 15 = .ok (.aload_n 0, 1) := by decide +kernel
theorem d_X11_lines_16 : decode mX11_lines.2.2.1 16 = .ok (.getfield 46, 3) := by decide +kernel
theorem d_X11_lines_19 : decode mX11_lines.2.2.1 19 = .ok (.getfield 178, 3) := by decide +kernel
theorem d_X11_lines_22 : decode mX11_lines.2.2.1 22 = .ok (.getfield 201, 3) := by decide +kernel
theorem d_X11_lines_25 : decode mX11_lines.2.2.1 25 = .ok (.getfield 226, 3) := by decide +kernel
theorem f_11_226 : e_fld 11 226 8 5 12 2 false := ⟨RX8, TX8, 5, rfl, rfl, by decide, rfl, rfl, rfl, iX8, tblG_in (inT2 (List.mem_of_getElem? (i := 27) rfl)) rfl, tyX8_ok, nmX8⟩
theorem d_X11_lines_28 : decode mX11_lines.2.2.1 28 = .ok (.iload_n 3, 1) := by decide +kernel
theorem d_X11_lines_29 : decode mX11_lines.2.2.1 29 = .ok (.laload, 1) := by decide +kernel
def mX11_byTurns : MD := (11, yX11_byTurns, cX11_byTurns, 8, some .long)
theorem d_X11_byTurns_0 : decode mX11_byTurns.2.2.1 0 = .ok (.aload_n 0, 1) := by decide +kernel
theorem d_X11_byTurns_1 : decode mX11_byTurns.2.2.1 1 = .ok (.iload_n 1, 1) := by decide +kernel
theorem d_X11_byTurns_2 : decode mX11_byTurns.2.2.1 2 = .ok (.iload_n 2, 1) := by decide +kernel
theorem d_X11_byTurns_3 : decode mX11_byTurns.2.2.1 3 = .ok (.invokevirtual 214, 3) := by decide +kernel
theorem d_X11_byTurns_6 : decode mX11_byTurns.2.2.1 6 = .ok (.istore 5, 2) := by decide +kernel
theorem d_X11_byTurns_8 : decode mX11_byTurns.2.2.1 8 = .ok (.iload 5, 2) := by decide +kernel
theorem d_X11_byTurns_10 : decode mX11_byTurns.2.2.1 10 = .ok (.ifCond .lt 11, 3) := by decide +kernel
theorem d_X11_byTurns_21 : decode mX11_byTurns.2.2.1 21 = .ok (.ldc2_w 230, 3) := by decide +kernel
end
/-! 25.03 -/
section
theorem kl_11_230 : Jvm.Cond.constantLong (e_cn 11) 230 (Int64.ofInt (-1000000000000000)) ∈ tblG := tblG_in (inT5 (List.mem_of_getElem? (i := 239) rfl)) rfl
theorem d_X11_byTurns_24 : decode mX11_byTurns.2.2.1 24 = .ok (.lreturn, 1) := by decide +kernel
def mX11_wasted : MD := (11, yX11_wasted, cX11_wasted, 2, some .int)
theorem d_X11_wasted_0 : decode mX11_wasted.2.2.1 0 = .ok (.aload_n 0, 1) := by decide +kernel
theorem d_X11_wasted_1 : decode mX11_wasted.2.2.1 1 = .ok (.getfield 109, 3) := by decide +kernel
theorem d_X11_wasted_4 : decode mX11_wasted.2.2.1 4 = .ok (.ifCond .eq 11, 3) := by decide +kernel
theorem d_X11_wasted_15 : decode mX11_wasted.2.2.1 15 = .ok (.iconst (-1), 1) := by decide +kernel
theorem d_X11_wasted_16 : decode mX11_wasted.2.2.1 16 = .ok (.ireturn, 1) := by decide +kernel
theorem d_X11_wasted_7 : decode mX11_wasted.2.2.1 7 = .ok (.aload_n 0, 1) := by decide +kernel
theorem d_X11_wasted_8 : decode mX11_wasted.2.2.1 8 = .ok (.iload_n 1, 1) := by decide +kernel
theorem d_X11_wasted_9 : decode mX11_wasted.2.2.1 9 = .ok (.invokevirtual 191, 3) := by decide +kernel
theorem d_X11_wasted_12 : decode mX11_wasted.2.2.1 12 = .ok (.ifCond .ne 5, 3) := by decide +kernel
theorem d_X11_wasted_17 : decode mX11_wasted.2.2.1 17 = .ok (.aload_n 0, 1) := by decide +kernel
theorem d_X11_wasted_18 : decode mX11_wasted.2.2.1 18 = .ok (.getfield 46, 3) := by decide +kernel
theorem d_X11_wasted_21 : decode mX11_wasted.2.2.1 21 = .ok (.getfield 178, 3) := by decide +kernel
theorem d_X11_wasted_24 : decode mX11_wasted.2.2.1 24 = .ok (.getfield 246, 3) := by decide +kernel
theorem f_11_246 : e_fld 11 246 1 7 9 2 true := ⟨RX1, TX1, 7, rfl, rfl, by decide, rfl, rfl, rfl, iX1, tblG_in (inT2 (List.mem_of_getElem? (i := 76) rfl)) rfl, tyX1_ok, nmX1⟩
theorem d_X11_wasted_27 : decode mX11_wasted.2.2.1 27 = .ok (.iload_n 1, 1) := by decide +kernel
theorem d_X11_wasted_28 : decode mX11_wasted.2.2.1 28 = .ok (.iaload, 1) := by decide +kernel
theorem d_X11_wasted_29 : decode mX11_wasted.2.2.1 29 = .ok (.ireturn, 1) := by decide +kernel
def mX11_where : MD := (11, yX11_where, cX11_where, 2, some .int)
theorem d_X11_where_0 : decode mX11_where.2.2.1 0 = .ok (.iload_n 1, 1) := by decide +kernel
theorem d_X11_where_1 : decode mX11_where.2.2.1 1 = .ok (.ifCond .lt 16, 3) := by decide +kernel
theorem d_X11_where_17 : decode mX11_where.2.2.1 17 = .ok (.iconst (-1), 1) := by decide +kernel
theorem d_X11_where_18 : decode mX11_where.2.2.1 18 = .ok (.ireturn, 1) := by decide +kernel
theorem d_X11_where_4 : decode mX11_where.2.2.1 4 = .ok (.iload_n 1, 1) := by decide +kernel
theorem d_X11_where_5 : decode mX11_where.2.2.1 5 = .ok (.aload_n 0, 1) := by decide +kernel
theorem d_X11_where_6 : decode mX11_where.2.2.1 6 = .ok (.getfield 30, 3) := by decide +kernel
theorem d_X11_where_9 : decode mX11_where.2.2.1 9 = .ok (.getfield 130, 3) := by decide +kernel
theorem d_X11_where_12 : decode mX11_where.2.2.1 12 = .ok (.iconst 1, 1) := by decide +kernel
theorem d_X11_where_13 : decode mX11_where.2.2.1 13 = .ok (.iaload, 1) := by decide +kernel
theorem d_X11_where_14 : decode mX11_where.2.2.1 14 = .ok (.if_icmp .lt 5, 3) := by decide +kernel
theorem d_X11_where_19 : decode mX11_where.2.2.1 19 = .ok (.aload_n 0, 1) := by decide +kernel
theorem d_X11_where_20 : decode mX11_where.2.2.1 20 = .ok (.getfield 63, 3) := by decide +kernel
theorem d_X11_where_23 : decode mX11_where.2.2.1 23 = .ok (.iload_n 1, 1) := by decide +kernel
theorem d_X11_where_24 : decode mX11_where.2.2.1 24 = .ok (.invokevirtual 268, 3) := by decide +kernel
def mX10_chosenInput : MD := (10, yX10_chosenInput, cX10_chosenInput, 2, some .int)
theorem sel_X10_chosenInput : Cond.instanceMethod mX10_chosenInput.2.1 ∈ tblG ∧ Cond.selects mX10_chosenInput.2.1.cls mX10_chosenInput.2.1 mX10_chosenInput.2.1 ∈ tblG := ⟨tblG_in (inT6 (List.mem_of_getElem? (i := 79) rfl)) rfl, tblG_in (inT6 (List.mem_of_getElem? (i := 80) rfl)) rfl⟩
theorem s_11_268 : e_siteV 11 268 mX10_chosenInput 10 := ⟨tblG_in (inT6 (List.mem_of_getElem? (i := 78) rfl)) rfl, sel_X10_chosenInput.1, sel_X10_chosenInput.2, rfl⟩
theorem d_X10_chosenInput_0 : decode mX10_chosenInput.2.2.1 0 = .ok (.aload_n 0, 1) := by decide +kernel
theorem d_X10_chosenInput_1 : decode mX10_chosenInput.2.2.1 1 = .ok (.getfield 21, 3) := by decide +kernel
theorem f_10_21 : e_fld 10 21 10 0 7 3 false := ⟨RX10, TX10, 0, rfl, rfl, by decide, rfl, rfl, rfl, iX10, tblG_in (inT2 (List.mem_of_getElem? (i := 189) rfl)) rfl, tyX10_ok, nmX10⟩
theorem d_X10_chosenInput_4 : decode mX10_chosenInput.2.2.1 4 = .ok (.ifCond .ne 5, 3) := by decide +kernel
theorem d_X10_chosenInput_9 : decode mX10_chosenInput.2.2.1 9 = .ok (.aload_n 0, 1) := by decide +kernel
theorem d_X10_chosenInput_10 : decode mX10_chosenInput.2.2.1 10 = .ok (.getfield 52, 3) := by decide +kernel
theorem f_10_52 : e_fld 10 52 10 1 7 3 false := ⟨RX10, TX10, 1, rfl, rfl, by decide, rfl, rfl, rfl, iX10, tblG_in (inT2 (List.mem_of_getElem? (i := 190) rfl)) rfl, tyX10_ok, nmX10⟩
theorem d_X10_chosenInput_13 : decode mX10_chosenInput.2.2.1 13 = .ok (.ifCond .eq 12, 3) := by decide +kernel
theorem d_X10_chosenInput_25 : decode mX10_chosenInput.2.2.1 25 = .ok (.aload_n 0, 1) := by decide +kernel
theorem d_X10_chosenInput_26 : decode mX10_chosenInput.2.2.1 26 = .ok (.getfield 18, 3) := by decide +kernel
theorem d_X10_chosenInput_29 : decode mX10_chosenInput.2.2.1 29 = .ok (.iload_n 1, 1) := by decide +kernel
theorem d_X10_chosenInput_30 : decode mX10_chosenInput.2.2.1 30 = .ok (.iaload, 1) := by decide +kernel
theorem d_X10_chosenInput_31 : decode mX10_chosenInput.2.2.1 31 = .ok (.ireturn, 1) := by decide +kernel
theorem d_X10_chosenInput_16 : decode mX10_chosenInput.2.2.1 16 = .ok (.aload_n 0, 1) := by decide +kernel
theorem d_X10_chosenInput_17 : decode mX10_chosenInput.2.2.1 17 = .ok (.getfield 15, 3) := by decide +kernel
theorem d_X10_chosenInput_20 : decode mX10_chosenInput.2.2.1 20 = .ok (.iload_n 1, 1) := by decide +kernel
theorem d_X10_chosenInput_21 : decode mX10_chosenInput.2.2.1 21 = .ok (.iaload, 1) := by decide +kernel
theorem d_X10_chosenInput_22 : decode mX10_chosenInput.2.2.1 22 = .ok (.goto 9, 3) := by decide +kernel
theorem d_X10_chosenInput_7 : decode mX10_chosenInput.2.2.1 7 = .ok (.iconst (-1), 1) := by decide +kernel
theorem d_X10_chosenInput_8 : decode mX10_chosenInput.2.2.1 8 = .ok (.ireturn, 1) := by decide +kernel
theorem ok_X10_chosenInput : e_m mX10_chosenInput 1 := ⟨tblG_in (inT6 (List.mem_of_getElem? (i := 81) rfl)) rfl, plainFor_of_name (by decide), rfl, ini_10, by decide +kernel, by decide⟩
theorem d_X11_where_27 : decode mX11_where.2.2.1 27 = .ok (.ireturn, 1) := by decide +kernel
def mX11_fit : MD := (11, yX11_fit, cX11_fit, 2, some .int)
theorem d_X11_fit_0 : decode mX11_fit.2.2.1 0 = .ok (.aload_n 0, 1) := by decide +kernel
theorem d_X11_fit_1 : decode mX11_fit.2.2.1 1 = .ok (.iload_n 1, 1) := by decide +kernel
theorem d_X11_fit_2 : decode mX11_fit.2.2.1 2 = .ok (.invokevirtual 174, 3) := by decide +kernel
theorem d_X11_fit_5 : decode mX11_fit.2.2.1 5 = .ok (.ifCond .eq 13, 3) := by decide +kernel
theorem d_X11_fit_18 : decode mX11_fit.2.2.1 18 = .ok (.iconst (-1), 1) := by decide +kernel
theorem d_X11_fit_19 : decode mX11_fit.2.2.1 19 = .ok (.ireturn, 1) := by decide +kernel
theorem d_X11_fit_8 : decode mX11_fit.2.2.1 8 = .ok (.aload_n 0, 1) := by decide +kernel
theorem d_X11_fit_9 : decode mX11_fit.2.2.1 9 = .ok (.getfield 70, 3) := by decide +kernel
theorem d_X11_fit_12 : decode mX11_fit.2.2.1 12 = .ok (.getfield 133, 3) := by decide +kernel
theorem d_X11_fit_15 : decode mX11_fit.2.2.1 15 = .ok (.ifCond .ne 5, 3) := by decide +kernel
theorem d_X11_fit_20 : decode mX11_fit.2.2.1 20 = .ok (.aload_n 0, 1) := by decide +kernel
theorem d_X11_fit_21 : decode mX11_fit.2.2.1 21 = .ok (.getfield 70, 3) := by decide +kernel
theorem d_X11_fit_24 : decode mX11_fit.2.2.1 24 = .ok (.aload_n 0, 1) := by decide +kernel
theorem d_X11_fit_25 : decode mX11_fit.2.2.1 25 = .ok (.getfield 30, 3) := by decide +kernel
theorem d_X11_fit_28 : decode mX11_fit.2.2.1 28 = .ok (.iload_n 1, 1) := by decide +kernel
theorem d_X11_fit_29 : decode mX11_fit.2.2.1 29 = .ok (.invokevirtual 276, 3) := by decide +kernel
def mX2_search : MD := (2, yX2_search, cX2_search, 6, some .int)
theorem sel_X2_search : Cond.instanceMethod mX2_search.2.1 ∈ tblG ∧ Cond.selects mX2_search.2.1.cls mX2_search.2.1 mX2_search.2.1 ∈ tblG := ⟨tblG_in (inT6 (List.mem_of_getElem? (i := 97) rfl)) rfl, tblG_in (inT6 (List.mem_of_getElem? (i := 98) rfl)) rfl⟩
theorem s_11_276 : e_siteV 11 276 mX2_search 2 := ⟨tblG_in (inT6 (List.mem_of_getElem? (i := 96) rfl)) rfl, sel_X2_search.1, sel_X2_search.2, rfl⟩
theorem d_X2_search_0 : decode mX2_search.2.2.1 0 = .ok (.iconst 0, 1) := by decide +kernel
theorem d_X2_search_1 : decode mX2_search.2.2.1 1 = .ok (.istore_n 3, 1) := by decide +kernel
theorem d_X2_search_2 : decode mX2_search.2.2.1 2 = .ok (.iload_n 3, 1) := by decide +kernel
theorem d_X2_search_3 : decode mX2_search.2.2.1 3 = .ok (.aload_n 0, 1) := by decide +kernel
theorem d_X2_search_4 : decode mX2_search.2.2.1 4 = .ok (.getfield 27, 3) := by decide +kernel
theorem f_2_27 : e_fld 2 27 2 0 7 0 false := ⟨RX2, TX2, 0, rfl, rfl, by decide, rfl, rfl, rfl, iX2, tblG_in (inT2 (List.mem_of_getElem? (i := 218) rfl)) rfl, tyX2_ok, nmX2⟩
theorem d_X2_search_7 : decode mX2_search.2.2.1 7 = .ok (.if_icmp .ge 36, 3) := by decide +kernel
theorem d_X2_search_43 : decode mX2_search.2.2.1 43 = .ok (.iconst 0, 1) := by decide +kernel
theorem d_X2_search_44 : decode mX2_search.2.2.1 44 = .ok (.istore_n 3, 1) := by decide +kernel
theorem d_X2_search_45 : decode mX2_search.2.2.1 45 = .ok (.iconst 0, 1) := by decide +kernel
theorem d_X2_search_46 : decode mX2_search.2.2.1 46 = .ok (.istore 4, 2) := by decide +kernel
theorem d_X2_search_10 : decode mX2_search.2.2.1 10 = .ok (.aload_n 0, 1) := by decide +kernel
theorem d_X2_search_11 : decode mX2_search.2.2.1 11 = .ok (.getfield 24, 3) := by decide +kernel
theorem d_X2_search_14 : decode mX2_search.2.2.1 14 = .ok (.iload_n 3, 1) := by decide +kernel
theorem d_X2_search_15 : decode mX2_search.2.2.1 15 = .ok (.aload_n 0, 1) := by decide +kernel
theorem d_X2_search_16 : decode mX2_search.2.2.1 16 = .ok (.getfield 18, 3) := by decide +kernel
theorem d_X2_search_19 : decode mX2_search.2.2.1 19 = .ok (.iload_n 3, 1) := by decide +kernel
theorem d_X2_search_20 : decode mX2_search.2.2.1 20 = .ok (.iaload, 1) := by decide +kernel
theorem d_X2_search_21 : decode mX2_search.2.2.1 21 = .ok (.aload_n 0, 1) := by decide +kernel
theorem d_X2_search_22 : decode mX2_search.2.2.1 22 = .ok (.getfield 15, 3) := by decide +kernel
theorem d_X2_search_25 : decode mX2_search.2.2.1 25 = .ok (.iload_n 3, 1) := by decide +kernel
theorem d_X2_search_26 : decode mX2_search.2.2.1 26 = .ok (.iaload, 1) := by decide +kernel
theorem d_X2_search_27 : decode mX2_search.2.2.1 27 = .ok (.isub, 1) := by decide +kernel
theorem d_X2_search_28 : decode mX2_search.2.2.1 28 = .ok (.aload_n 0, 1) := by decide +kernel
theorem d_X2_search_29 : decode mX2_search.2.2.1 29 = .ok (.aload_n 1, 1) := by decide +kernel
theorem d_X2_search_30 : decode mX2_search.2.2.1 30 = .ok (.iload_n 2, 1) := by decide +kernel
theorem d_X2_search_31 : decode mX2_search.2.2.1 31 = .ok (.iload_n 3, 1) := by decide +kernel
theorem d_X2_search_32 : decode mX2_search.2.2.1 32 = .ok (.invokevirtual 54, 3) := by decide +kernel
def mX2_ownSips : MD := (2, yX2_ownSips, cX2_ownSips, 6, some .int)
theorem sel_X2_ownSips : Cond.instanceMethod mX2_ownSips.2.1 ∈ tblG ∧ Cond.selects mX2_ownSips.2.1.cls mX2_ownSips.2.1 mX2_ownSips.2.1 ∈ tblG := ⟨tblG_in (inT6 (List.mem_of_getElem? (i := 102) rfl)) rfl, tblG_in (inP5 (q := (mX2_ownSips.2.1, 7)) (List.mem_of_getElem? (i := 0) rfl)) rfl⟩
theorem s_2_54 : e_siteV 2 54 mX2_ownSips 2 := ⟨tblG_in (inT6 (List.mem_of_getElem? (i := 100) rfl)) rfl, sel_X2_ownSips.1, sel_X2_ownSips.2, rfl⟩
theorem d_X2_ownSips_0 : decode mX2_ownSips.2.2.1 0 = .ok (.iconst 0, 1) := by decide +kernel
theorem d_X2_ownSips_1 : decode mX2_ownSips.2.2.1 1 = .ok (.istore 4, 2) := by decide +kernel
theorem d_X2_ownSips_3 : decode mX2_ownSips.2.2.1 3 = .ok (.iconst 0, 1) := by decide +kernel
theorem d_X2_ownSips_4 : decode mX2_ownSips.2.2.1 4 = .ok (.istore 5, 2) := by decide +kernel
theorem d_X2_ownSips_6 : decode mX2_ownSips.2.2.1 6 = .ok (.iload 5, 2) := by decide +kernel
theorem d_X2_ownSips_8 : decode mX2_ownSips.2.2.1 8 = .ok (.iconst 4, 1) := by decide +kernel
theorem d_X2_ownSips_9 : decode mX2_ownSips.2.2.1 9 = .ok (.if_icmp .ge 48, 3) := by decide +kernel
theorem d_X2_ownSips_12 : decode mX2_ownSips.2.2.1 12 = .ok (.iload 5, 2) := by decide +kernel
theorem d_X2_ownSips_14 : decode mX2_ownSips.2.2.1 14 = .ok (.iconst 1, 1) := by decide +kernel
theorem d_X2_ownSips_15 : decode mX2_ownSips.2.2.1 15 = .ok (.if_icmp .eq 36, 3) := by decide +kernel
theorem d_X2_ownSips_18 : decode mX2_ownSips.2.2.1 18 = .ok (.iload 4, 2) := by decide +kernel
theorem d_X2_ownSips_20 : decode mX2_ownSips.2.2.1 20 = .ok (.aload_n 1, 1) := by decide +kernel
theorem d_X2_ownSips_21 : decode mX2_ownSips.2.2.1 21 = .ok (.getfield 62, 3) := by decide +kernel
theorem f_2_62 : e_fld 2 62 3 5 12 2 true := ⟨RX3, TX3, 5, rfl, rfl, by decide, rfl, rfl, rfl, iX3, tblG_in (inT1 (List.mem_of_getElem? (i := 180) rfl)) rfl, tyX3_ok, nmX3⟩
theorem d_X2_ownSips_24 : decode mX2_ownSips.2.2.1 24 = .ok (.iload_n 2, 1) := by decide +kernel
theorem d_X2_ownSips_25 : decode mX2_ownSips.2.2.1 25 = .ok (.iconst 4, 1) := by decide +kernel
theorem d_X2_ownSips_26 : decode mX2_ownSips.2.2.1 26 = .ok (.imul, 1) := by decide +kernel
theorem d_X2_ownSips_27 : decode mX2_ownSips.2.2.1 27 = .ok (.iload 5, 2) := by decide +kernel
theorem d_X2_ownSips_29 : decode mX2_ownSips.2.2.1 29 = .ok (.iadd, 1) := by decide +kernel
theorem d_X2_ownSips_30 : decode mX2_ownSips.2.2.1 30 = .ok (.iaload, 1) := by decide +kernel
theorem d_X2_ownSips_31 : decode mX2_ownSips.2.2.1 31 = .ok (.aload_n 0, 1) := by decide +kernel
theorem d_X2_ownSips_32 : decode mX2_ownSips.2.2.1 32 = .ok (.getfield 21, 3) := by decide +kernel
theorem d_X2_ownSips_35 : decode mX2_ownSips.2.2.1 35 = .ok (.iload_n 3, 1) := by decide +kernel
theorem d_X2_ownSips_36 : decode mX2_ownSips.2.2.1 36 = .ok (.bipush 24, 2) := by decide +kernel
theorem d_X2_ownSips_38 : decode mX2_ownSips.2.2.1 38 = .ok (.imul, 1) := by decide +kernel
theorem d_X2_ownSips_39 : decode mX2_ownSips.2.2.1 39 = .ok (.iload_n 2, 1) := by decide +kernel
theorem d_X2_ownSips_40 : decode mX2_ownSips.2.2.1 40 = .ok (.iconst 4, 1) := by decide +kernel
theorem d_X2_ownSips_41 : decode mX2_ownSips.2.2.1 41 = .ok (.imul, 1) := by decide +kernel
theorem d_X2_ownSips_42 : decode mX2_ownSips.2.2.1 42 = .ok (.iadd, 1) := by decide +kernel
theorem d_X2_ownSips_43 : decode mX2_ownSips.2.2.1 43 = .ok (.iload 5, 2) := by decide +kernel
theorem d_X2_ownSips_45 : decode mX2_ownSips.2.2.1 45 = .ok (.iadd, 1) := by decide +kernel
theorem d_X2_ownSips_46 : decode mX2_ownSips.2.2.1 46 = .ok (.iaload, 1) := by decide +kernel
theorem d_X2_ownSips_47 : decode mX2_ownSips.2.2.1 47 = .ok (.imul, 1) := by decide +kernel
theorem d_X2_ownSips_48 : decode mX2_ownSips.2.2.1 48 = .ok (.iadd, 1) := by decide +kernel
theorem d_X2_ownSips_49 : decode mX2_ownSips.2.2.1 49 = .ok (.istore 4, 2) := by decide +kernel
theorem d_X2_ownSips_51 : decode mX2_ownSips.2.2.1 51 = .ok (.iinc 5 1, 3) := by decide +kernel
theorem d_X2_ownSips_54 : decode mX2_ownSips.2.2.1 54 = .ok (.goto (-48), 3) := by decide +kernel
theorem d_X2_ownSips_57 : decode mX2_ownSips.2.2.1 57 = .ok (.iload 4, 2) := by decide +kernel
theorem d_X2_ownSips_59 : decode mX2_ownSips.2.2.1 59 = .ok (.ireturn, 1) := by decide +kernel
theorem ok_X2_ownSips : e_m mX2_ownSips 3 := ⟨tblG_in (inT6 (List.mem_of_getElem? (i := 103) rfl)) rfl, plainFor_of_name (by decide), rfl, ini_2, by decide +kernel, by decide⟩
theorem d_X2_search_35 : decode mX2_search.2.2.1 35 = .ok (.isub, 1) := by decide +kernel
theorem d_X2_search_36 : decode mX2_search.2.2.1 36 = .ok (.iastore, 1) := by decide +kernel
theorem d_X2_search_37 : decode mX2_search.2.2.1 37 = .ok (.iinc 3 1, 3) := by decide +kernel
theorem d_X2_search_40 : decode mX2_search.2.2.1 40 = .ok (.goto (-38), 3) := by decide +kernel
theorem d_X2_search_48 : decode mX2_search.2.2.1 48 = .ok (.iload 4, 2) := by decide +kernel
theorem d_X2_search_50 : decode mX2_search.2.2.1 50 = .ok (.sipush 4096, 3) := by decide +kernel
theorem d_X2_search_53 : decode mX2_search.2.2.1 53 = .ok (.if_icmp .ge 109, 3) := by decide +kernel
theorem d_X2_search_56 : decode mX2_search.2.2.1 56 = .ok (.aload_n 0, 1) := by decide +kernel
theorem d_X2_search_57 : decode mX2_search.2.2.1 57 = .ok (.iload_n 2, 1) := by decide +kernel
theorem d_X2_search_58 : decode mX2_search.2.2.1 58 = .ok (.iload 4, 2) := by decide +kernel
theorem d_X2_search_60 : decode mX2_search.2.2.1 60 = .ok (.sipush 256, 3) := by decide +kernel
theorem d_X2_search_63 : decode mX2_search.2.2.1 63 = .ok (.idiv, 1) := by decide +kernel
theorem d_X2_search_64 : decode mX2_search.2.2.1 64 = .ok (.iload 4, 2) := by decide +kernel
theorem d_X2_search_66 : decode mX2_search.2.2.1 66 = .ok (.bipush 16, 2) := by decide +kernel
theorem d_X2_search_68 : decode mX2_search.2.2.1 68 = .ok (.idiv, 1) := by decide +kernel
theorem d_X2_search_69 : decode mX2_search.2.2.1 69 = .ok (.bipush 16, 2) := by decide +kernel
theorem d_X2_search_71 : decode mX2_search.2.2.1 71 = .ok (.irem, 1) := by decide +kernel
theorem d_X2_search_72 : decode mX2_search.2.2.1 72 = .ok (.iload 4, 2) := by decide +kernel
theorem d_X2_search_74 : decode mX2_search.2.2.1 74 = .ok (.bipush 16, 2) := by decide +kernel
theorem d_X2_search_76 : decode mX2_search.2.2.1 76 = .ok (.irem, 1) := by decide +kernel
theorem d_X2_search_77 : decode mX2_search.2.2.1 77 = .ok (.invokevirtual 58, 3) := by decide +kernel
def mX2_differences : MD := (2, yX2_differences, cX2_differences, 8, some .int)
theorem sel_X2_differences : Cond.instanceMethod mX2_differences.2.1 ∈ tblG ∧ Cond.selects mX2_differences.2.1.cls mX2_differences.2.1 mX2_differences.2.1 ∈ tblG := ⟨tblG_in (inT6 (List.mem_of_getElem? (i := 106) rfl)) rfl, tblG_in (inP5 (q := (mX2_differences.2.1, 7)) (List.mem_of_getElem? (i := 1) rfl)) rfl⟩
theorem s_2_58 : e_siteV 2 58 mX2_differences 2 := ⟨tblG_in (inT6 (List.mem_of_getElem? (i := 104) rfl)) rfl, sel_X2_differences.1, sel_X2_differences.2, rfl⟩
theorem d_X2_differences_0 : decode mX2_differences.2.2.1 0 = .ok (.iconst 0, 1) := by decide +kernel
theorem d_X2_differences_1 : decode mX2_differences.2.2.1 1 = .ok (.istore 5, 2) := by decide +kernel
theorem d_X2_differences_3 : decode mX2_differences.2.2.1 3 = .ok (.iconst 0, 1) := by decide +kernel
theorem d_X2_differences_4 : decode mX2_differences.2.2.1 4 = .ok (.istore 6, 2) := by decide +kernel
theorem d_X2_differences_6 : decode mX2_differences.2.2.1 6 = .ok (.iload 6, 2) := by decide +kernel
theorem d_X2_differences_8 : decode mX2_differences.2.2.1 8 = .ok (.aload_n 0, 1) := by decide +kernel
theorem d_X2_differences_9 : decode mX2_differences.2.2.1 9 = .ok (.getfield 27, 3) := by decide +kernel
theorem d_X2_differences_12 : decode mX2_differences.2.2.1 12 = .ok (.if_icmp .ge 72, 3) := by decide +kernel
theorem d_X2_differences_84 : decode mX2_differences.2.2.1 84 = .ok (.iload 5, 2) := by decide +kernel
theorem d_X2_differences_86 : decode mX2_differences.2.2.1 86 = .ok (.ireturn, 1) := by decide +kernel
theorem d_X2_differences_15 : decode mX2_differences.2.2.1 15 = .ok (.iload 6, 2) := by decide +kernel
theorem d_X2_differences_17 : decode mX2_differences.2.2.1 17 = .ok (.bipush 24, 2) := by decide +kernel
theorem d_X2_differences_19 : decode mX2_differences.2.2.1 19 = .ok (.imul, 1) := by decide +kernel
theorem d_X2_differences_20 : decode mX2_differences.2.2.1 20 = .ok (.iload_n 1, 1) := by decide +kernel
theorem d_X2_differences_21 : decode mX2_differences.2.2.1 21 = .ok (.iconst 4, 1) := by decide +kernel
theorem d_X2_differences_22 : decode mX2_differences.2.2.1 22 = .ok (.imul, 1) := by decide +kernel
theorem d_X2_differences_23 : decode mX2_differences.2.2.1 23 = .ok (.iadd, 1) := by decide +kernel
theorem d_X2_differences_24 : decode mX2_differences.2.2.1 24 = .ok (.istore 7, 2) := by decide +kernel
theorem d_X2_differences_26 : decode mX2_differences.2.2.1 26 = .ok (.iload 5, 2) := by decide +kernel
theorem d_X2_differences_28 : decode mX2_differences.2.2.1 28 = .ok (.aload_n 0, 1) := by decide +kernel
theorem d_X2_differences_29 : decode mX2_differences.2.2.1 29 = .ok (.getfield 24, 3) := by decide +kernel
theorem d_X2_differences_32 : decode mX2_differences.2.2.1 32 = .ok (.iload 6, 2) := by decide +kernel
theorem d_X2_differences_34 : decode mX2_differences.2.2.1 34 = .ok (.iaload, 1) := by decide +kernel
theorem d_X2_differences_35 : decode mX2_differences.2.2.1 35 = .ok (.iload_n 2, 1) := by decide +kernel
theorem d_X2_differences_36 : decode mX2_differences.2.2.1 36 = .ok (.aload_n 0, 1) := by decide +kernel
theorem d_X2_differences_37 : decode mX2_differences.2.2.1 37 = .ok (.getfield 21, 3) := by decide +kernel
theorem d_X2_differences_40 : decode mX2_differences.2.2.1 40 = .ok (.iload 7, 2) := by decide +kernel
theorem d_X2_differences_42 : decode mX2_differences.2.2.1 42 = .ok (.iconst 0, 1) := by decide +kernel
theorem d_X2_differences_43 : decode mX2_differences.2.2.1 43 = .ok (.iadd, 1) := by decide +kernel
theorem d_X2_differences_44 : decode mX2_differences.2.2.1 44 = .ok (.iaload, 1) := by decide +kernel
theorem d_X2_differences_45 : decode mX2_differences.2.2.1 45 = .ok (.imul, 1) := by decide +kernel
theorem d_X2_differences_46 : decode mX2_differences.2.2.1 46 = .ok (.iadd, 1) := by decide +kernel
theorem d_X2_differences_47 : decode mX2_differences.2.2.1 47 = .ok (.iload_n 3, 1) := by decide +kernel
theorem d_X2_differences_48 : decode mX2_differences.2.2.1 48 = .ok (.aload_n 0, 1) := by decide +kernel
theorem d_X2_differences_49 : decode mX2_differences.2.2.1 49 = .ok (.getfield 21, 3) := by decide +kernel
theorem d_X2_differences_52 : decode mX2_differences.2.2.1 52 = .ok (.iload 7, 2) := by decide +kernel
theorem d_X2_differences_54 : decode mX2_differences.2.2.1 54 = .ok (.iconst 2, 1) := by decide +kernel
theorem d_X2_differences_55 : decode mX2_differences.2.2.1 55 = .ok (.iadd, 1) := by decide +kernel
theorem d_X2_differences_56 : decode mX2_differences.2.2.1 56 = .ok (.iaload, 1) := by decide +kernel
theorem d_X2_differences_57 : decode mX2_differences.2.2.1 57 = .ok (.imul, 1) := by decide +kernel
theorem d_X2_differences_58 : decode mX2_differences.2.2.1 58 = .ok (.iadd, 1) := by decide +kernel
theorem d_X2_differences_59 : decode mX2_differences.2.2.1 59 = .ok (.iload 4, 2) := by decide +kernel
theorem d_X2_differences_61 : decode mX2_differences.2.2.1 61 = .ok (.aload_n 0, 1) := by decide +kernel
theorem d_X2_differences_62 : decode mX2_differences.2.2.1 62 = .ok (.getfield 21, 3) := by decide +kernel
theorem d_X2_differences_65 : decode mX2_differences.2.2.1 65 = .ok (.iload 7, 2) := by decide +kernel
theorem d_X2_differences_67 : decode mX2_differences.2.2.1 67 = .ok (.iconst 3, 1) := by decide +kernel
theorem d_X2_differences_68 : decode mX2_differences.2.2.1 68 = .ok (.iadd, 1) := by decide +kernel
theorem d_X2_differences_69 : decode mX2_differences.2.2.1 69 = .ok (.iaload, 1) := by decide +kernel
theorem d_X2_differences_70 : decode mX2_differences.2.2.1 70 = .ok (.imul, 1) := by decide +kernel
theorem d_X2_differences_71 : decode mX2_differences.2.2.1 71 = .ok (.iadd, 1) := by decide +kernel
theorem d_X2_differences_72 : decode mX2_differences.2.2.1 72 = .ok (.invokestatic 67, 3) := by decide +kernel
theorem mw_mabs : Cond.static Lib.Math.abs.name ∈ tblG ∧ Cond.initialized "java/lang/Math" ∈ tblG ∧ Cond.code Lib.Math.abs.name Lib.Math.abs.code 1 (some .int) ∈ tblG := ⟨tblG_in (inT6 (List.mem_of_getElem? (i := 109) rfl)) rfl, tblG_in (inT1 (List.mem_of_getElem? (i := 19) rfl)) rfl, tblG_in (inT6 (List.mem_of_getElem? (i := 110) rfl)) rfl⟩
theorem ml_2_67 : Cond.methodLink (e_cn 2) 67 Lib.Math.abs.name ∈ tblG := tblG_in (inT6 (List.mem_of_getElem? (i := 108) rfl)) rfl
theorem d_X2_differences_75 : decode mX2_differences.2.2.1 75 = .ok (.iadd, 1) := by decide +kernel
end
/-! 25.04 -/
section
theorem d_X2_differences_76 : decode mX2_differences.2.2.1 76 = .ok (.istore 5, 2) := by decide +kernel
theorem d_X2_differences_78 : decode mX2_differences.2.2.1 78 = .ok (.iinc 6 1, 3) := by decide +kernel
theorem d_X2_differences_81 : decode mX2_differences.2.2.1 81 = .ok (.goto (-75), 3) := by decide +kernel
theorem ok_X2_differences : e_m mX2_differences 4 := ⟨tblG_in (inT6 (List.mem_of_getElem? (i := 107) rfl)) rfl, plainFor_of_name (by decide), rfl, ini_2, by decide +kernel, by decide⟩
theorem d_X2_search_80 : decode mX2_search.2.2.1 80 = .ok (.istore 5, 2) := by decide +kernel
theorem d_X2_search_82 : decode mX2_search.2.2.1 82 = .ok (.iload 4, 2) := by decide +kernel
theorem d_X2_search_84 : decode mX2_search.2.2.1 84 = .ok (.ifCond .eq 9, 3) := by decide +kernel
theorem d_X2_search_93 : decode mX2_search.2.2.1 93 = .ok (.iload 5, 2) := by decide +kernel
theorem d_X2_search_95 : decode mX2_search.2.2.1 95 = .ok (.istore_n 3, 1) := by decide +kernel
theorem d_X2_search_96 : decode mX2_search.2.2.1 96 = .ok (.aload_n 0, 1) := by decide +kernel
theorem d_X2_search_97 : decode mX2_search.2.2.1 97 = .ok (.getfield 9, 3) := by decide +kernel
theorem d_X2_search_100 : decode mX2_search.2.2.1 100 = .ok (.iconst 0, 1) := by decide +kernel
theorem d_X2_search_101 : decode mX2_search.2.2.1 101 = .ok (.iload 4, 2) := by decide +kernel
theorem d_X2_search_103 : decode mX2_search.2.2.1 103 = .ok (.sipush 256, 3) := by decide +kernel
theorem d_X2_search_106 : decode mX2_search.2.2.1 106 = .ok (.idiv, 1) := by decide +kernel
theorem d_X2_search_107 : decode mX2_search.2.2.1 107 = .ok (.iastore, 1) := by decide +kernel
theorem d_X2_search_108 : decode mX2_search.2.2.1 108 = .ok (.aload_n 0, 1) := by decide +kernel
theorem d_X2_search_109 : decode mX2_search.2.2.1 109 = .ok (.getfield 9, 3) := by decide +kernel
theorem d_X2_search_112 : decode mX2_search.2.2.1 112 = .ok (.iconst 1, 1) := by decide +kernel
theorem d_X2_search_113 : decode mX2_search.2.2.1 113 = .ok (.iload 4, 2) := by decide +kernel
theorem d_X2_search_115 : decode mX2_search.2.2.1 115 = .ok (.bipush 16, 2) := by decide +kernel
theorem d_X2_search_117 : decode mX2_search.2.2.1 117 = .ok (.idiv, 1) := by decide +kernel
theorem d_X2_search_118 : decode mX2_search.2.2.1 118 = .ok (.bipush 16, 2) := by decide +kernel
theorem d_X2_search_120 : decode mX2_search.2.2.1 120 = .ok (.irem, 1) := by decide +kernel
theorem d_X2_search_121 : decode mX2_search.2.2.1 121 = .ok (.iastore, 1) := by decide +kernel
theorem d_X2_search_122 : decode mX2_search.2.2.1 122 = .ok (.aload_n 0, 1) := by decide +kernel
theorem d_X2_search_123 : decode mX2_search.2.2.1 123 = .ok (.getfield 9, 3) := by decide +kernel
theorem d_X2_search_126 : decode mX2_search.2.2.1 126 = .ok (.iconst 2, 1) := by decide +kernel
theorem d_X2_search_127 : decode mX2_search.2.2.1 127 = .ok (.iload 4, 2) := by decide +kernel
theorem d_X2_search_129 : decode mX2_search.2.2.1 129 = .ok (.bipush 16, 2) := by decide +kernel
theorem d_X2_search_131 : decode mX2_search.2.2.1 131 = .ok (.irem, 1) := by decide +kernel
theorem d_X2_search_132 : decode mX2_search.2.2.1 132 = .ok (.iastore, 1) := by decide +kernel
theorem d_X2_search_133 : decode mX2_search.2.2.1 133 = .ok (.aload_n 0, 1) := by decide +kernel
theorem d_X2_search_134 : decode mX2_search.2.2.1 134 = .ok (.getfield 9, 3) := by decide +kernel
theorem d_X2_search_137 : decode mX2_search.2.2.1 137 = .ok (.iconst 3, 1) := by decide +kernel
theorem d_X2_search_138 : decode mX2_search.2.2.1 138 = .ok (.iconst 0, 1) := by decide +kernel
theorem d_X2_search_139 : decode mX2_search.2.2.1 139 = .ok (.iastore, 1) := by decide +kernel
theorem d_X2_search_140 : decode mX2_search.2.2.1 140 = .ok (.iload 5, 2) := by decide +kernel
theorem d_X2_search_142 : decode mX2_search.2.2.1 142 = .ok (.iload_n 3, 1) := by decide +kernel
theorem d_X2_search_143 : decode mX2_search.2.2.1 143 = .ok (.if_icmp .ne 13, 3) := by decide +kernel
theorem d_X2_search_146 : decode mX2_search.2.2.1 146 = .ok (.aload_n 0, 1) := by decide +kernel
theorem d_X2_search_147 : decode mX2_search.2.2.1 147 = .ok (.getfield 9, 3) := by decide +kernel
theorem d_X2_search_150 : decode mX2_search.2.2.1 150 = .ok (.iconst 3, 1) := by decide +kernel
theorem d_X2_search_151 : decode mX2_search.2.2.1 151 = .ok (.dup2, 1) := by decide +kernel
theorem d_X2_search_152 : decode mX2_search.2.2.1 152 = .ok (.iaload, 1) := by decide +kernel
theorem d_X2_search_153 : decode mX2_search.2.2.1 153 = .ok (.iconst 1, 1) := by decide +kernel
theorem d_X2_search_154 : decode mX2_search.2.2.1 154 = .ok (.iadd, 1) := by decide +kernel
theorem d_X2_search_155 : decode mX2_search.2.2.1 155 = .ok (.iastore, 1) := by decide +kernel
theorem d_X2_search_156 : decode mX2_search.2.2.1 156 = .ok (.iinc 4 1, 3) := by decide +kernel
theorem d_X2_search_159 : decode mX2_search.2.2.1 159 = .ok (.goto (-111), 3) := by decide +kernel
theorem d_X2_search_87 : decode mX2_search.2.2.1 87 = .ok (.iload 5, 2) := by decide +kernel
theorem d_X2_search_89 : decode mX2_search.2.2.1 89 = .ok (.iload_n 3, 1) := by decide +kernel
theorem d_X2_search_90 : decode mX2_search.2.2.1 90 = .ok (.if_icmp .ge 50, 3) := by decide +kernel
theorem d_X2_search_162 : decode mX2_search.2.2.1 162 = .ok (.aload_n 0, 1) := by decide +kernel
theorem d_X2_search_163 : decode mX2_search.2.2.1 163 = .ok (.iconst 1, 1) := by decide +kernel
theorem d_X2_search_164 : decode mX2_search.2.2.1 164 = .ok (.putfield 31, 3) := by decide +kernel
theorem f_2_31 : e_fld 2 31 2 1 7 3 false := ⟨RX2, TX2, 1, rfl, rfl, by decide, rfl, rfl, rfl, iX2, tblG_in (inT2 (List.mem_of_getElem? (i := 220) rfl)) rfl, tyX2_ok, nmX2⟩
theorem d_X2_search_167 : decode mX2_search.2.2.1 167 = .ok (.iload_n 3, 1) := by decide +kernel
theorem d_X2_search_168 : decode mX2_search.2.2.1 168 = .ok (.ireturn, 1) := by decide +kernel
theorem ok_X2_search : e_m mX2_search 2 := ⟨tblG_in (inT6 (List.mem_of_getElem? (i := 99) rfl)) rfl, plainFor_of_name (by decide), rfl, ini_2, by decide +kernel, by decide⟩
theorem d_X11_fit_32 : decode mX11_fit.2.2.1 32 = .ok (.ireturn, 1) := by decide +kernel
def mX11_fitted : MD := (11, yX11_fitted, cX11_fitted, 2, some .int)
theorem d_X11_fitted_0 : decode mX11_fitted.2.2.1 0 = .ok (.aload_n 0, 1) := by decide +kernel
theorem d_X11_fitted_1 : decode mX11_fitted.2.2.1 1 = .ok (.getfield 70, 3) := by decide +kernel
theorem d_X11_fitted_4 : decode mX11_fitted.2.2.1 4 = .ok (.getfield 280, 3) := by decide +kernel
theorem f_11_280 : e_fld 11 280 2 1 7 3 false := ⟨RX2, TX2, 1, rfl, rfl, by decide, rfl, rfl, rfl, iX2, tblG_in (inT2 (List.mem_of_getElem? (i := 221) rfl)) rfl, tyX2_ok, nmX2⟩
theorem d_X11_fitted_7 : decode mX11_fitted.2.2.1 7 = .ok (.ifCond .eq 12, 3) := by decide +kernel
theorem d_X11_fitted_19 : decode mX11_fitted.2.2.1 19 = .ok (.iconst (-1), 1) := by decide +kernel
theorem d_X11_fitted_20 : decode mX11_fitted.2.2.1 20 = .ok (.ireturn, 1) := by decide +kernel
theorem d_X11_fitted_10 : decode mX11_fitted.2.2.1 10 = .ok (.iload_n 1, 1) := by decide +kernel
theorem d_X11_fitted_11 : decode mX11_fitted.2.2.1 11 = .ok (.ifCond .lt 8, 3) := by decide +kernel
theorem d_X11_fitted_14 : decode mX11_fitted.2.2.1 14 = .ok (.iload_n 1, 1) := by decide +kernel
theorem d_X11_fitted_15 : decode mX11_fitted.2.2.1 15 = .ok (.iconst 3, 1) := by decide +kernel
theorem d_X11_fitted_16 : decode mX11_fitted.2.2.1 16 = .ok (.if_icmp .le 5, 3) := by decide +kernel
theorem d_X11_fitted_21 : decode mX11_fitted.2.2.1 21 = .ok (.aload_n 0, 1) := by decide +kernel
theorem d_X11_fitted_22 : decode mX11_fitted.2.2.1 22 = .ok (.getfield 70, 3) := by decide +kernel
theorem d_X11_fitted_25 : decode mX11_fitted.2.2.1 25 = .ok (.getfield 283, 3) := by decide +kernel
theorem f_11_283 : e_fld 11 283 2 2 7 2 true := ⟨RX2, TX2, 2, rfl, rfl, by decide, rfl, rfl, rfl, iX2, tblG_in (inT2 (List.mem_of_getElem? (i := 223) rfl)) rfl, tyX2_ok, nmX2⟩
theorem d_X11_fitted_28 : decode mX11_fitted.2.2.1 28 = .ok (.iload_n 1, 1) := by decide +kernel
theorem d_X11_fitted_29 : decode mX11_fitted.2.2.1 29 = .ok (.iaload, 1) := by decide +kernel
theorem d_X11_fitted_30 : decode mX11_fitted.2.2.1 30 = .ok (.ireturn, 1) := by decide +kernel
def mX11_ask : MD := (11, yX11_ask, cX11_ask, 4, some .int)
theorem d_X11_ask_0 : decode mX11_ask.2.2.1 0 = .ok (.iload_n 1, 1) := by decide +kernel
theorem d_X11_ask_1 : decode mX11_ask.2.2.1 1 = .ok (.ifCond .lt 30, 3) := by decide +kernel
theorem d_X11_ask_31 : decode mX11_ask.2.2.1 31 = .ok (.iconst (-1), 1) := by decide +kernel
theorem d_X11_ask_32 : decode mX11_ask.2.2.1 32 = .ok (.ireturn, 1) := by decide +kernel
theorem d_X11_ask_4 : decode mX11_ask.2.2.1 4 = .ok (.iload_n 1, 1) := by decide +kernel
theorem d_X11_ask_5 : decode mX11_ask.2.2.1 5 = .ok (.sipush 200, 3) := by decide +kernel
theorem d_X11_ask_8 : decode mX11_ask.2.2.1 8 = .ok (.if_icmp .gt 23, 3) := by decide +kernel
theorem d_X11_ask_11 : decode mX11_ask.2.2.1 11 = .ok (.iload_n 2, 1) := by decide +kernel
theorem d_X11_ask_12 : decode mX11_ask.2.2.1 12 = .ok (.iconst 1, 1) := by decide +kernel
theorem d_X11_ask_13 : decode mX11_ask.2.2.1 13 = .ok (.if_icmp .lt 18, 3) := by decide +kernel
theorem d_X11_ask_16 : decode mX11_ask.2.2.1 16 = .ok (.iload_n 2, 1) := by decide +kernel
theorem d_X11_ask_17 : decode mX11_ask.2.2.1 17 = .ok (.bipush 20, 2) := by decide +kernel
theorem d_X11_ask_19 : decode mX11_ask.2.2.1 19 = .ok (.if_icmp .gt 12, 3) := by decide +kernel
theorem d_X11_ask_22 : decode mX11_ask.2.2.1 22 = .ok (.iload_n 3, 1) := by decide +kernel
theorem d_X11_ask_23 : decode mX11_ask.2.2.1 23 = .ok (.ifCond .lt 8, 3) := by decide +kernel
theorem d_X11_ask_26 : decode mX11_ask.2.2.1 26 = .ok (.iload_n 3, 1) := by decide +kernel
theorem d_X11_ask_27 : decode mX11_ask.2.2.1 27 = .ok (.iconst 5, 1) := by decide +kernel
theorem d_X11_ask_28 : decode mX11_ask.2.2.1 28 = .ok (.if_icmp .le 5, 3) := by decide +kernel
theorem d_X11_ask_33 : decode mX11_ask.2.2.1 33 = .ok (.aload_n 0, 1) := by decide +kernel
theorem d_X11_ask_34 : decode mX11_ask.2.2.1 34 = .ok (.getfield 77, 3) := by decide +kernel
theorem d_X11_ask_37 : decode mX11_ask.2.2.1 37 = .ok (.iload_n 1, 1) := by decide +kernel
theorem d_X11_ask_38 : decode mX11_ask.2.2.1 38 = .ok (.iload_n 2, 1) := by decide +kernel
theorem d_X11_ask_39 : decode mX11_ask.2.2.1 39 = .ok (.iload_n 3, 1) := by decide +kernel
theorem d_X11_ask_40 : decode mX11_ask.2.2.1 40 = .ok (.invokevirtual 286, 3) := by decide +kernel
def mX0_add : MD := (0, yX0_add, cX0_add, 4, some .boolean)
theorem sel_X0_add : Cond.instanceMethod mX0_add.2.1 ∈ tblG ∧ Cond.selects mX0_add.2.1.cls mX0_add.2.1 mX0_add.2.1 ∈ tblG := ⟨tblG_in (inT6 (List.mem_of_getElem? (i := 120) rfl)) rfl, tblG_in (inT6 (List.mem_of_getElem? (i := 121) rfl)) rfl⟩
theorem s_11_286 : e_siteV 11 286 mX0_add 0 := ⟨tblG_in (inT6 (List.mem_of_getElem? (i := 119) rfl)) rfl, sel_X0_add.1, sel_X0_add.2, rfl⟩
theorem d_X0_add_0 : decode mX0_add.2.2.1 0 = .ok (.aload_n 0, 1) := by decide +kernel
theorem d_X0_add_1 : decode mX0_add.2.2.1 1 = .ok (.getfield 30, 3) := by decide +kernel
theorem f_0_30 : e_fld 0 30 0 0 8 0 false := ⟨RX0, TX0, 0, rfl, rfl, by decide, rfl, rfl, rfl, iX0, tblG_in (inT3 (List.mem_of_getElem? (i := 9) rfl)) rfl, tyX0_ok, nmX0⟩
theorem d_X0_add_4 : decode mX0_add.2.2.1 4 = .ok (.bipush 6, 2) := by decide +kernel
theorem d_X0_add_6 : decode mX0_add.2.2.1 6 = .ok (.if_icmp .lt 5, 3) := by decide +kernel
theorem d_X0_add_11 : decode mX0_add.2.2.1 11 = .ok (.aload_n 0, 1) := by decide +kernel
theorem d_X0_add_12 : decode mX0_add.2.2.1 12 = .ok (.getfield 11, 3) := by decide +kernel
theorem d_X0_add_15 : decode mX0_add.2.2.1 15 = .ok (.aload_n 0, 1) := by decide +kernel
theorem d_X0_add_16 : decode mX0_add.2.2.1 16 = .ok (.getfield 30, 3) := by decide +kernel
theorem d_X0_add_19 : decode mX0_add.2.2.1 19 = .ok (.iload_n 1, 1) := by decide +kernel
theorem d_X0_add_20 : decode mX0_add.2.2.1 20 = .ok (.iastore, 1) := by decide +kernel
theorem d_X0_add_21 : decode mX0_add.2.2.1 21 = .ok (.aload_n 0, 1) := by decide +kernel
theorem d_X0_add_22 : decode mX0_add.2.2.1 22 = .ok (.getfield 15, 3) := by decide +kernel
theorem d_X0_add_25 : decode mX0_add.2.2.1 25 = .ok (.aload_n 0, 1) := by decide +kernel
theorem d_X0_add_26 : decode mX0_add.2.2.1 26 = .ok (.getfield 30, 3) := by decide +kernel
theorem d_X0_add_29 : decode mX0_add.2.2.1 29 = .ok (.iload_n 2, 1) := by decide +kernel
theorem d_X0_add_30 : decode mX0_add.2.2.1 30 = .ok (.iastore, 1) := by decide +kernel
theorem d_X0_add_31 : decode mX0_add.2.2.1 31 = .ok (.aload_n 0, 1) := by decide +kernel
theorem d_X0_add_32 : decode mX0_add.2.2.1 32 = .ok (.getfield 18, 3) := by decide +kernel
theorem d_X0_add_35 : decode mX0_add.2.2.1 35 = .ok (.aload_n 0, 1) := by decide +kernel
theorem d_X0_add_36 : decode mX0_add.2.2.1 36 = .ok (.getfield 30, 3) := by decide +kernel
theorem d_X0_add_39 : decode mX0_add.2.2.1 39 = .ok (.iload_n 3, 1) := by decide +kernel
theorem d_X0_add_40 : decode mX0_add.2.2.1 40 = .ok (.iastore, 1) := by decide +kernel
theorem d_X0_add_41 : decode mX0_add.2.2.1 41 = .ok (.aload_n 0, 1) := by decide +kernel
theorem d_X0_add_42 : decode mX0_add.2.2.1 42 = .ok (.dup, 1) := by decide +kernel
theorem d_X0_add_43 : decode mX0_add.2.2.1 43 = .ok (.getfield 30, 3) := by decide +kernel
theorem d_X0_add_46 : decode mX0_add.2.2.1 46 = .ok (.iconst 1, 1) := by decide +kernel
theorem d_X0_add_47 : decode mX0_add.2.2.1 47 = .ok (.iadd, 1) := by decide +kernel
theorem d_X0_add_48 : decode mX0_add.2.2.1 48 = .ok (.putfield 30, 3) := by decide +kernel
theorem d_X0_add_51 : decode mX0_add.2.2.1 51 = .ok (.iconst 1, 1) := by decide +kernel
theorem d_X0_add_52 : decode mX0_add.2.2.1 52 = .ok (.ireturn, 1) := by decide +kernel
theorem d_X0_add_9 : decode mX0_add.2.2.1 9 = .ok (.iconst 0, 1) := by decide +kernel
theorem d_X0_add_10 : decode mX0_add.2.2.1 10 = .ok (.ireturn, 1) := by decide +kernel
theorem ok_X0_add : e_m mX0_add 3 := ⟨tblG_in (inT6 (List.mem_of_getElem? (i := 122) rfl)) rfl, plainFor_of_name (by decide), rfl, ini_0, by decide +kernel, by decide⟩
theorem d_X11_ask_43 : decode mX11_ask.2.2.1 43 = .ok (.ifCond .eq 13, 3) := by decide +kernel
theorem d_X11_ask_56 : decode mX11_ask.2.2.1 56 = .ok (.iconst (-1), 1) := by decide +kernel
theorem d_X11_ask_57 : decode mX11_ask.2.2.1 57 = .ok (.ireturn, 1) := by decide +kernel
theorem d_X11_ask_46 : decode mX11_ask.2.2.1 46 = .ok (.aload_n 0, 1) := by decide +kernel
theorem d_X11_ask_47 : decode mX11_ask.2.2.1 47 = .ok (.getfield 77, 3) := by decide +kernel
theorem d_X11_ask_50 : decode mX11_ask.2.2.1 50 = .ok (.getfield 136, 3) := by decide +kernel
theorem d_X11_ask_53 : decode mX11_ask.2.2.1 53 = .ok (.goto 4, 3) := by decide +kernel
def mX11_forget : MD := (11, yX11_forget, cX11_forget, 2, some .int)
theorem d_X11_forget_0 : decode mX11_forget.2.2.1 0 = .ok (.aload_n 0, 1) := by decide +kernel
theorem d_X11_forget_1 : decode mX11_forget.2.2.1 1 = .ok (.getfield 77, 3) := by decide +kernel
theorem d_X11_forget_4 : decode mX11_forget.2.2.1 4 = .ok (.getfield 136, 3) := by decide +kernel
theorem d_X11_forget_7 : decode mX11_forget.2.2.1 7 = .ok (.istore_n 1, 1) := by decide +kernel
theorem d_X11_forget_8 : decode mX11_forget.2.2.1 8 = .ok (.aload_n 0, 1) := by decide +kernel
theorem d_X11_forget_9 : decode mX11_forget.2.2.1 9 = .ok (.getfield 77, 3) := by decide +kernel
theorem d_X11_forget_12 : decode mX11_forget.2.2.1 12 = .ok (.iconst 0, 1) := by decide +kernel
theorem d_X11_forget_13 : decode mX11_forget.2.2.1 13 = .ok (.putfield 136, 3) := by decide +kernel
theorem d_X11_forget_16 : decode mX11_forget.2.2.1 16 = .ok (.iload_n 1, 1) := by decide +kernel
theorem d_X11_forget_17 : decode mX11_forget.2.2.1 17 = .ok (.ireturn, 1) := by decide +kernel
def mX11_together : MD := (11, yX11_together, cX11_together, 2, some .int)
theorem d_X11_together_0 : decode mX11_together.2.2.1 0 = .ok (.aload_n 0, 1) := by decide +kernel
theorem d_X11_together_1 : decode mX11_together.2.2.1 1 = .ok (.iload_n 1, 1) := by decide +kernel
theorem d_X11_together_2 : decode mX11_together.2.2.1 2 = .ok (.invokevirtual 174, 3) := by decide +kernel
theorem d_X11_together_5 : decode mX11_together.2.2.1 5 = .ok (.ifCond .eq 13, 3) := by decide +kernel
theorem d_X11_together_18 : decode mX11_together.2.2.1 18 = .ok (.iconst (-1), 1) := by decide +kernel
theorem d_X11_together_19 : decode mX11_together.2.2.1 19 = .ok (.ireturn, 1) := by decide +kernel
theorem d_X11_together_8 : decode mX11_together.2.2.1 8 = .ok (.aload_n 0, 1) := by decide +kernel
theorem d_X11_together_9 : decode mX11_together.2.2.1 9 = .ok (.getfield 77, 3) := by decide +kernel
theorem d_X11_together_12 : decode mX11_together.2.2.1 12 = .ok (.getfield 136, 3) := by decide +kernel
theorem d_X11_together_15 : decode mX11_together.2.2.1 15 = .ok (.ifCond .ne 5, 3) := by decide +kernel
theorem d_X11_together_20 : decode mX11_together.2.2.1 20 = .ok (.aload_n 0, 1) := by decide +kernel
theorem d_X11_together_21 : decode mX11_together.2.2.1 21 = .ok (.getfield 77, 3) := by decide +kernel
theorem d_X11_together_24 : decode mX11_together.2.2.1 24 = .ok (.aload_n 0, 1) := by decide +kernel
theorem d_X11_together_25 : decode mX11_together.2.2.1 25 = .ok (.getfield 30, 3) := by decide +kernel
theorem d_X11_together_28 : decode mX11_together.2.2.1 28 = .ok (.getfield 289, 3) := by decide +kernel
theorem f_11_289 : e_fld 11 289 3 5 12 2 true := ⟨RX3, TX3, 5, rfl, rfl, by decide, rfl, rfl, rfl, iX3, tblG_in (inT1 (List.mem_of_getElem? (i := 184) rfl)) rfl, tyX3_ok, nmX3⟩
theorem d_X11_together_31 : decode mX11_together.2.2.1 31 = .ok (.iload_n 1, 1) := by decide +kernel
theorem d_X11_together_32 : decode mX11_together.2.2.1 32 = .ok (.iconst 4, 1) := by decide +kernel
theorem d_X11_together_33 : decode mX11_together.2.2.1 33 = .ok (.imul, 1) := by decide +kernel
theorem d_X11_together_34 : decode mX11_together.2.2.1 34 = .ok (.iconst 2, 1) := by decide +kernel
theorem d_X11_together_35 : decode mX11_together.2.2.1 35 = .ok (.iadd, 1) := by decide +kernel
theorem d_X11_together_36 : decode mX11_together.2.2.1 36 = .ok (.iaload, 1) := by decide +kernel
theorem d_X11_together_37 : decode mX11_together.2.2.1 37 = .ok (.aload_n 0, 1) := by decide +kernel
theorem d_X11_together_38 : decode mX11_together.2.2.1 38 = .ok (.getfield 30, 3) := by decide +kernel
theorem d_X11_together_41 : decode mX11_together.2.2.1 41 = .ok (.iload_n 1, 1) := by decide +kernel
theorem d_X11_together_42 : decode mX11_together.2.2.1 42 = .ok (.invokevirtual 292, 3) := by decide +kernel
def mX3_wakeCost : MD := (3, yX3_wakeCost, cX3_wakeCost, 2, some .int)
theorem sel_X3_wakeCost : Cond.instanceMethod mX3_wakeCost.2.1 ∈ tblG ∧ Cond.selects mX3_wakeCost.2.1.cls mX3_wakeCost.2.1 mX3_wakeCost.2.1 ∈ tblG := ⟨tblG_in (inT6 (List.mem_of_getElem? (i := 10) rfl)) rfl, tblG_in (inT6 (List.mem_of_getElem? (i := 11) rfl)) rfl⟩
theorem s_11_292 : e_siteV 11 292 mX3_wakeCost 3 := ⟨tblG_in (inT6 (List.mem_of_getElem? (i := 131) rfl)) rfl, sel_X3_wakeCost.1, sel_X3_wakeCost.2, rfl⟩
theorem d_X3_wakeCost_0 : decode mX3_wakeCost.2.2.1 0 = .ok (.aload_n 0, 1) := by decide +kernel
theorem d_X3_wakeCost_1 : decode mX3_wakeCost.2.2.1 1 = .ok (.getfield 18, 3) := by decide +kernel
theorem d_X3_wakeCost_4 : decode mX3_wakeCost.2.2.1 4 = .ok (.iload_n 1, 1) := by decide +kernel
theorem d_X3_wakeCost_5 : decode mX3_wakeCost.2.2.1 5 = .ok (.iaload, 1) := by decide +kernel
theorem d_X3_wakeCost_6 : decode mX3_wakeCost.2.2.1 6 = .ok (.aload_n 0, 1) := by decide +kernel
theorem d_X3_wakeCost_7 : decode mX3_wakeCost.2.2.1 7 = .ok (.getfield 15, 3) := by decide +kernel
theorem d_X3_wakeCost_10 : decode mX3_wakeCost.2.2.1 10 = .ok (.iload_n 1, 1) := by decide +kernel
theorem d_X3_wakeCost_11 : decode mX3_wakeCost.2.2.1 11 = .ok (.iconst 4, 1) := by decide +kernel
theorem d_X3_wakeCost_12 : decode mX3_wakeCost.2.2.1 12 = .ok (.imul, 1) := by decide +kernel
theorem d_X3_wakeCost_13 : decode mX3_wakeCost.2.2.1 13 = .ok (.iconst 1, 1) := by decide +kernel
theorem d_X3_wakeCost_14 : decode mX3_wakeCost.2.2.1 14 = .ok (.iadd, 1) := by decide +kernel
theorem d_X3_wakeCost_15 : decode mX3_wakeCost.2.2.1 15 = .ok (.iaload, 1) := by decide +kernel
theorem d_X3_wakeCost_16 : decode mX3_wakeCost.2.2.1 16 = .ok (.imul, 1) := by decide +kernel
theorem d_X3_wakeCost_17 : decode mX3_wakeCost.2.2.1 17 = .ok (.ireturn, 1) := by decide +kernel
theorem ok_X3_wakeCost : e_m mX3_wakeCost 1 := ⟨tblG_in (inT6 (List.mem_of_getElem? (i := 12) rfl)) rfl, plainFor_of_name (by decide), rfl, ini_3, by decide +kernel, by decide⟩
theorem d_X11_together_45 : decode mX11_together.2.2.1 45 = .ok (.aload_n 0, 1) := by decide +kernel
theorem d_X11_together_46 : decode mX11_together.2.2.1 46 = .ok (.getfield 30, 3) := by decide +kernel
theorem d_X11_together_49 : decode mX11_together.2.2.1 49 = .ok (.getfield 295, 3) := by decide +kernel
theorem f_11_295 : e_fld 11 295 3 7 12 2 true := ⟨RX3, TX3, 7, rfl, rfl, by decide, rfl, rfl, rfl, iX3, tblG_in (inT1 (List.mem_of_getElem? (i := 193) rfl)) rfl, tyX3_ok, nmX3⟩
theorem d_X11_together_52 : decode mX11_together.2.2.1 52 = .ok (.iload_n 1, 1) := by decide +kernel
theorem d_X11_together_53 : decode mX11_together.2.2.1 53 = .ok (.iaload, 1) := by decide +kernel
theorem d_X11_together_54 : decode mX11_together.2.2.1 54 = .ok (.invokevirtual 298, 3) := by decide +kernel
def mX0_arrange : MD := (0, yX0_arrange, cX0_arrange, 10, some .int)
theorem sel_X0_arrange : Cond.instanceMethod mX0_arrange.2.1 ∈ tblG ∧ Cond.selects mX0_arrange.2.1.cls mX0_arrange.2.1 mX0_arrange.2.1 ∈ tblG := ⟨tblG_in (inT6 (List.mem_of_getElem? (i := 133) rfl)) rfl, tblG_in (inT6 (List.mem_of_getElem? (i := 134) rfl)) rfl⟩
theorem s_11_298 : e_siteV 11 298 mX0_arrange 0 := ⟨tblG_in (inT6 (List.mem_of_getElem? (i := 132) rfl)) rfl, sel_X0_arrange.1, sel_X0_arrange.2, rfl⟩
theorem d_X0_arrange_0 : decode mX0_arrange.2.2.1 0 = .ok (.iconst 0, 1) := by decide +kernel
theorem d_X0_arrange_1 : decode mX0_arrange.2.2.1 1 = .ok (.istore 4, 2) := by decide +kernel
theorem d_X0_arrange_3 : decode mX0_arrange.2.2.1 3 = .ok (.iload 4, 2) := by decide +kernel
theorem d_X0_arrange_5 : decode mX0_arrange.2.2.1 5 = .ok (.aload_n 0, 1) := by decide +kernel
theorem d_X0_arrange_6 : decode mX0_arrange.2.2.1 6 = .ok (.getfield 30, 3) := by decide +kernel
theorem d_X0_arrange_9 : decode mX0_arrange.2.2.1 9 = .ok (.if_icmp .ge 26, 3) := by decide +kernel
theorem d_X0_arrange_35 : decode mX0_arrange.2.2.1 35 = .ok (.aload_n 0, 1) := by decide +kernel
theorem d_X0_arrange_36 : decode mX0_arrange.2.2.1 36 = .ok (.aload_n 0, 1) := by decide +kernel
theorem d_X0_arrange_37 : decode mX0_arrange.2.2.1 37 = .ok (.getfield 30, 3) := by decide +kernel
theorem d_X0_arrange_40 : decode mX0_arrange.2.2.1 40 = .ok (.putfield 34, 3) := by decide +kernel
theorem f_0_34 : e_fld 0 34 0 7 8 0 false := ⟨RX0, TX0, 7, rfl, rfl, by decide, rfl, rfl, rfl, iX0, tblG_in (inT3 (List.mem_of_getElem? (i := 18) rfl)) rfl, tyX0_ok, nmX0⟩
theorem d_X0_arrange_43 : decode mX0_arrange.2.2.1 43 = .ok (.iconst 0, 1) := by decide +kernel
theorem d_X0_arrange_44 : decode mX0_arrange.2.2.1 44 = .ok (.istore 4, 2) := by decide +kernel
theorem d_X0_arrange_46 : decode mX0_arrange.2.2.1 46 = .ok (.iconst 0, 1) := by decide +kernel
end
/-! 25.05 -/
section
theorem d_X0_arrange_47 : decode mX0_arrange.2.2.1 47 = .ok (.istore 5, 2) := by decide +kernel
theorem d_X0_arrange_49 : decode mX0_arrange.2.2.1 49 = .ok (.iconst 1, 1) := by decide +kernel
theorem d_X0_arrange_50 : decode mX0_arrange.2.2.1 50 = .ok (.istore 6, 2) := by decide +kernel
theorem d_X0_arrange_52 : decode mX0_arrange.2.2.1 52 = .ok (.iconst 0, 1) := by decide +kernel
theorem d_X0_arrange_53 : decode mX0_arrange.2.2.1 53 = .ok (.istore 7, 2) := by decide +kernel
theorem d_X0_arrange_12 : decode mX0_arrange.2.2.1 12 = .ok (.aload_n 0, 1) := by decide +kernel
theorem d_X0_arrange_13 : decode mX0_arrange.2.2.1 13 = .ok (.getfield 21, 3) := by decide +kernel
theorem d_X0_arrange_16 : decode mX0_arrange.2.2.1 16 = .ok (.iload 4, 2) := by decide +kernel
theorem d_X0_arrange_18 : decode mX0_arrange.2.2.1 18 = .ok (.iconst 0, 1) := by decide +kernel
theorem d_X0_arrange_19 : decode mX0_arrange.2.2.1 19 = .ok (.iastore, 1) := by decide +kernel
theorem d_X0_arrange_20 : decode mX0_arrange.2.2.1 20 = .ok (.aload_n 0, 1) := by decide +kernel
theorem d_X0_arrange_21 : decode mX0_arrange.2.2.1 21 = .ok (.getfield 24, 3) := by decide +kernel
theorem d_X0_arrange_24 : decode mX0_arrange.2.2.1 24 = .ok (.iload 4, 2) := by decide +kernel
theorem d_X0_arrange_26 : decode mX0_arrange.2.2.1 26 = .ok (.iload 4, 2) := by decide +kernel
theorem d_X0_arrange_28 : decode mX0_arrange.2.2.1 28 = .ok (.iastore, 1) := by decide +kernel
theorem d_X0_arrange_29 : decode mX0_arrange.2.2.1 29 = .ok (.iinc 4 1, 3) := by decide +kernel
theorem d_X0_arrange_32 : decode mX0_arrange.2.2.1 32 = .ok (.goto (-29), 3) := by decide +kernel
theorem d_X0_arrange_55 : decode mX0_arrange.2.2.1 55 = .ok (.iload 7, 2) := by decide +kernel
theorem d_X0_arrange_57 : decode mX0_arrange.2.2.1 57 = .ok (.ldc 37, 2) := by decide +kernel
theorem k_0_37 : Jvm.Cond.constant (e_cn 0) 37 (Int32.ofInt 46656) ∈ tblG := tblG_in (inT6 (List.mem_of_getElem? (i := 136) rfl)) rfl
theorem d_X0_arrange_59 : decode mX0_arrange.2.2.1 59 = .ok (.if_icmp .ge 86, 3) := by decide +kernel
theorem d_X0_arrange_62 : decode mX0_arrange.2.2.1 62 = .ok (.iload 6, 2) := by decide +kernel
theorem d_X0_arrange_64 : decode mX0_arrange.2.2.1 64 = .ok (.ifCond .eq 81, 3) := by decide +kernel
theorem d_X0_arrange_67 : decode mX0_arrange.2.2.1 67 = .ok (.aload_n 0, 1) := by decide +kernel
theorem d_X0_arrange_68 : decode mX0_arrange.2.2.1 68 = .ok (.iload_n 1, 1) := by decide +kernel
theorem d_X0_arrange_69 : decode mX0_arrange.2.2.1 69 = .ok (.iload_n 2, 1) := by decide +kernel
theorem d_X0_arrange_70 : decode mX0_arrange.2.2.1 70 = .ok (.iload_n 3, 1) := by decide +kernel
theorem d_X0_arrange_71 : decode mX0_arrange.2.2.1 71 = .ok (.invokevirtual 38, 3) := by decide +kernel
def mX0_cost : MD := (0, yX0_cost, cX0_cost, 11, some .int)
theorem sel_X0_cost : Cond.instanceMethod mX0_cost.2.1 ∈ tblG ∧ Cond.selects mX0_cost.2.1.cls mX0_cost.2.1 mX0_cost.2.1 ∈ tblG := ⟨tblG_in (inT6 (List.mem_of_getElem? (i := 139) rfl)) rfl, tblG_in (inP5 (q := (mX0_cost.2.1, 8)) (List.mem_of_getElem? (i := 2) rfl)) rfl⟩
theorem s_0_38 : e_siteV 0 38 mX0_cost 0 := ⟨tblG_in (inT6 (List.mem_of_getElem? (i := 137) rfl)) rfl, sel_X0_cost.1, sel_X0_cost.2, rfl⟩
theorem d_X0_cost_0 : decode mX0_cost.2.2.1 0 = .ok (.aload_n 0, 1) := by decide +kernel
theorem d_X0_cost_1 : decode mX0_cost.2.2.1 1 = .ok (.invokevirtual 56, 3) := by decide +kernel
def mX0_sort : MD := (0, yX0_sort, cX0_sort, 5, none)
theorem sel_X0_sort : Cond.instanceMethod mX0_sort.2.1 ∈ tblG ∧ Cond.selects mX0_sort.2.1.cls mX0_sort.2.1 mX0_sort.2.1 ∈ tblG := ⟨tblG_in (inT6 (List.mem_of_getElem? (i := 143) rfl)) rfl, tblG_in (inP5 (q := (mX0_sort.2.1, 8)) (List.mem_of_getElem? (i := 3) rfl)) rfl⟩
theorem s_0_56 : e_siteV 0 56 mX0_sort 0 := ⟨tblG_in (inT6 (List.mem_of_getElem? (i := 141) rfl)) rfl, sel_X0_sort.1, sel_X0_sort.2, rfl⟩
theorem d_X0_sort_0 : decode mX0_sort.2.2.1 0 = .ok (.iconst 1, 1) := by decide +kernel
theorem d_X0_sort_1 : decode mX0_sort.2.2.1 1 = .ok (.istore_n 1, 1) := by decide +kernel
theorem d_X0_sort_2 : decode mX0_sort.2.2.1 2 = .ok (.iload_n 1, 1) := by decide +kernel
theorem d_X0_sort_3 : decode mX0_sort.2.2.1 3 = .ok (.aload_n 0, 1) := by decide +kernel
theorem d_X0_sort_4 : decode mX0_sort.2.2.1 4 = .ok (.getfield 30, 3) := by decide +kernel
theorem d_X0_sort_7 : decode mX0_sort.2.2.1 7 = .ok (.if_icmp .ge 101, 3) := by decide +kernel
theorem d_X0_sort_108 : decode mX0_sort.2.2.1 108 = .ok (.return_, 1) := by decide +kernel
theorem d_X0_sort_10 : decode mX0_sort.2.2.1 10 = .ok (.aload_n 0, 1) := by decide +kernel
theorem d_X0_sort_11 : decode mX0_sort.2.2.1 11 = .ok (.getfield 24, 3) := by decide +kernel
theorem d_X0_sort_14 : decode mX0_sort.2.2.1 14 = .ok (.iload_n 1, 1) := by decide +kernel
theorem d_X0_sort_15 : decode mX0_sort.2.2.1 15 = .ok (.iaload, 1) := by decide +kernel
theorem d_X0_sort_16 : decode mX0_sort.2.2.1 16 = .ok (.istore_n 2, 1) := by decide +kernel
theorem d_X0_sort_17 : decode mX0_sort.2.2.1 17 = .ok (.aload_n 0, 1) := by decide +kernel
theorem d_X0_sort_18 : decode mX0_sort.2.2.1 18 = .ok (.getfield 11, 3) := by decide +kernel
theorem d_X0_sort_21 : decode mX0_sort.2.2.1 21 = .ok (.iload_n 2, 1) := by decide +kernel
theorem d_X0_sort_22 : decode mX0_sort.2.2.1 22 = .ok (.iaload, 1) := by decide +kernel
theorem d_X0_sort_23 : decode mX0_sort.2.2.1 23 = .ok (.aload_n 0, 1) := by decide +kernel
theorem d_X0_sort_24 : decode mX0_sort.2.2.1 24 = .ok (.getfield 21, 3) := by decide +kernel
theorem d_X0_sort_27 : decode mX0_sort.2.2.1 27 = .ok (.iload_n 2, 1) := by decide +kernel
theorem d_X0_sort_28 : decode mX0_sort.2.2.1 28 = .ok (.iaload, 1) := by decide +kernel
theorem d_X0_sort_29 : decode mX0_sort.2.2.1 29 = .ok (.iadd, 1) := by decide +kernel
theorem d_X0_sort_30 : decode mX0_sort.2.2.1 30 = .ok (.istore_n 3, 1) := by decide +kernel
theorem d_X0_sort_31 : decode mX0_sort.2.2.1 31 = .ok (.iload_n 1, 1) := by decide +kernel
theorem d_X0_sort_32 : decode mX0_sort.2.2.1 32 = .ok (.istore 4, 2) := by decide +kernel
theorem d_X0_sort_34 : decode mX0_sort.2.2.1 34 = .ok (.iload 4, 2) := by decide +kernel
theorem d_X0_sort_36 : decode mX0_sort.2.2.1 36 = .ok (.ifCond .le 58, 3) := by decide +kernel
theorem d_X0_sort_39 : decode mX0_sort.2.2.1 39 = .ok (.aload_n 0, 1) := by decide +kernel
theorem d_X0_sort_40 : decode mX0_sort.2.2.1 40 = .ok (.getfield 11, 3) := by decide +kernel
theorem d_X0_sort_43 : decode mX0_sort.2.2.1 43 = .ok (.aload_n 0, 1) := by decide +kernel
theorem d_X0_sort_44 : decode mX0_sort.2.2.1 44 = .ok (.getfield 24, 3) := by decide +kernel
theorem d_X0_sort_47 : decode mX0_sort.2.2.1 47 = .ok (.iload 4, 2) := by decide +kernel
theorem d_X0_sort_49 : decode mX0_sort.2.2.1 49 = .ok (.iconst 1, 1) := by decide +kernel
theorem d_X0_sort_50 : decode mX0_sort.2.2.1 50 = .ok (.isub, 1) := by decide +kernel
theorem d_X0_sort_51 : decode mX0_sort.2.2.1 51 = .ok (.iaload, 1) := by decide +kernel
theorem d_X0_sort_52 : decode mX0_sort.2.2.1 52 = .ok (.iaload, 1) := by decide +kernel
theorem d_X0_sort_53 : decode mX0_sort.2.2.1 53 = .ok (.aload_n 0, 1) := by decide +kernel
theorem d_X0_sort_54 : decode mX0_sort.2.2.1 54 = .ok (.getfield 21, 3) := by decide +kernel
theorem d_X0_sort_57 : decode mX0_sort.2.2.1 57 = .ok (.aload_n 0, 1) := by decide +kernel
theorem d_X0_sort_58 : decode mX0_sort.2.2.1 58 = .ok (.getfield 24, 3) := by decide +kernel
theorem d_X0_sort_61 : decode mX0_sort.2.2.1 61 = .ok (.iload 4, 2) := by decide +kernel
theorem d_X0_sort_63 : decode mX0_sort.2.2.1 63 = .ok (.iconst 1, 1) := by decide +kernel
theorem d_X0_sort_64 : decode mX0_sort.2.2.1 64 = .ok (.isub, 1) := by decide +kernel
theorem d_X0_sort_65 : decode mX0_sort.2.2.1 65 = .ok (.iaload, 1) := by decide +kernel
theorem d_X0_sort_66 : decode mX0_sort.2.2.1 66 = .ok (.iaload, 1) := by decide +kernel
theorem d_X0_sort_67 : decode mX0_sort.2.2.1 67 = .ok (.iadd, 1) := by decide +kernel
theorem d_X0_sort_68 : decode mX0_sort.2.2.1 68 = .ok (.iload_n 3, 1) := by decide +kernel
theorem d_X0_sort_69 : decode mX0_sort.2.2.1 69 = .ok (.if_icmp .le 25, 3) := by decide +kernel
theorem d_X0_sort_72 : decode mX0_sort.2.2.1 72 = .ok (.aload_n 0, 1) := by decide +kernel
theorem d_X0_sort_73 : decode mX0_sort.2.2.1 73 = .ok (.getfield 24, 3) := by decide +kernel
theorem d_X0_sort_76 : decode mX0_sort.2.2.1 76 = .ok (.iload 4, 2) := by decide +kernel
theorem d_X0_sort_78 : decode mX0_sort.2.2.1 78 = .ok (.aload_n 0, 1) := by decide +kernel
theorem d_X0_sort_79 : decode mX0_sort.2.2.1 79 = .ok (.getfield 24, 3) := by decide +kernel
theorem d_X0_sort_82 : decode mX0_sort.2.2.1 82 = .ok (.iload 4, 2) := by decide +kernel
theorem d_X0_sort_84 : decode mX0_sort.2.2.1 84 = .ok (.iconst 1, 1) := by decide +kernel
theorem d_X0_sort_85 : decode mX0_sort.2.2.1 85 = .ok (.isub, 1) := by decide +kernel
theorem d_X0_sort_86 : decode mX0_sort.2.2.1 86 = .ok (.iaload, 1) := by decide +kernel
theorem d_X0_sort_87 : decode mX0_sort.2.2.1 87 = .ok (.iastore, 1) := by decide +kernel
theorem d_X0_sort_88 : decode mX0_sort.2.2.1 88 = .ok (.iinc 4 (-1), 3) := by decide +kernel
theorem d_X0_sort_91 : decode mX0_sort.2.2.1 91 = .ok (.goto (-57), 3) := by decide +kernel
theorem d_X0_sort_94 : decode mX0_sort.2.2.1 94 = .ok (.aload_n 0, 1) := by decide +kernel
theorem d_X0_sort_95 : decode mX0_sort.2.2.1 95 = .ok (.getfield 24, 3) := by decide +kernel
theorem d_X0_sort_98 : decode mX0_sort.2.2.1 98 = .ok (.iload 4, 2) := by decide +kernel
theorem d_X0_sort_100 : decode mX0_sort.2.2.1 100 = .ok (.iload_n 2, 1) := by decide +kernel
theorem d_X0_sort_101 : decode mX0_sort.2.2.1 101 = .ok (.iastore, 1) := by decide +kernel
theorem d_X0_sort_102 : decode mX0_sort.2.2.1 102 = .ok (.iinc 1 1, 3) := by decide +kernel
theorem d_X0_sort_105 : decode mX0_sort.2.2.1 105 = .ok (.goto (-103), 3) := by decide +kernel
theorem ok_X0_sort : e_m mX0_sort 0 := ⟨tblG_in (inT6 (List.mem_of_getElem? (i := 144) rfl)) rfl, plainFor_of_name (by decide), rfl, ini_0, by decide +kernel, by decide⟩
theorem d_X0_cost_4 : decode mX0_cost.2.2.1 4 = .ok (.iconst 0, 1) := by decide +kernel
theorem d_X0_cost_5 : decode mX0_cost.2.2.1 5 = .ok (.istore 4, 2) := by decide +kernel
theorem d_X0_cost_7 : decode mX0_cost.2.2.1 7 = .ok (.iconst 0, 1) := by decide +kernel
theorem d_X0_cost_8 : decode mX0_cost.2.2.1 8 = .ok (.istore 5, 2) := by decide +kernel
theorem d_X0_cost_10 : decode mX0_cost.2.2.1 10 = .ok (.iconst (-1), 1) := by decide +kernel
theorem d_X0_cost_11 : decode mX0_cost.2.2.1 11 = .ok (.istore 6, 2) := by decide +kernel
theorem d_X0_cost_13 : decode mX0_cost.2.2.1 13 = .ok (.iconst 0, 1) := by decide +kernel
theorem d_X0_cost_14 : decode mX0_cost.2.2.1 14 = .ok (.istore 7, 2) := by decide +kernel
theorem d_X0_cost_16 : decode mX0_cost.2.2.1 16 = .ok (.iload 7, 2) := by decide +kernel
theorem d_X0_cost_18 : decode mX0_cost.2.2.1 18 = .ok (.aload_n 0, 1) := by decide +kernel
theorem d_X0_cost_19 : decode mX0_cost.2.2.1 19 = .ok (.getfield 30, 3) := by decide +kernel
theorem d_X0_cost_22 : decode mX0_cost.2.2.1 22 = .ok (.if_icmp .ge 97, 3) := by decide +kernel
theorem d_X0_cost_119 : decode mX0_cost.2.2.1 119 = .ok (.iload 5, 2) := by decide +kernel
theorem d_X0_cost_121 : decode mX0_cost.2.2.1 121 = .ok (.iload_n 2, 1) := by decide +kernel
theorem d_X0_cost_122 : decode mX0_cost.2.2.1 122 = .ok (.imul, 1) := by decide +kernel
theorem d_X0_cost_123 : decode mX0_cost.2.2.1 123 = .ok (.iload 4, 2) := by decide +kernel
theorem d_X0_cost_125 : decode mX0_cost.2.2.1 125 = .ok (.iload_n 1, 1) := by decide +kernel
theorem d_X0_cost_126 : decode mX0_cost.2.2.1 126 = .ok (.imul, 1) := by decide +kernel
theorem d_X0_cost_127 : decode mX0_cost.2.2.1 127 = .ok (.iadd, 1) := by decide +kernel
theorem d_X0_cost_128 : decode mX0_cost.2.2.1 128 = .ok (.ireturn, 1) := by decide +kernel
theorem d_X0_cost_25 : decode mX0_cost.2.2.1 25 = .ok (.aload_n 0, 1) := by decide +kernel
theorem d_X0_cost_26 : decode mX0_cost.2.2.1 26 = .ok (.getfield 24, 3) := by decide +kernel
theorem d_X0_cost_29 : decode mX0_cost.2.2.1 29 = .ok (.iload 7, 2) := by decide +kernel
theorem d_X0_cost_31 : decode mX0_cost.2.2.1 31 = .ok (.iaload, 1) := by decide +kernel
theorem d_X0_cost_32 : decode mX0_cost.2.2.1 32 = .ok (.istore 8, 2) := by decide +kernel
theorem d_X0_cost_34 : decode mX0_cost.2.2.1 34 = .ok (.aload_n 0, 1) := by decide +kernel
theorem d_X0_cost_35 : decode mX0_cost.2.2.1 35 = .ok (.getfield 11, 3) := by decide +kernel
theorem d_X0_cost_38 : decode mX0_cost.2.2.1 38 = .ok (.iload 8, 2) := by decide +kernel
theorem d_X0_cost_40 : decode mX0_cost.2.2.1 40 = .ok (.iaload, 1) := by decide +kernel
theorem d_X0_cost_41 : decode mX0_cost.2.2.1 41 = .ok (.aload_n 0, 1) := by decide +kernel
theorem d_X0_cost_42 : decode mX0_cost.2.2.1 42 = .ok (.getfield 21, 3) := by decide +kernel
theorem d_X0_cost_45 : decode mX0_cost.2.2.1 45 = .ok (.iload 8, 2) := by decide +kernel
theorem d_X0_cost_47 : decode mX0_cost.2.2.1 47 = .ok (.iaload, 1) := by decide +kernel
theorem d_X0_cost_48 : decode mX0_cost.2.2.1 48 = .ok (.iadd, 1) := by decide +kernel
theorem d_X0_cost_49 : decode mX0_cost.2.2.1 49 = .ok (.istore 9, 2) := by decide +kernel
theorem d_X0_cost_51 : decode mX0_cost.2.2.1 51 = .ok (.iload 9, 2) := by decide +kernel
theorem d_X0_cost_53 : decode mX0_cost.2.2.1 53 = .ok (.aload_n 0, 1) := by decide +kernel
theorem d_X0_cost_54 : decode mX0_cost.2.2.1 54 = .ok (.getfield 15, 3) := by decide +kernel
theorem d_X0_cost_57 : decode mX0_cost.2.2.1 57 = .ok (.iload 8, 2) := by decide +kernel
theorem d_X0_cost_59 : decode mX0_cost.2.2.1 59 = .ok (.iaload, 1) := by decide +kernel
theorem d_X0_cost_60 : decode mX0_cost.2.2.1 60 = .ok (.iadd, 1) := by decide +kernel
theorem d_X0_cost_61 : decode mX0_cost.2.2.1 61 = .ok (.iload_n 3, 1) := by decide +kernel
theorem d_X0_cost_62 : decode mX0_cost.2.2.1 62 = .ok (.iadd, 1) := by decide +kernel
theorem d_X0_cost_63 : decode mX0_cost.2.2.1 63 = .ok (.istore 10, 2) := by decide +kernel
theorem d_X0_cost_65 : decode mX0_cost.2.2.1 65 = .ok (.iload 9, 2) := by decide +kernel
theorem d_X0_cost_67 : decode mX0_cost.2.2.1 67 = .ok (.iload 6, 2) := by decide +kernel
theorem d_X0_cost_69 : decode mX0_cost.2.2.1 69 = .ok (.if_icmp .le 23, 3) := by decide +kernel
theorem d_X0_cost_72 : decode mX0_cost.2.2.1 72 = .ok (.iinc 5 1, 3) := by decide +kernel
theorem d_X0_cost_75 : decode mX0_cost.2.2.1 75 = .ok (.iload 4, 2) := by decide +kernel
theorem d_X0_cost_77 : decode mX0_cost.2.2.1 77 = .ok (.iload 10, 2) := by decide +kernel
theorem d_X0_cost_79 : decode mX0_cost.2.2.1 79 = .ok (.iload 9, 2) := by decide +kernel
theorem d_X0_cost_81 : decode mX0_cost.2.2.1 81 = .ok (.isub, 1) := by decide +kernel
theorem d_X0_cost_82 : decode mX0_cost.2.2.1 82 = .ok (.iadd, 1) := by decide +kernel
theorem d_X0_cost_83 : decode mX0_cost.2.2.1 83 = .ok (.istore 4, 2) := by decide +kernel
theorem d_X0_cost_85 : decode mX0_cost.2.2.1 85 = .ok (.iload 10, 2) := by decide +kernel
theorem d_X0_cost_87 : decode mX0_cost.2.2.1 87 = .ok (.istore 6, 2) := by decide +kernel
theorem d_X0_cost_89 : decode mX0_cost.2.2.1 89 = .ok (.goto 24, 3) := by decide +kernel
theorem d_X0_cost_113 : decode mX0_cost.2.2.1 113 = .ok (.iinc 7 1, 3) := by decide +kernel
theorem d_X0_cost_116 : decode mX0_cost.2.2.1 116 = .ok (.goto (-100), 3) := by decide +kernel
theorem d_X0_cost_92 : decode mX0_cost.2.2.1 92 = .ok (.iload 10, 2) := by decide +kernel
theorem d_X0_cost_94 : decode mX0_cost.2.2.1 94 = .ok (.iload 6, 2) := by decide +kernel
theorem d_X0_cost_96 : decode mX0_cost.2.2.1 96 = .ok (.if_icmp .le 17, 3) := by decide +kernel
theorem d_X0_cost_99 : decode mX0_cost.2.2.1 99 = .ok (.iload 4, 2) := by decide +kernel
theorem d_X0_cost_101 : decode mX0_cost.2.2.1 101 = .ok (.iload 10, 2) := by decide +kernel
theorem d_X0_cost_103 : decode mX0_cost.2.2.1 103 = .ok (.iload 6, 2) := by decide +kernel
theorem d_X0_cost_105 : decode mX0_cost.2.2.1 105 = .ok (.isub, 1) := by decide +kernel
theorem d_X0_cost_106 : decode mX0_cost.2.2.1 106 = .ok (.iadd, 1) := by decide +kernel
theorem d_X0_cost_107 : decode mX0_cost.2.2.1 107 = .ok (.istore 4, 2) := by decide +kernel
theorem d_X0_cost_109 : decode mX0_cost.2.2.1 109 = .ok (.iload 10, 2) := by decide +kernel
theorem d_X0_cost_111 : decode mX0_cost.2.2.1 111 = .ok (.istore 6, 2) := by decide +kernel
theorem ok_X0_cost : e_m mX0_cost 3 := ⟨tblG_in (inT6 (List.mem_of_getElem? (i := 140) rfl)) rfl, plainFor_of_name (by decide), rfl, ini_0, by decide +kernel, by decide⟩
theorem d_X0_arrange_74 : decode mX0_arrange.2.2.1 74 = .ok (.istore 8, 2) := by decide +kernel
theorem d_X0_arrange_76 : decode mX0_arrange.2.2.1 76 = .ok (.aload_n 0, 1) := by decide +kernel
theorem d_X0_arrange_77 : decode mX0_arrange.2.2.1 77 = .ok (.invokevirtual 42, 3) := by decide +kernel
def mX0_shiftSum : MD := (0, yX0_shiftSum, cX0_shiftSum, 3, some .int)
theorem sel_X0_shiftSum : Cond.instanceMethod mX0_shiftSum.2.1 ∈ tblG ∧ Cond.selects mX0_shiftSum.2.1.cls mX0_shiftSum.2.1 mX0_shiftSum.2.1 ∈ tblG := ⟨tblG_in (inT6 (List.mem_of_getElem? (i := 147) rfl)) rfl, tblG_in (inP5 (q := (mX0_shiftSum.2.1, 8)) (List.mem_of_getElem? (i := 4) rfl)) rfl⟩
theorem s_0_42 : e_siteV 0 42 mX0_shiftSum 0 := ⟨tblG_in (inT6 (List.mem_of_getElem? (i := 145) rfl)) rfl, sel_X0_shiftSum.1, sel_X0_shiftSum.2, rfl⟩
theorem d_X0_shiftSum_0 : decode mX0_shiftSum.2.2.1 0 = .ok (.iconst 0, 1) := by decide +kernel
theorem d_X0_shiftSum_1 : decode mX0_shiftSum.2.2.1 1 = .ok (.istore_n 1, 1) := by decide +kernel
theorem d_X0_shiftSum_2 : decode mX0_shiftSum.2.2.1 2 = .ok (.iconst 0, 1) := by decide +kernel
theorem d_X0_shiftSum_3 : decode mX0_shiftSum.2.2.1 3 = .ok (.istore_n 2, 1) := by decide +kernel
theorem d_X0_shiftSum_4 : decode mX0_shiftSum.2.2.1 4 = .ok (.iload_n 2, 1) := by decide +kernel
theorem d_X0_shiftSum_5 : decode mX0_shiftSum.2.2.1 5 = .ok (.aload_n 0, 1) := by decide +kernel
theorem d_X0_shiftSum_6 : decode mX0_shiftSum.2.2.1 6 = .ok (.getfield 30, 3) := by decide +kernel
theorem d_X0_shiftSum_9 : decode mX0_shiftSum.2.2.1 9 = .ok (.if_icmp .ge 18, 3) := by decide +kernel
theorem d_X0_shiftSum_27 : decode mX0_shiftSum.2.2.1 27 = .ok (.iload_n 1, 1) := by decide +kernel
theorem d_X0_shiftSum_28 : decode mX0_shiftSum.2.2.1 28 = .ok (.ireturn, 1) := by decide +kernel
theorem d_X0_shiftSum_12 : decode mX0_shiftSum.2.2.1 12 = .ok (.iload_n 1, 1) := by decide +kernel
theorem d_X0_shiftSum_13 : decode mX0_shiftSum.2.2.1 13 = .ok (.aload_n 0, 1) := by decide +kernel
theorem d_X0_shiftSum_14 : decode mX0_shiftSum.2.2.1 14 = .ok (.getfield 21, 3) := by decide +kernel
theorem d_X0_shiftSum_17 : decode mX0_shiftSum.2.2.1 17 = .ok (.iload_n 2, 1) := by decide +kernel
theorem d_X0_shiftSum_18 : decode mX0_shiftSum.2.2.1 18 = .ok (.iaload, 1) := by decide +kernel
theorem d_X0_shiftSum_19 : decode mX0_shiftSum.2.2.1 19 = .ok (.iadd, 1) := by decide +kernel
theorem d_X0_shiftSum_20 : decode mX0_shiftSum.2.2.1 20 = .ok (.istore_n 1, 1) := by decide +kernel
theorem d_X0_shiftSum_21 : decode mX0_shiftSum.2.2.1 21 = .ok (.iinc 2 1, 3) := by decide +kernel
theorem d_X0_shiftSum_24 : decode mX0_shiftSum.2.2.1 24 = .ok (.goto (-20), 3) := by decide +kernel
theorem ok_X0_shiftSum : e_m mX0_shiftSum 0 := ⟨tblG_in (inT6 (List.mem_of_getElem? (i := 148) rfl)) rfl, plainFor_of_name (by decide), rfl, ini_0, by decide +kernel, by decide⟩
theorem d_X0_arrange_80 : decode mX0_arrange.2.2.1 80 = .ok (.istore 9, 2) := by decide +kernel
theorem d_X0_arrange_82 : decode mX0_arrange.2.2.1 82 = .ok (.iload 7, 2) := by decide +kernel
theorem d_X0_arrange_84 : decode mX0_arrange.2.2.1 84 = .ok (.ifCond .eq 24, 3) := by decide +kernel
theorem d_X0_arrange_108 : decode mX0_arrange.2.2.1 108 = .ok (.iload 8, 2) := by decide +kernel
theorem d_X0_arrange_110 : decode mX0_arrange.2.2.1 110 = .ok (.istore 4, 2) := by decide +kernel
theorem d_X0_arrange_112 : decode mX0_arrange.2.2.1 112 = .ok (.iload 9, 2) := by decide +kernel
theorem d_X0_arrange_114 : decode mX0_arrange.2.2.1 114 = .ok (.istore 5, 2) := by decide +kernel
theorem d_X0_arrange_116 : decode mX0_arrange.2.2.1 116 = .ok (.aload_n 0, 1) := by decide +kernel
theorem d_X0_arrange_117 : decode mX0_arrange.2.2.1 117 = .ok (.getfield 21, 3) := by decide +kernel
theorem d_X0_arrange_120 : decode mX0_arrange.2.2.1 120 = .ok (.iconst 0, 1) := by decide +kernel
theorem d_X0_arrange_121 : decode mX0_arrange.2.2.1 121 = .ok (.aload_n 0, 1) := by decide +kernel
theorem d_X0_arrange_122 : decode mX0_arrange.2.2.1 122 = .ok (.getfield 27, 3) := by decide +kernel
theorem d_X0_arrange_125 : decode mX0_arrange.2.2.1 125 = .ok (.iconst 0, 1) := by decide +kernel
theorem d_X0_arrange_126 : decode mX0_arrange.2.2.1 126 = .ok (.aload_n 0, 1) := by decide +kernel
theorem d_X0_arrange_127 : decode mX0_arrange.2.2.1 127 = .ok (.getfield 30, 3) := by decide +kernel
theorem d_X0_arrange_130 : decode mX0_arrange.2.2.1 130 = .ok (.invokestatic 46, 3) := by decide +kernel
theorem acw : Cond.native arraycopyName ∈ tblG ∧ Cond.static arraycopyName ∈ tblG ∧ Cond.initialized "java/lang/System" ∈ tblG := ⟨tblG_in (inT4 (List.mem_of_getElem? (i := 193) rfl)) rfl, tblG_in (inT4 (List.mem_of_getElem? (i := 192) rfl)) rfl, tblG_in (inT1 (List.mem_of_getElem? (i := 21) rfl)) rfl⟩
theorem ac_0_46 : Cond.methodLink (e_cn 0) 46 arraycopyName ∈ tblG := tblG_in (inT6 (List.mem_of_getElem? (i := 149) rfl)) rfl
theorem d_X0_arrange_133 : decode mX0_arrange.2.2.1 133 = .ok (.aload_n 0, 1) := by decide +kernel
theorem d_X0_arrange_134 : decode mX0_arrange.2.2.1 134 = .ok (.invokevirtual 52, 3) := by decide +kernel
def mX0_turnOn : MD := (0, yX0_turnOn, cX0_turnOn, 2, some .boolean)
theorem sel_X0_turnOn : Cond.instanceMethod mX0_turnOn.2.1 ∈ tblG ∧ Cond.selects mX0_turnOn.2.1.cls mX0_turnOn.2.1 mX0_turnOn.2.1 ∈ tblG := ⟨tblG_in (inT6 (List.mem_of_getElem? (i := 152) rfl)) rfl, tblG_in (inP5 (q := (mX0_turnOn.2.1, 8)) (List.mem_of_getElem? (i := 5) rfl)) rfl⟩
theorem s_0_52 : e_siteV 0 52 mX0_turnOn 0 := ⟨tblG_in (inT6 (List.mem_of_getElem? (i := 150) rfl)) rfl, sel_X0_turnOn.1, sel_X0_turnOn.2, rfl⟩
theorem d_X0_turnOn_0 : decode mX0_turnOn.2.2.1 0 = .ok (.aload_n 0, 1) := by decide +kernel
theorem d_X0_turnOn_1 : decode mX0_turnOn.2.2.1 1 = .ok (.getfield 30, 3) := by decide +kernel
theorem d_X0_turnOn_4 : decode mX0_turnOn.2.2.1 4 = .ok (.iconst 1, 1) := by decide +kernel
theorem d_X0_turnOn_5 : decode mX0_turnOn.2.2.1 5 = .ok (.isub, 1) := by decide +kernel
theorem d_X0_turnOn_6 : decode mX0_turnOn.2.2.1 6 = .ok (.istore_n 1, 1) := by decide +kernel
theorem d_X0_turnOn_7 : decode mX0_turnOn.2.2.1 7 = .ok (.iload_n 1, 1) := by decide +kernel
theorem d_X0_turnOn_8 : decode mX0_turnOn.2.2.1 8 = .ok (.ifCond .lt 43, 3) := by decide +kernel
end
/-! 25.06 -/
section
theorem d_X0_turnOn_51 : decode mX0_turnOn.2.2.1 51 = .ok (.iconst 0, 1) := by decide +kernel
theorem d_X0_turnOn_52 : decode mX0_turnOn.2.2.1 52 = .ok (.ireturn, 1) := by decide +kernel
theorem d_X0_turnOn_11 : decode mX0_turnOn.2.2.1 11 = .ok (.aload_n 0, 1) := by decide +kernel
theorem d_X0_turnOn_12 : decode mX0_turnOn.2.2.1 12 = .ok (.getfield 21, 3) := by decide +kernel
theorem d_X0_turnOn_15 : decode mX0_turnOn.2.2.1 15 = .ok (.iload_n 1, 1) := by decide +kernel
theorem d_X0_turnOn_16 : decode mX0_turnOn.2.2.1 16 = .ok (.iaload, 1) := by decide +kernel
theorem d_X0_turnOn_17 : decode mX0_turnOn.2.2.1 17 = .ok (.aload_n 0, 1) := by decide +kernel
theorem d_X0_turnOn_18 : decode mX0_turnOn.2.2.1 18 = .ok (.getfield 18, 3) := by decide +kernel
theorem d_X0_turnOn_21 : decode mX0_turnOn.2.2.1 21 = .ok (.iload_n 1, 1) := by decide +kernel
theorem d_X0_turnOn_22 : decode mX0_turnOn.2.2.1 22 = .ok (.iaload, 1) := by decide +kernel
theorem d_X0_turnOn_23 : decode mX0_turnOn.2.2.1 23 = .ok (.if_icmp .ge 15, 3) := by decide +kernel
theorem d_X0_turnOn_38 : decode mX0_turnOn.2.2.1 38 = .ok (.aload_n 0, 1) := by decide +kernel
theorem d_X0_turnOn_39 : decode mX0_turnOn.2.2.1 39 = .ok (.getfield 21, 3) := by decide +kernel
theorem d_X0_turnOn_42 : decode mX0_turnOn.2.2.1 42 = .ok (.iload_n 1, 1) := by decide +kernel
theorem d_X0_turnOn_43 : decode mX0_turnOn.2.2.1 43 = .ok (.iconst 0, 1) := by decide +kernel
theorem d_X0_turnOn_44 : decode mX0_turnOn.2.2.1 44 = .ok (.iastore, 1) := by decide +kernel
theorem d_X0_turnOn_45 : decode mX0_turnOn.2.2.1 45 = .ok (.iinc 1 (-1), 3) := by decide +kernel
theorem d_X0_turnOn_48 : decode mX0_turnOn.2.2.1 48 = .ok (.goto (-41), 3) := by decide +kernel
theorem d_X0_turnOn_26 : decode mX0_turnOn.2.2.1 26 = .ok (.aload_n 0, 1) := by decide +kernel
theorem d_X0_turnOn_27 : decode mX0_turnOn.2.2.1 27 = .ok (.getfield 21, 3) := by decide +kernel
theorem d_X0_turnOn_30 : decode mX0_turnOn.2.2.1 30 = .ok (.iload_n 1, 1) := by decide +kernel
theorem d_X0_turnOn_31 : decode mX0_turnOn.2.2.1 31 = .ok (.dup2, 1) := by decide +kernel
theorem d_X0_turnOn_32 : decode mX0_turnOn.2.2.1 32 = .ok (.iaload, 1) := by decide +kernel
theorem d_X0_turnOn_33 : decode mX0_turnOn.2.2.1 33 = .ok (.iconst 1, 1) := by decide +kernel
theorem d_X0_turnOn_34 : decode mX0_turnOn.2.2.1 34 = .ok (.iadd, 1) := by decide +kernel
theorem d_X0_turnOn_35 : decode mX0_turnOn.2.2.1 35 = .ok (.iastore, 1) := by decide +kernel
theorem d_X0_turnOn_36 : decode mX0_turnOn.2.2.1 36 = .ok (.iconst 1, 1) := by decide +kernel
theorem d_X0_turnOn_37 : decode mX0_turnOn.2.2.1 37 = .ok (.ireturn, 1) := by decide +kernel
theorem ok_X0_turnOn : e_m mX0_turnOn 0 := ⟨tblG_in (inT6 (List.mem_of_getElem? (i := 153) rfl)) rfl, plainFor_of_name (by decide), rfl, ini_0, by decide +kernel, by decide⟩
theorem d_X0_arrange_137 : decode mX0_arrange.2.2.1 137 = .ok (.istore 6, 2) := by decide +kernel
theorem d_X0_arrange_139 : decode mX0_arrange.2.2.1 139 = .ok (.iinc 7 1, 3) := by decide +kernel
theorem d_X0_arrange_142 : decode mX0_arrange.2.2.1 142 = .ok (.goto (-87), 3) := by decide +kernel
theorem d_X0_arrange_145 : decode mX0_arrange.2.2.1 145 = .ok (.iload 4, 2) := by decide +kernel
theorem d_X0_arrange_147 : decode mX0_arrange.2.2.1 147 = .ok (.ireturn, 1) := by decide +kernel
theorem d_X0_arrange_87 : decode mX0_arrange.2.2.1 87 = .ok (.iload 8, 2) := by decide +kernel
theorem d_X0_arrange_89 : decode mX0_arrange.2.2.1 89 = .ok (.iload 4, 2) := by decide +kernel
theorem d_X0_arrange_91 : decode mX0_arrange.2.2.1 91 = .ok (.if_icmp .lt 17, 3) := by decide +kernel
theorem d_X0_arrange_94 : decode mX0_arrange.2.2.1 94 = .ok (.iload 8, 2) := by decide +kernel
theorem d_X0_arrange_96 : decode mX0_arrange.2.2.1 96 = .ok (.iload 4, 2) := by decide +kernel
theorem d_X0_arrange_98 : decode mX0_arrange.2.2.1 98 = .ok (.if_icmp .ne 35, 3) := by decide +kernel
theorem d_X0_arrange_101 : decode mX0_arrange.2.2.1 101 = .ok (.iload 9, 2) := by decide +kernel
theorem d_X0_arrange_103 : decode mX0_arrange.2.2.1 103 = .ok (.iload 5, 2) := by decide +kernel
theorem d_X0_arrange_105 : decode mX0_arrange.2.2.1 105 = .ok (.if_icmp .ge 28, 3) := by decide +kernel
theorem ok_X0_arrange : e_m mX0_arrange 3 := ⟨tblG_in (inT6 (List.mem_of_getElem? (i := 135) rfl)) rfl, plainFor_of_name (by decide), rfl, ini_0, by decide +kernel, by decide⟩
theorem d_X11_together_57 : decode mX11_together.2.2.1 57 = .ok (.ireturn, 1) := by decide +kernel
def mX11_later : MD := (11, yX11_later, cX11_later, 2, some .int)
theorem d_X11_later_0 : decode mX11_later.2.2.1 0 = .ok (.iload_n 1, 1) := by decide +kernel
theorem d_X11_later_1 : decode mX11_later.2.2.1 1 = .ok (.ifCond .lt 14, 3) := by decide +kernel
theorem d_X11_later_15 : decode mX11_later.2.2.1 15 = .ok (.iconst (-1), 1) := by decide +kernel
theorem d_X11_later_16 : decode mX11_later.2.2.1 16 = .ok (.ireturn, 1) := by decide +kernel
theorem d_X11_later_4 : decode mX11_later.2.2.1 4 = .ok (.iload_n 1, 1) := by decide +kernel
theorem d_X11_later_5 : decode mX11_later.2.2.1 5 = .ok (.aload_n 0, 1) := by decide +kernel
theorem d_X11_later_6 : decode mX11_later.2.2.1 6 = .ok (.getfield 77, 3) := by decide +kernel
theorem d_X11_later_9 : decode mX11_later.2.2.1 9 = .ok (.getfield 301, 3) := by decide +kernel
theorem f_11_301 : e_fld 11 301 0 7 8 0 false := ⟨RX0, TX0, 7, rfl, rfl, by decide, rfl, rfl, rfl, iX0, tblG_in (inT3 (List.mem_of_getElem? (i := 19) rfl)) rfl, tyX0_ok, nmX0⟩
theorem d_X11_later_12 : decode mX11_later.2.2.1 12 = .ok (.if_icmp .lt 5, 3) := by decide +kernel
theorem d_X11_later_17 : decode mX11_later.2.2.1 17 = .ok (.aload_n 0, 1) := by decide +kernel
theorem d_X11_later_18 : decode mX11_later.2.2.1 18 = .ok (.getfield 77, 3) := by decide +kernel
theorem d_X11_later_21 : decode mX11_later.2.2.1 21 = .ok (.getfield 304, 3) := by decide +kernel
theorem f_11_304 : e_fld 11 304 0 6 8 2 true := ⟨RX0, TX0, 6, rfl, rfl, by decide, rfl, rfl, rfl, iX0, tblG_in (inT3 (List.mem_of_getElem? (i := 17) rfl)) rfl, tyX0_ok, nmX0⟩
theorem d_X11_later_24 : decode mX11_later.2.2.1 24 = .ok (.iload_n 1, 1) := by decide +kernel
theorem d_X11_later_25 : decode mX11_later.2.2.1 25 = .ok (.iaload, 1) := by decide +kernel
theorem d_X11_later_26 : decode mX11_later.2.2.1 26 = .ok (.ireturn, 1) := by decide +kernel
def mX11_never : MD := (11, yX11_never, cX11_never, 1, some .int)
theorem d_X11_never_0 : decode mX11_never.2.2.1 0 = .ok (.aload_n 0, 1) := by decide +kernel
theorem d_X11_never_1 : decode mX11_never.2.2.1 1 = .ok (.getfield 30, 3) := by decide +kernel
theorem d_X11_never_4 : decode mX11_never.2.2.1 4 = .ok (.getfield 115, 3) := by decide +kernel
theorem d_X11_never_7 : decode mX11_never.2.2.1 7 = .ok (.invokevirtual 307, 3) := by decide +kernel
def mX4_heldAtEnd : MD := (4, yX4_heldAtEnd, cX4_heldAtEnd, 7, some .int)
theorem sel_X4_heldAtEnd : Cond.instanceMethod mX4_heldAtEnd.2.1 ∈ tblG ∧ Cond.selects mX4_heldAtEnd.2.1.cls mX4_heldAtEnd.2.1 mX4_heldAtEnd.2.1 ∈ tblG := ⟨tblG_in (inT6 (List.mem_of_getElem? (i := 163) rfl)) rfl, tblG_in (inT6 (List.mem_of_getElem? (i := 164) rfl)) rfl⟩
theorem s_11_307 : e_siteV 11 307 mX4_heldAtEnd 4 := ⟨tblG_in (inT6 (List.mem_of_getElem? (i := 162) rfl)) rfl, sel_X4_heldAtEnd.1, sel_X4_heldAtEnd.2, rfl⟩
theorem d_X4_heldAtEnd_0 : decode mX4_heldAtEnd.2.2.1 0 = .ok (.aload_n 0, 1) := by decide +kernel
theorem d_X4_heldAtEnd_1 : decode mX4_heldAtEnd.2.2.1 1 = .ok (.getfield 42, 3) := by decide +kernel
theorem d_X4_heldAtEnd_4 : decode mX4_heldAtEnd.2.2.1 4 = .ok (.iconst 0, 1) := by decide +kernel
theorem d_X4_heldAtEnd_5 : decode mX4_heldAtEnd.2.2.1 5 = .ok (.invokestatic 58, 3) := by decide +kernel
theorem s_4_58 : e_siteS 4 58 mJ7_fill_53178 := ⟨tblG_in (inT6 (List.mem_of_getElem? (i := 166) rfl)) rfl, tblG_in (inT3 (List.mem_of_getElem? (i := 42) rfl)) rfl⟩
theorem d_X4_heldAtEnd_8 : decode mX4_heldAtEnd.2.2.1 8 = .ok (.iconst 1, 1) := by decide +kernel
theorem d_X4_heldAtEnd_9 : decode mX4_heldAtEnd.2.2.1 9 = .ok (.istore_n 1, 1) := by decide +kernel
theorem d_X4_heldAtEnd_10 : decode mX4_heldAtEnd.2.2.1 10 = .ok (.iconst 0, 1) := by decide +kernel
theorem d_X4_heldAtEnd_11 : decode mX4_heldAtEnd.2.2.1 11 = .ok (.istore_n 2, 1) := by decide +kernel
theorem d_X4_heldAtEnd_12 : decode mX4_heldAtEnd.2.2.1 12 = .ok (.iload_n 2, 1) := by decide +kernel
theorem d_X4_heldAtEnd_13 : decode mX4_heldAtEnd.2.2.1 13 = .ok (.sipush 366, 3) := by decide +kernel
theorem d_X4_heldAtEnd_16 : decode mX4_heldAtEnd.2.2.1 16 = .ok (.if_icmp .gt 86, 3) := by decide +kernel
theorem d_X4_heldAtEnd_19 : decode mX4_heldAtEnd.2.2.1 19 = .ok (.iload_n 1, 1) := by decide +kernel
theorem d_X4_heldAtEnd_20 : decode mX4_heldAtEnd.2.2.1 20 = .ok (.ifCond .eq 82, 3) := by decide +kernel
theorem d_X4_heldAtEnd_23 : decode mX4_heldAtEnd.2.2.1 23 = .ok (.iconst 0, 1) := by decide +kernel
theorem d_X4_heldAtEnd_24 : decode mX4_heldAtEnd.2.2.1 24 = .ok (.istore_n 1, 1) := by decide +kernel
theorem d_X4_heldAtEnd_25 : decode mX4_heldAtEnd.2.2.1 25 = .ok (.iconst 0, 1) := by decide +kernel
theorem d_X4_heldAtEnd_26 : decode mX4_heldAtEnd.2.2.1 26 = .ok (.istore_n 3, 1) := by decide +kernel
theorem d_X4_heldAtEnd_27 : decode mX4_heldAtEnd.2.2.1 27 = .ok (.iload_n 3, 1) := by decide +kernel
theorem d_X4_heldAtEnd_28 : decode mX4_heldAtEnd.2.2.1 28 = .ok (.aload_n 0, 1) := by decide +kernel
theorem d_X4_heldAtEnd_29 : decode mX4_heldAtEnd.2.2.1 29 = .ok (.getfield 45, 3) := by decide +kernel
theorem d_X4_heldAtEnd_32 : decode mX4_heldAtEnd.2.2.1 32 = .ok (.if_icmp .ge 64, 3) := by decide +kernel
theorem d_X4_heldAtEnd_96 : decode mX4_heldAtEnd.2.2.1 96 = .ok (.iinc 2 1, 3) := by decide +kernel
theorem d_X4_heldAtEnd_99 : decode mX4_heldAtEnd.2.2.1 99 = .ok (.goto (-87), 3) := by decide +kernel
theorem d_X4_heldAtEnd_35 : decode mX4_heldAtEnd.2.2.1 35 = .ok (.aload_n 0, 1) := by decide +kernel
theorem d_X4_heldAtEnd_36 : decode mX4_heldAtEnd.2.2.1 36 = .ok (.iload_n 3, 1) := by decide +kernel
theorem d_X4_heldAtEnd_37 : decode mX4_heldAtEnd.2.2.1 37 = .ok (.invokevirtual 64, 3) := by decide +kernel
def mX4_heldBehind : MD := (4, yX4_heldBehind, cX4_heldBehind, 3, some .int)
theorem sel_X4_heldBehind : Cond.instanceMethod mX4_heldBehind.2.1 ∈ tblG ∧ Cond.selects mX4_heldBehind.2.1.cls mX4_heldBehind.2.1 mX4_heldBehind.2.1 ∈ tblG := ⟨tblG_in (inT6 (List.mem_of_getElem? (i := 169) rfl)) rfl, tblG_in (inP5 (q := (mX4_heldBehind.2.1, 13)) (List.mem_of_getElem? (i := 6) rfl)) rfl⟩
theorem s_4_64 : e_siteV 4 64 mX4_heldBehind 4 := ⟨tblG_in (inT6 (List.mem_of_getElem? (i := 167) rfl)) rfl, sel_X4_heldBehind.1, sel_X4_heldBehind.2, rfl⟩
theorem d_X4_heldBehind_0 : decode mX4_heldBehind.2.2.1 0 = .ok (.iconst 1, 1) := by decide +kernel
theorem d_X4_heldBehind_1 : decode mX4_heldBehind.2.2.1 1 = .ok (.aload_n 0, 1) := by decide +kernel
theorem d_X4_heldBehind_2 : decode mX4_heldBehind.2.2.1 2 = .ok (.getfield 15, 3) := by decide +kernel
theorem d_X4_heldBehind_5 : decode mX4_heldBehind.2.2.1 5 = .ok (.iload_n 1, 1) := by decide +kernel
theorem d_X4_heldBehind_6 : decode mX4_heldBehind.2.2.1 6 = .ok (.iaload, 1) := by decide +kernel
theorem d_X4_heldBehind_7 : decode mX4_heldBehind.2.2.1 7 = .ok (.ishl, 1) := by decide +kernel
theorem d_X4_heldBehind_8 : decode mX4_heldBehind.2.2.1 8 = .ok (.istore_n 2, 1) := by decide +kernel
theorem d_X4_heldBehind_9 : decode mX4_heldBehind.2.2.1 9 = .ok (.aload_n 0, 1) := by decide +kernel
theorem d_X4_heldBehind_10 : decode mX4_heldBehind.2.2.1 10 = .ok (.getfield 9, 3) := by decide +kernel
theorem d_X4_heldBehind_13 : decode mX4_heldBehind.2.2.1 13 = .ok (.iload_n 1, 1) := by decide +kernel
theorem d_X4_heldBehind_14 : decode mX4_heldBehind.2.2.1 14 = .ok (.iaload, 1) := by decide +kernel
theorem d_X4_heldBehind_15 : decode mX4_heldBehind.2.2.1 15 = .ok (.bipush 7, 2) := by decide +kernel
theorem d_X4_heldBehind_17 : decode mX4_heldBehind.2.2.1 17 = .ok (.if_icmp .ne 12, 3) := by decide +kernel
theorem d_X4_heldBehind_29 : decode mX4_heldBehind.2.2.1 29 = .ok (.aload_n 0, 1) := by decide +kernel
theorem d_X4_heldBehind_30 : decode mX4_heldBehind.2.2.1 30 = .ok (.getfield 9, 3) := by decide +kernel
theorem d_X4_heldBehind_33 : decode mX4_heldBehind.2.2.1 33 = .ok (.iload_n 1, 1) := by decide +kernel
theorem d_X4_heldBehind_34 : decode mX4_heldBehind.2.2.1 34 = .ok (.iaload, 1) := by decide +kernel
theorem d_X4_heldBehind_35 : decode mX4_heldBehind.2.2.1 35 = .ok (.bipush 8, 2) := by decide +kernel
theorem d_X4_heldBehind_37 : decode mX4_heldBehind.2.2.1 37 = .ok (.if_icmp .ne 16, 3) := by decide +kernel
theorem d_X4_heldBehind_53 : decode mX4_heldBehind.2.2.1 53 = .ok (.aload_n 0, 1) := by decide +kernel
theorem d_X4_heldBehind_54 : decode mX4_heldBehind.2.2.1 54 = .ok (.getfield 42, 3) := by decide +kernel
theorem d_X4_heldBehind_57 : decode mX4_heldBehind.2.2.1 57 = .ok (.iload_n 1, 1) := by decide +kernel
theorem d_X4_heldBehind_58 : decode mX4_heldBehind.2.2.1 58 = .ok (.iaload, 1) := by decide +kernel
theorem d_X4_heldBehind_59 : decode mX4_heldBehind.2.2.1 59 = .ok (.ireturn, 1) := by decide +kernel
theorem d_X4_heldBehind_40 : decode mX4_heldBehind.2.2.1 40 = .ok (.aload_n 0, 1) := by decide +kernel
theorem d_X4_heldBehind_41 : decode mX4_heldBehind.2.2.1 41 = .ok (.getfield 42, 3) := by decide +kernel
theorem d_X4_heldBehind_44 : decode mX4_heldBehind.2.2.1 44 = .ok (.iload_n 1, 1) := by decide +kernel
theorem d_X4_heldBehind_45 : decode mX4_heldBehind.2.2.1 45 = .ok (.iaload, 1) := by decide +kernel
theorem d_X4_heldBehind_46 : decode mX4_heldBehind.2.2.1 46 = .ok (.iload_n 2, 1) := by decide +kernel
theorem d_X4_heldBehind_47 : decode mX4_heldBehind.2.2.1 47 = .ok (.iconst (-1), 1) := by decide +kernel
theorem d_X4_heldBehind_48 : decode mX4_heldBehind.2.2.1 48 = .ok (.ixor, 1) := by decide +kernel
theorem d_X4_heldBehind_49 : decode mX4_heldBehind.2.2.1 49 = .ok (.iand, 1) := by decide +kernel
theorem d_X4_heldBehind_50 : decode mX4_heldBehind.2.2.1 50 = .ok (.goto 9, 3) := by decide +kernel
theorem d_X4_heldBehind_20 : decode mX4_heldBehind.2.2.1 20 = .ok (.aload_n 0, 1) := by decide +kernel
theorem d_X4_heldBehind_21 : decode mX4_heldBehind.2.2.1 21 = .ok (.getfield 42, 3) := by decide +kernel
theorem d_X4_heldBehind_24 : decode mX4_heldBehind.2.2.1 24 = .ok (.iload_n 1, 1) := by decide +kernel
theorem d_X4_heldBehind_25 : decode mX4_heldBehind.2.2.1 25 = .ok (.iaload, 1) := by decide +kernel
theorem d_X4_heldBehind_26 : decode mX4_heldBehind.2.2.1 26 = .ok (.iload_n 2, 1) := by decide +kernel
theorem d_X4_heldBehind_27 : decode mX4_heldBehind.2.2.1 27 = .ok (.ior, 1) := by decide +kernel
theorem d_X4_heldBehind_28 : decode mX4_heldBehind.2.2.1 28 = .ok (.ireturn, 1) := by decide +kernel
theorem ok_X4_heldBehind : e_m mX4_heldBehind 1 := ⟨tblG_in (inT6 (List.mem_of_getElem? (i := 170) rfl)) rfl, plainFor_of_name (by decide), rfl, ini_4, by decide +kernel, by decide⟩
theorem d_X4_heldAtEnd_40 : decode mX4_heldAtEnd.2.2.1 40 = .ok (.istore 4, 2) := by decide +kernel
theorem d_X4_heldAtEnd_42 : decode mX4_heldAtEnd.2.2.1 42 = .ok (.aload_n 0, 1) := by decide +kernel
theorem d_X4_heldAtEnd_43 : decode mX4_heldAtEnd.2.2.1 43 = .ok (.aload_n 0, 1) := by decide +kernel
theorem d_X4_heldAtEnd_44 : decode mX4_heldAtEnd.2.2.1 44 = .ok (.getfield 21, 3) := by decide +kernel
theorem d_X4_heldAtEnd_47 : decode mX4_heldAtEnd.2.2.1 47 = .ok (.iload_n 3, 1) := by decide +kernel
theorem d_X4_heldAtEnd_48 : decode mX4_heldAtEnd.2.2.1 48 = .ok (.iaload, 1) := by decide +kernel
theorem d_X4_heldAtEnd_49 : decode mX4_heldAtEnd.2.2.1 49 = .ok (.iload 4, 2) := by decide +kernel
theorem d_X4_heldAtEnd_51 : decode mX4_heldAtEnd.2.2.1 51 = .ok (.invokevirtual 67, 3) := by decide +kernel
def mX4_spread : MD := (4, yX4_spread, cX4_spread, 3, some .boolean)
theorem sel_X4_spread : Cond.instanceMethod mX4_spread.2.1 ∈ tblG ∧ Cond.selects mX4_spread.2.1.cls mX4_spread.2.1 mX4_spread.2.1 ∈ tblG := ⟨tblG_in (inT6 (List.mem_of_getElem? (i := 173) rfl)) rfl, tblG_in (inP5 (q := (mX4_spread.2.1, 13)) (List.mem_of_getElem? (i := 7) rfl)) rfl⟩
theorem s_4_67 : e_siteV 4 67 mX4_spread 4 := ⟨tblG_in (inT6 (List.mem_of_getElem? (i := 171) rfl)) rfl, sel_X4_spread.1, sel_X4_spread.2, rfl⟩
theorem d_X4_spread_0 : decode mX4_spread.2.2.1 0 = .ok (.iload_n 1, 1) := by decide +kernel
theorem d_X4_spread_1 : decode mX4_spread.2.2.1 1 = .ok (.ifCond .lt 28, 3) := by decide +kernel
theorem d_X4_spread_29 : decode mX4_spread.2.2.1 29 = .ok (.iconst 0, 1) := by decide +kernel
theorem d_X4_spread_30 : decode mX4_spread.2.2.1 30 = .ok (.ireturn, 1) := by decide +kernel
theorem d_X4_spread_4 : decode mX4_spread.2.2.1 4 = .ok (.iload_n 1, 1) := by decide +kernel
theorem d_X4_spread_5 : decode mX4_spread.2.2.1 5 = .ok (.aload_n 0, 1) := by decide +kernel
theorem d_X4_spread_6 : decode mX4_spread.2.2.1 6 = .ok (.getfield 45, 3) := by decide +kernel
theorem d_X4_spread_9 : decode mX4_spread.2.2.1 9 = .ok (.if_icmp .gt 20, 3) := by decide +kernel
theorem d_X4_spread_12 : decode mX4_spread.2.2.1 12 = .ok (.aload_n 0, 1) := by decide +kernel
theorem d_X4_spread_13 : decode mX4_spread.2.2.1 13 = .ok (.getfield 42, 3) := by decide +kernel
theorem d_X4_spread_16 : decode mX4_spread.2.2.1 16 = .ok (.iload_n 1, 1) := by decide +kernel
theorem d_X4_spread_17 : decode mX4_spread.2.2.1 17 = .ok (.iaload, 1) := by decide +kernel
theorem d_X4_spread_18 : decode mX4_spread.2.2.1 18 = .ok (.iload_n 2, 1) := by decide +kernel
theorem d_X4_spread_19 : decode mX4_spread.2.2.1 19 = .ok (.ior, 1) := by decide +kernel
theorem d_X4_spread_20 : decode mX4_spread.2.2.1 20 = .ok (.aload_n 0, 1) := by decide +kernel
theorem d_X4_spread_21 : decode mX4_spread.2.2.1 21 = .ok (.getfield 42, 3) := by decide +kernel
theorem d_X4_spread_24 : decode mX4_spread.2.2.1 24 = .ok (.iload_n 1, 1) := by decide +kernel
theorem d_X4_spread_25 : decode mX4_spread.2.2.1 25 = .ok (.iaload, 1) := by decide +kernel
theorem d_X4_spread_26 : decode mX4_spread.2.2.1 26 = .ok (.if_icmp .ne 5, 3) := by decide +kernel
theorem d_X4_spread_31 : decode mX4_spread.2.2.1 31 = .ok (.aload_n 0, 1) := by decide +kernel
theorem d_X4_spread_32 : decode mX4_spread.2.2.1 32 = .ok (.getfield 42, 3) := by decide +kernel
theorem d_X4_spread_35 : decode mX4_spread.2.2.1 35 = .ok (.iload_n 1, 1) := by decide +kernel
theorem d_X4_spread_36 : decode mX4_spread.2.2.1 36 = .ok (.dup2, 1) := by decide +kernel
theorem d_X4_spread_37 : decode mX4_spread.2.2.1 37 = .ok (.iaload, 1) := by decide +kernel
theorem d_X4_spread_38 : decode mX4_spread.2.2.1 38 = .ok (.iload_n 2, 1) := by decide +kernel
theorem d_X4_spread_39 : decode mX4_spread.2.2.1 39 = .ok (.ior, 1) := by decide +kernel
theorem d_X4_spread_40 : decode mX4_spread.2.2.1 40 = .ok (.iastore, 1) := by decide +kernel
theorem d_X4_spread_41 : decode mX4_spread.2.2.1 41 = .ok (.iconst 1, 1) := by decide +kernel
theorem d_X4_spread_42 : decode mX4_spread.2.2.1 42 = .ok (.ireturn, 1) := by decide +kernel
theorem ok_X4_spread : e_m mX4_spread 2 := ⟨tblG_in (inT6 (List.mem_of_getElem? (i := 174) rfl)) rfl, plainFor_of_name (by decide), rfl, ini_4, by decide +kernel, by decide⟩
theorem d_X4_heldAtEnd_54 : decode mX4_heldAtEnd.2.2.1 54 = .ok (.istore 5, 2) := by decide +kernel
theorem d_X4_heldAtEnd_56 : decode mX4_heldAtEnd.2.2.1 56 = .ok (.aload_n 0, 1) := by decide +kernel
theorem d_X4_heldAtEnd_57 : decode mX4_heldAtEnd.2.2.1 57 = .ok (.aload_n 0, 1) := by decide +kernel
theorem d_X4_heldAtEnd_58 : decode mX4_heldAtEnd.2.2.1 58 = .ok (.getfield 24, 3) := by decide +kernel
theorem d_X4_heldAtEnd_61 : decode mX4_heldAtEnd.2.2.1 61 = .ok (.iload_n 3, 1) := by decide +kernel
theorem d_X4_heldAtEnd_62 : decode mX4_heldAtEnd.2.2.1 62 = .ok (.iaload, 1) := by decide +kernel
theorem d_X4_heldAtEnd_63 : decode mX4_heldAtEnd.2.2.1 63 = .ok (.iload 4, 2) := by decide +kernel
theorem d_X4_heldAtEnd_65 : decode mX4_heldAtEnd.2.2.1 65 = .ok (.invokevirtual 67, 3) := by decide +kernel
theorem d_X4_heldAtEnd_68 : decode mX4_heldAtEnd.2.2.1 68 = .ok (.istore 6, 2) := by decide +kernel
theorem d_X4_heldAtEnd_70 : decode mX4_heldAtEnd.2.2.1 70 = .ok (.iload_n 1, 1) := by decide +kernel
theorem d_X4_heldAtEnd_71 : decode mX4_heldAtEnd.2.2.1 71 = .ok (.ifCond .ne 13, 3) := by decide +kernel
theorem d_X4_heldAtEnd_74 : decode mX4_heldAtEnd.2.2.1 74 = .ok (.iload 5, 2) := by decide +kernel
theorem d_X4_heldAtEnd_76 : decode mX4_heldAtEnd.2.2.1 76 = .ok (.ifCond .ne 8, 3) := by decide +kernel
theorem d_X4_heldAtEnd_79 : decode mX4_heldAtEnd.2.2.1 79 = .ok (.iload 6, 2) := by decide +kernel
theorem d_X4_heldAtEnd_81 : decode mX4_heldAtEnd.2.2.1 81 = .ok (.ifCond .eq 7, 3) := by decide +kernel
theorem d_X4_heldAtEnd_88 : decode mX4_heldAtEnd.2.2.1 88 = .ok (.iconst 0, 1) := by decide +kernel
theorem d_X4_heldAtEnd_102 : decode mX4_heldAtEnd.2.2.1 102 = .ok (.aload_n 0, 1) := by decide +kernel
theorem d_X4_heldAtEnd_103 : decode mX4_heldAtEnd.2.2.1 103 = .ok (.getfield 42, 3) := by decide +kernel
theorem d_X4_heldAtEnd_106 : decode mX4_heldAtEnd.2.2.1 106 = .ok (.aload_n 0, 1) := by decide +kernel
theorem d_X4_heldAtEnd_107 : decode mX4_heldAtEnd.2.2.1 107 = .ok (.getfield 45, 3) := by decide +kernel
theorem d_X4_heldAtEnd_110 : decode mX4_heldAtEnd.2.2.1 110 = .ok (.iaload, 1) := by decide +kernel
theorem d_X4_heldAtEnd_111 : decode mX4_heldAtEnd.2.2.1 111 = .ok (.ireturn, 1) := by decide +kernel
theorem d_X4_heldAtEnd_84 : decode mX4_heldAtEnd.2.2.1 84 = .ok (.iconst 1, 1) := by decide +kernel
theorem d_X4_heldAtEnd_85 : decode mX4_heldAtEnd.2.2.1 85 = .ok (.goto 4, 3) := by decide +kernel
theorem d_X4_heldAtEnd_89 : decode mX4_heldAtEnd.2.2.1 89 = .ok (.istore_n 1, 1) := by decide +kernel
theorem d_X4_heldAtEnd_90 : decode mX4_heldAtEnd.2.2.1 90 = .ok (.iinc 3 1, 3) := by decide +kernel
theorem d_X4_heldAtEnd_93 : decode mX4_heldAtEnd.2.2.1 93 = .ok (.goto (-66), 3) := by decide +kernel
theorem ok_X4_heldAtEnd : e_m mX4_heldAtEnd 0 := ⟨tblG_in (inT6 (List.mem_of_getElem? (i := 165) rfl)) rfl, plainFor_of_name (by decide), rfl, ini_4, by decide +kernel, by decide⟩
theorem d_X11_never_10 : decode mX11_never.2.2.1 10 = .ok (.ireturn, 1) := by decide +kernel
def mX11_lasts : MD := (11, yX11_lasts, cX11_lasts, 6, some .int)
theorem d_X11_lasts_0 : decode mX11_lasts.2.2.1 0 = .ok (.aload_n 0, 1) := by decide +kernel
theorem d_X11_lasts_1 : decode mX11_lasts.2.2.1 1 = .ok (.getfield 109, 3) := by decide +kernel
theorem d_X11_lasts_4 : decode mX11_lasts.2.2.1 4 = .ok (.ifCond .eq 14, 3) := by decide +kernel
theorem d_X11_lasts_18 : decode mX11_lasts.2.2.1 18 = .ok (.iconst (-1), 1) := by decide +kernel
theorem d_X11_lasts_19 : decode mX11_lasts.2.2.1 19 = .ok (.ireturn, 1) := by decide +kernel
theorem d_X11_lasts_7 : decode mX11_lasts.2.2.1 7 = .ok (.iload_n 1, 1) := by decide +kernel
theorem d_X11_lasts_8 : decode mX11_lasts.2.2.1 8 = .ok (.ifCond .lt 10, 3) := by decide +kernel
theorem d_X11_lasts_11 : decode mX11_lasts.2.2.1 11 = .ok (.iload_n 1, 1) := by decide +kernel
theorem d_X11_lasts_12 : decode mX11_lasts.2.2.1 12 = .ok (.ldc_w 310, 3) := by decide +kernel
theorem k_11_310 : Jvm.Cond.constant (e_cn 11) 310 (Int32.ofInt 1000000000) ∈ tblG := tblG_in (inT6 (List.mem_of_getElem? (i := 179) rfl)) rfl
theorem d_X11_lasts_15 : decode mX11_lasts.2.2.1 15 = .ok (.if_icmp .le 5, 3) := by decide +kernel
theorem d_X11_lasts_20 : decode mX11_lasts.2.2.1 20 = .ok (.iload_n 2, 1) := by decide +kernel
theorem d_X11_lasts_21 : decode mX11_lasts.2.2.1 21 = .ok (.ifCond .lt 21, 3) := by decide +kernel
theorem d_X11_lasts_42 : decode mX11_lasts.2.2.1 42 = .ok (.iconst (-1), 1) := by decide +kernel
theorem d_X11_lasts_43 : decode mX11_lasts.2.2.1 43 = .ok (.ireturn, 1) := by decide +kernel
theorem d_X11_lasts_24 : decode mX11_lasts.2.2.1 24 = .ok (.iload_n 2, 1) := by decide +kernel
theorem d_X11_lasts_25 : decode mX11_lasts.2.2.1 25 = .ok (.sipush 1000, 3) := by decide +kernel
end
/-! 25.07 -/
section
theorem d_X11_lasts_28 : decode mX11_lasts.2.2.1 28 = .ok (.if_icmp .gt 14, 3) := by decide +kernel
theorem d_X11_lasts_31 : decode mX11_lasts.2.2.1 31 = .ok (.iload_n 3, 1) := by decide +kernel
theorem d_X11_lasts_32 : decode mX11_lasts.2.2.1 32 = .ok (.ifCond .lt 10, 3) := by decide +kernel
theorem d_X11_lasts_35 : decode mX11_lasts.2.2.1 35 = .ok (.iload_n 3, 1) := by decide +kernel
theorem d_X11_lasts_36 : decode mX11_lasts.2.2.1 36 = .ok (.ldc_w 311, 3) := by decide +kernel
theorem k_11_311 : Jvm.Cond.constant (e_cn 11) 311 (Int32.ofInt 100000) ∈ tblG := tblG_in (inT6 (List.mem_of_getElem? (i := 180) rfl)) rfl
theorem d_X11_lasts_39 : decode mX11_lasts.2.2.1 39 = .ok (.if_icmp .le 5, 3) := by decide +kernel
theorem d_X11_lasts_44 : decode mX11_lasts.2.2.1 44 = .ok (.iload_n 2, 1) := by decide +kernel
theorem d_X11_lasts_45 : decode mX11_lasts.2.2.1 45 = .ok (.i2l, 1) := by decide +kernel
theorem d_X11_lasts_46 : decode mX11_lasts.2.2.1 46 = .ok (.aload_n 0, 1) := by decide +kernel
theorem d_X11_lasts_47 : decode mX11_lasts.2.2.1 47 = .ok (.getfield 46, 3) := by decide +kernel
theorem d_X11_lasts_50 : decode mX11_lasts.2.2.1 50 = .ok (.getfield 155, 3) := by decide +kernel
theorem d_X11_lasts_53 : decode mX11_lasts.2.2.1 53 = .ok (.i2l, 1) := by decide +kernel
theorem d_X11_lasts_54 : decode mX11_lasts.2.2.1 54 = .ok (.lmul, 1) := by decide +kernel
theorem d_X11_lasts_55 : decode mX11_lasts.2.2.1 55 = .ok (.iload_n 3, 1) := by decide +kernel
theorem d_X11_lasts_56 : decode mX11_lasts.2.2.1 56 = .ok (.i2l, 1) := by decide +kernel
theorem d_X11_lasts_57 : decode mX11_lasts.2.2.1 57 = .ok (.aload_n 0, 1) := by decide +kernel
theorem d_X11_lasts_58 : decode mX11_lasts.2.2.1 58 = .ok (.getfield 30, 3) := by decide +kernel
theorem d_X11_lasts_61 : decode mX11_lasts.2.2.1 61 = .ok (.invokevirtual 312, 3) := by decide +kernel
def mX3_sleepOfAll : MD := (3, yX3_sleepOfAll, cX3_sleepOfAll, 3, some .int)
theorem sel_X3_sleepOfAll : Cond.instanceMethod mX3_sleepOfAll.2.1 ∈ tblG ∧ Cond.selects mX3_sleepOfAll.2.1.cls mX3_sleepOfAll.2.1 mX3_sleepOfAll.2.1 ∈ tblG := ⟨tblG_in (inT6 (List.mem_of_getElem? (i := 182) rfl)) rfl, tblG_in (inT6 (List.mem_of_getElem? (i := 183) rfl)) rfl⟩
theorem s_11_312 : e_siteV 11 312 mX3_sleepOfAll 3 := ⟨tblG_in (inT6 (List.mem_of_getElem? (i := 181) rfl)) rfl, sel_X3_sleepOfAll.1, sel_X3_sleepOfAll.2, rfl⟩
theorem d_X3_sleepOfAll_0 : decode mX3_sleepOfAll.2.2.1 0 = .ok (.iconst 0, 1) := by decide +kernel
theorem d_X3_sleepOfAll_1 : decode mX3_sleepOfAll.2.2.1 1 = .ok (.istore_n 1, 1) := by decide +kernel
theorem d_X3_sleepOfAll_2 : decode mX3_sleepOfAll.2.2.1 2 = .ok (.iconst 0, 1) := by decide +kernel
theorem d_X3_sleepOfAll_3 : decode mX3_sleepOfAll.2.2.1 3 = .ok (.istore_n 2, 1) := by decide +kernel
theorem d_X3_sleepOfAll_4 : decode mX3_sleepOfAll.2.2.1 4 = .ok (.iload_n 2, 1) := by decide +kernel
theorem d_X3_sleepOfAll_5 : decode mX3_sleepOfAll.2.2.1 5 = .ok (.aload_n 0, 1) := by decide +kernel
theorem d_X3_sleepOfAll_6 : decode mX3_sleepOfAll.2.2.1 6 = .ok (.getfield 11, 3) := by decide +kernel
theorem d_X3_sleepOfAll_9 : decode mX3_sleepOfAll.2.2.1 9 = .ok (.iconst 0, 1) := by decide +kernel
theorem d_X3_sleepOfAll_10 : decode mX3_sleepOfAll.2.2.1 10 = .ok (.iaload, 1) := by decide +kernel
theorem d_X3_sleepOfAll_11 : decode mX3_sleepOfAll.2.2.1 11 = .ok (.if_icmp .ge 22, 3) := by decide +kernel
theorem d_X3_sleepOfAll_33 : decode mX3_sleepOfAll.2.2.1 33 = .ok (.iload_n 1, 1) := by decide +kernel
theorem d_X3_sleepOfAll_34 : decode mX3_sleepOfAll.2.2.1 34 = .ok (.ireturn, 1) := by decide +kernel
theorem d_X3_sleepOfAll_14 : decode mX3_sleepOfAll.2.2.1 14 = .ok (.iload_n 1, 1) := by decide +kernel
theorem d_X3_sleepOfAll_15 : decode mX3_sleepOfAll.2.2.1 15 = .ok (.aload_n 0, 1) := by decide +kernel
theorem d_X3_sleepOfAll_16 : decode mX3_sleepOfAll.2.2.1 16 = .ok (.getfield 15, 3) := by decide +kernel
theorem d_X3_sleepOfAll_19 : decode mX3_sleepOfAll.2.2.1 19 = .ok (.iload_n 2, 1) := by decide +kernel
theorem d_X3_sleepOfAll_20 : decode mX3_sleepOfAll.2.2.1 20 = .ok (.iconst 4, 1) := by decide +kernel
theorem d_X3_sleepOfAll_21 : decode mX3_sleepOfAll.2.2.1 21 = .ok (.imul, 1) := by decide +kernel
theorem d_X3_sleepOfAll_22 : decode mX3_sleepOfAll.2.2.1 22 = .ok (.iconst 0, 1) := by decide +kernel
theorem d_X3_sleepOfAll_23 : decode mX3_sleepOfAll.2.2.1 23 = .ok (.iadd, 1) := by decide +kernel
theorem d_X3_sleepOfAll_24 : decode mX3_sleepOfAll.2.2.1 24 = .ok (.iaload, 1) := by decide +kernel
theorem d_X3_sleepOfAll_25 : decode mX3_sleepOfAll.2.2.1 25 = .ok (.iadd, 1) := by decide +kernel
theorem d_X3_sleepOfAll_26 : decode mX3_sleepOfAll.2.2.1 26 = .ok (.istore_n 1, 1) := by decide +kernel
theorem d_X3_sleepOfAll_27 : decode mX3_sleepOfAll.2.2.1 27 = .ok (.iinc 2 1, 3) := by decide +kernel
theorem d_X3_sleepOfAll_30 : decode mX3_sleepOfAll.2.2.1 30 = .ok (.goto (-26), 3) := by decide +kernel
theorem ok_X3_sleepOfAll : e_m mX3_sleepOfAll 0 := ⟨tblG_in (inT6 (List.mem_of_getElem? (i := 184) rfl)) rfl, plainFor_of_name (by decide), rfl, ini_3, by decide +kernel, by decide⟩
theorem d_X11_lasts_64 : decode mX11_lasts.2.2.1 64 = .ok (.i2l, 1) := by decide +kernel
theorem d_X11_lasts_65 : decode mX11_lasts.2.2.1 65 = .ok (.lmul, 1) := by decide +kernel
theorem d_X11_lasts_66 : decode mX11_lasts.2.2.1 66 = .ok (.ladd, 1) := by decide +kernel
theorem d_X11_lasts_67 : decode mX11_lasts.2.2.1 67 = .ok (.lstore 4, 2) := by decide +kernel
theorem d_X11_lasts_69 : decode mX11_lasts.2.2.1 69 = .ok (.lload 4, 2) := by decide +kernel
theorem d_X11_lasts_71 : decode mX11_lasts.2.2.1 71 = .ok (.lconst 0, 1) := by decide +kernel
theorem d_X11_lasts_72 : decode mX11_lasts.2.2.1 72 = .ok (.lcmp, 1) := by decide +kernel
theorem d_X11_lasts_73 : decode mX11_lasts.2.2.1 73 = .ok (.ifCond .gt 7, 3) := by decide +kernel
theorem d_X11_lasts_80 : decode mX11_lasts.2.2.1 80 = .ok (.iload_n 1, 1) := by decide +kernel
theorem d_X11_lasts_81 : decode mX11_lasts.2.2.1 81 = .ok (.i2l, 1) := by decide +kernel
theorem d_X11_lasts_82 : decode mX11_lasts.2.2.1 82 = .ok (.lload 4, 2) := by decide +kernel
theorem d_X11_lasts_84 : decode mX11_lasts.2.2.1 84 = .ok (.ldiv, 1) := by decide +kernel
theorem d_X11_lasts_85 : decode mX11_lasts.2.2.1 85 = .ok (.l2i, 1) := by decide +kernel
theorem d_X11_lasts_86 : decode mX11_lasts.2.2.1 86 = .ok (.ireturn, 1) := by decide +kernel
theorem d_X11_lasts_76 : decode mX11_lasts.2.2.1 76 = .ok (.iconst (-1), 1) := by decide +kernel
theorem d_X11_lasts_77 : decode mX11_lasts.2.2.1 77 = .ok (.goto 9, 3) := by decide +kernel
def mX11_measure : MD := (11, yX11_measure, cX11_measure, 2, some .int)
theorem d_X11_measure_0 : decode mX11_measure.2.2.1 0 = .ok (.iload_n 1, 1) := by decide +kernel
theorem d_X11_measure_1 : decode mX11_measure.2.2.1 1 = .ok (.ifCond .lt 22, 3) := by decide +kernel
theorem d_X11_measure_23 : decode mX11_measure.2.2.1 23 = .ok (.iconst (-1), 1) := by decide +kernel
theorem d_X11_measure_24 : decode mX11_measure.2.2.1 24 = .ok (.ireturn, 1) := by decide +kernel
theorem d_X11_measure_4 : decode mX11_measure.2.2.1 4 = .ok (.iload_n 1, 1) := by decide +kernel
theorem d_X11_measure_5 : decode mX11_measure.2.2.1 5 = .ok (.ldc_w 271, 3) := by decide +kernel
theorem k_11_271 : Jvm.Cond.constant (e_cn 11) 271 (Int32.ofInt 10000000) ∈ tblG := tblG_in (inT6 (List.mem_of_getElem? (i := 86) rfl)) rfl
theorem d_X11_measure_8 : decode mX11_measure.2.2.1 8 = .ok (.if_icmp .gt 15, 3) := by decide +kernel
theorem d_X11_measure_11 : decode mX11_measure.2.2.1 11 = .ok (.aload_n 0, 1) := by decide +kernel
theorem d_X11_measure_12 : decode mX11_measure.2.2.1 12 = .ok (.getfield 70, 3) := by decide +kernel
theorem d_X11_measure_15 : decode mX11_measure.2.2.1 15 = .ok (.getfield 133, 3) := by decide +kernel
theorem d_X11_measure_18 : decode mX11_measure.2.2.1 18 = .ok (.bipush 12, 2) := by decide +kernel
theorem d_X11_measure_20 : decode mX11_measure.2.2.1 20 = .ok (.if_icmp .lt 5, 3) := by decide +kernel
theorem d_X11_measure_25 : decode mX11_measure.2.2.1 25 = .ok (.aload_n 0, 1) := by decide +kernel
theorem d_X11_measure_26 : decode mX11_measure.2.2.1 26 = .ok (.getfield 50, 3) := by decide +kernel
theorem d_X11_measure_29 : decode mX11_measure.2.2.1 29 = .ok (.aload_n 0, 1) := by decide +kernel
theorem d_X11_measure_30 : decode mX11_measure.2.2.1 30 = .ok (.getfield 30, 3) := by decide +kernel
theorem d_X11_measure_33 : decode mX11_measure.2.2.1 33 = .ok (.aload_n 0, 1) := by decide +kernel
theorem d_X11_measure_34 : decode mX11_measure.2.2.1 34 = .ok (.getfield 37, 3) := by decide +kernel
theorem d_X11_measure_37 : decode mX11_measure.2.2.1 37 = .ok (.iconst (-1), 1) := by decide +kernel
theorem d_X11_measure_38 : decode mX11_measure.2.2.1 38 = .ok (.invokevirtual 144, 3) := by decide +kernel
def mX6_go : MD := (6, yX6_go, cX6_go, 8, none)
theorem sel_X6_go : Cond.instanceMethod mX6_go.2.1 ∈ tblG ∧ Cond.selects mX6_go.2.1.cls mX6_go.2.1 mX6_go.2.1 ∈ tblG := ⟨tblG_in (inT4 (List.mem_of_getElem? (i := 227) rfl)) rfl, tblG_in (inT4 (List.mem_of_getElem? (i := 228) rfl)) rfl⟩
theorem s_11_144 : e_siteV 11 144 mX6_go 6 := ⟨tblG_in (inT4 (List.mem_of_getElem? (i := 226) rfl)) rfl, sel_X6_go.1, sel_X6_go.2, rfl⟩
theorem d_X6_go_0 : decode mX6_go.2.2.1 0 = .ok (.aload_n 0, 1) := by decide +kernel
theorem d_X6_go_1 : decode mX6_go.2.2.1 1 = .ok (.aload_n 1, 1) := by decide +kernel
theorem d_X6_go_2 : decode mX6_go.2.2.1 2 = .ok (.aload_n 2, 1) := by decide +kernel
theorem d_X6_go_3 : decode mX6_go.2.2.1 3 = .ok (.iload_n 3, 1) := by decide +kernel
theorem d_X6_go_4 : decode mX6_go.2.2.1 4 = .ok (.invokevirtual 42, 3) := by decide +kernel
def mX6_begin : MD := (6, yX6_begin, cX6_begin, 4, none)
theorem sel_X6_begin : Cond.instanceMethod mX6_begin.2.1 ∈ tblG ∧ Cond.selects mX6_begin.2.1.cls mX6_begin.2.1 mX6_begin.2.1 ∈ tblG := ⟨tblG_in (inT4 (List.mem_of_getElem? (i := 232) rfl)) rfl, tblG_in (inP3 (q := (mX6_begin.2.1, 18)) (List.mem_of_getElem? (i := 11) rfl)) rfl⟩
theorem s_6_42 : e_siteV 6 42 mX6_begin 6 := ⟨tblG_in (inT4 (List.mem_of_getElem? (i := 230) rfl)) rfl, sel_X6_begin.1, sel_X6_begin.2, rfl⟩
theorem d_X6_begin_0 : decode mX6_begin.2.2.1 0 = .ok (.aload_n 0, 1) := by decide +kernel
theorem d_X6_begin_1 : decode mX6_begin.2.2.1 1 = .ok (.aload_n 1, 1) := by decide +kernel
theorem d_X6_begin_2 : decode mX6_begin.2.2.1 2 = .ok (.putfield 46, 3) := by decide +kernel
theorem f_6_46 : e_fld 6 46 6 1 18 2 false := ⟨RX6, TX6, 1, rfl, rfl, by decide, rfl, rfl, rfl, iX6, tblG_in (inT2 (List.mem_of_getElem? (i := 101) rfl)) rfl, tyX6_ok, nmX6⟩
theorem d_X6_begin_5 : decode mX6_begin.2.2.1 5 = .ok (.aload_n 2, 1) := by decide +kernel
theorem d_X6_begin_6 : decode mX6_begin.2.2.1 6 = .ok (.iconst 0, 1) := by decide +kernel
theorem d_X6_begin_7 : decode mX6_begin.2.2.1 7 = .ok (.aload_n 0, 1) := by decide +kernel
theorem d_X6_begin_8 : decode mX6_begin.2.2.1 8 = .ok (.getfield 9, 3) := by decide +kernel
theorem d_X6_begin_11 : decode mX6_begin.2.2.1 11 = .ok (.iconst 0, 1) := by decide +kernel
theorem d_X6_begin_12 : decode mX6_begin.2.2.1 12 = .ok (.iconst 3, 1) := by decide +kernel
theorem d_X6_begin_13 : decode mX6_begin.2.2.1 13 = .ok (.invokestatic 85, 3) := by decide +kernel
theorem ac_6_85 : Cond.methodLink (e_cn 6) 85 arraycopyName ∈ tblG := tblG_in (inT4 (List.mem_of_getElem? (i := 234) rfl)) rfl
theorem d_X6_begin_16 : decode mX6_begin.2.2.1 16 = .ok (.aload_n 0, 1) := by decide +kernel
theorem d_X6_begin_17 : decode mX6_begin.2.2.1 17 = .ok (.getfield 15, 3) := by decide +kernel
theorem d_X6_begin_20 : decode mX6_begin.2.2.1 20 = .ok (.iconst 0, 1) := by decide +kernel
theorem d_X6_begin_21 : decode mX6_begin.2.2.1 21 = .ok (.invokestatic 91, 3) := by decide +kernel
theorem s_6_91 : e_siteS 6 91 mJ7_fill_53178 := ⟨tblG_in (inT4 (List.mem_of_getElem? (i := 235) rfl)) rfl, tblG_in (inT3 (List.mem_of_getElem? (i := 42) rfl)) rfl⟩
theorem d_X6_begin_24 : decode mX6_begin.2.2.1 24 = .ok (.aload_n 0, 1) := by decide +kernel
theorem d_X6_begin_25 : decode mX6_begin.2.2.1 25 = .ok (.getfield 21, 3) := by decide +kernel
theorem d_X6_begin_28 : decode mX6_begin.2.2.1 28 = .ok (.iconst (-1), 1) := by decide +kernel
theorem d_X6_begin_29 : decode mX6_begin.2.2.1 29 = .ok (.invokestatic 91, 3) := by decide +kernel
theorem d_X6_begin_32 : decode mX6_begin.2.2.1 32 = .ok (.aload_n 0, 1) := by decide +kernel
theorem d_X6_begin_33 : decode mX6_begin.2.2.1 33 = .ok (.getfield 24, 3) := by decide +kernel
theorem d_X6_begin_36 : decode mX6_begin.2.2.1 36 = .ok (.iconst 0, 1) := by decide +kernel
theorem d_X6_begin_37 : decode mX6_begin.2.2.1 37 = .ok (.invokestatic 91, 3) := by decide +kernel
theorem d_X6_begin_40 : decode mX6_begin.2.2.1 40 = .ok (.aload_n 0, 1) := by decide +kernel
theorem d_X6_begin_41 : decode mX6_begin.2.2.1 41 = .ok (.getfield 27, 3) := by decide +kernel
theorem d_X6_begin_44 : decode mX6_begin.2.2.1 44 = .ok (.iconst 0, 1) := by decide +kernel
theorem d_X6_begin_45 : decode mX6_begin.2.2.1 45 = .ok (.invokestatic 91, 3) := by decide +kernel
theorem d_X6_begin_48 : decode mX6_begin.2.2.1 48 = .ok (.aload_n 0, 1) := by decide +kernel
theorem d_X6_begin_49 : decode mX6_begin.2.2.1 49 = .ok (.getfield 30, 3) := by decide +kernel
theorem d_X6_begin_52 : decode mX6_begin.2.2.1 52 = .ok (.iconst 0, 1) := by decide +kernel
theorem d_X6_begin_53 : decode mX6_begin.2.2.1 53 = .ok (.invokestatic 91, 3) := by decide +kernel
theorem d_X6_begin_56 : decode mX6_begin.2.2.1 56 = .ok (.aload_n 0, 1) := by decide +kernel
theorem d_X6_begin_57 : decode mX6_begin.2.2.1 57 = .ok (.iconst 0, 1) := by decide +kernel
theorem d_X6_begin_58 : decode mX6_begin.2.2.1 58 = .ok (.putfield 68, 3) := by decide +kernel
theorem f_6_68 : e_fld 6 68 6 9 18 0 false := ⟨RX6, TX6, 9, rfl, rfl, by decide, rfl, rfl, rfl, iX6, tblG_in (inT2 (List.mem_of_getElem? (i := 110) rfl)) rfl, tyX6_ok, nmX6⟩
theorem d_X6_begin_61 : decode mX6_begin.2.2.1 61 = .ok (.aload_n 0, 1) := by decide +kernel
theorem d_X6_begin_62 : decode mX6_begin.2.2.1 62 = .ok (.iconst 0, 1) := by decide +kernel
theorem d_X6_begin_63 : decode mX6_begin.2.2.1 63 = .ok (.putfield 97, 3) := by decide +kernel
theorem f_6_97 : e_fld 6 97 6 11 18 0 false := ⟨RX6, TX6, 11, rfl, rfl, by decide, rfl, rfl, rfl, iX6, tblG_in (inT2 (List.mem_of_getElem? (i := 115) rfl)) rfl, tyX6_ok, nmX6⟩
theorem d_X6_begin_66 : decode mX6_begin.2.2.1 66 = .ok (.aload_n 0, 1) := by decide +kernel
theorem d_X6_begin_67 : decode mX6_begin.2.2.1 67 = .ok (.iconst 0, 1) := by decide +kernel
theorem d_X6_begin_68 : decode mX6_begin.2.2.1 68 = .ok (.putfield 100, 3) := by decide +kernel
theorem f_6_100 : e_fld 6 100 6 12 18 0 false := ⟨RX6, TX6, 12, rfl, rfl, by decide, rfl, rfl, rfl, iX6, tblG_in (inT2 (List.mem_of_getElem? (i := 117) rfl)) rfl, tyX6_ok, nmX6⟩
theorem d_X6_begin_71 : decode mX6_begin.2.2.1 71 = .ok (.aload_n 0, 1) := by decide +kernel
theorem d_X6_begin_72 : decode mX6_begin.2.2.1 72 = .ok (.iconst 0, 1) := by decide +kernel
theorem d_X6_begin_73 : decode mX6_begin.2.2.1 73 = .ok (.putfield 103, 3) := by decide +kernel
theorem f_6_103 : e_fld 6 103 6 13 18 0 false := ⟨RX6, TX6, 13, rfl, rfl, by decide, rfl, rfl, rfl, iX6, tblG_in (inT2 (List.mem_of_getElem? (i := 119) rfl)) rfl, tyX6_ok, nmX6⟩
theorem d_X6_begin_76 : decode mX6_begin.2.2.1 76 = .ok (.aload_n 0, 1) := by decide +kernel
theorem d_X6_begin_77 : decode mX6_begin.2.2.1 77 = .ok (.iconst 0, 1) := by decide +kernel
theorem d_X6_begin_78 : decode mX6_begin.2.2.1 78 = .ok (.putfield 62, 3) := by decide +kernel
theorem f_6_62 : e_fld 6 62 6 14 18 0 false := ⟨RX6, TX6, 14, rfl, rfl, by decide, rfl, rfl, rfl, iX6, tblG_in (inT2 (List.mem_of_getElem? (i := 121) rfl)) rfl, tyX6_ok, nmX6⟩
theorem d_X6_begin_81 : decode mX6_begin.2.2.1 81 = .ok (.aload_n 0, 1) := by decide +kernel
theorem d_X6_begin_82 : decode mX6_begin.2.2.1 82 = .ok (.iconst (-1), 1) := by decide +kernel
theorem d_X6_begin_83 : decode mX6_begin.2.2.1 83 = .ok (.putfield 79, 3) := by decide +kernel
theorem f_6_79 : e_fld 6 79 6 15 18 0 false := ⟨RX6, TX6, 15, rfl, rfl, by decide, rfl, rfl, rfl, iX6, tblG_in (inT2 (List.mem_of_getElem? (i := 123) rfl)) rfl, tyX6_ok, nmX6⟩
theorem d_X6_begin_86 : decode mX6_begin.2.2.1 86 = .ok (.aload_n 0, 1) := by decide +kernel
theorem d_X6_begin_87 : decode mX6_begin.2.2.1 87 = .ok (.iload_n 3, 1) := by decide +kernel
theorem d_X6_begin_88 : decode mX6_begin.2.2.1 88 = .ok (.ifCond .lt 7, 3) := by decide +kernel
theorem d_X6_begin_95 : decode mX6_begin.2.2.1 95 = .ok (.iconst 0, 1) := by decide +kernel
theorem d_X6_begin_96 : decode mX6_begin.2.2.1 96 = .ok (.putfield 106, 3) := by decide +kernel
theorem f_6_106 : e_fld 6 106 6 16 18 3 false := ⟨RX6, TX6, 16, rfl, rfl, by decide, rfl, rfl, rfl, iX6, tblG_in (inT2 (List.mem_of_getElem? (i := 125) rfl)) rfl, tyX6_ok, nmX6⟩
theorem d_X6_begin_99 : decode mX6_begin.2.2.1 99 = .ok (.aload_n 0, 1) := by decide +kernel
theorem d_X6_begin_100 : decode mX6_begin.2.2.1 100 = .ok (.iload_n 3, 1) := by decide +kernel
theorem d_X6_begin_101 : decode mX6_begin.2.2.1 101 = .ok (.putfield 110, 3) := by decide +kernel
theorem f_6_110 : e_fld 6 110 6 17 18 0 false := ⟨RX6, TX6, 17, rfl, rfl, by decide, rfl, rfl, rfl, iX6, tblG_in (inT2 (List.mem_of_getElem? (i := 126) rfl)) rfl, tyX6_ok, nmX6⟩
theorem d_X6_begin_104 : decode mX6_begin.2.2.1 104 = .ok (.aload_n 0, 1) := by decide +kernel
theorem d_X6_begin_105 : decode mX6_begin.2.2.1 105 = .ok (.getfield 38, 3) := by decide +kernel
theorem d_X6_begin_108 : decode mX6_begin.2.2.1 108 = .ok (.aload_n 1, 1) := by decide +kernel
theorem d_X6_begin_109 : decode mX6_begin.2.2.1 109 = .ok (.invokevirtual 113, 3) := by decide +kernel
def mX1_begin : MD := (1, yX1_begin, cX1_begin, 2, none)
theorem sel_X1_begin : Cond.instanceMethod mX1_begin.2.1 ∈ tblG ∧ Cond.selects mX1_begin.2.1.cls mX1_begin.2.1 mX1_begin.2.1 ∈ tblG := ⟨tblG_in (inT4 (List.mem_of_getElem? (i := 237) rfl)) rfl, tblG_in (inT4 (List.mem_of_getElem? (i := 238) rfl)) rfl⟩
theorem s_6_113 : e_siteV 6 113 mX1_begin 1 := ⟨tblG_in (inT4 (List.mem_of_getElem? (i := 236) rfl)) rfl, sel_X1_begin.1, sel_X1_begin.2, rfl⟩
theorem d_X1_begin_0 : decode mX1_begin.2.2.1 0 = .ok (.aload_n 0, 1) := by decide +kernel
theorem d_X1_begin_1 : decode mX1_begin.2.2.1 1 = .ok (.aload_n 1, 1) := by decide +kernel
theorem d_X1_begin_2 : decode mX1_begin.2.2.1 2 = .ok (.putfield 41, 3) := by decide +kernel
theorem d_X1_begin_5 : decode mX1_begin.2.2.1 5 = .ok (.aload_n 0, 1) := by decide +kernel
theorem d_X1_begin_6 : decode mX1_begin.2.2.1 6 = .ok (.getfield 9, 3) := by decide +kernel
theorem d_X1_begin_9 : decode mX1_begin.2.2.1 9 = .ok (.iconst 0, 1) := by decide +kernel
theorem d_X1_begin_10 : decode mX1_begin.2.2.1 10 = .ok (.invokestatic 45, 3) := by decide +kernel
theorem s_1_45 : e_siteS 1 45 mJ7_fill_53178 := ⟨tblG_in (inT5 (List.mem_of_getElem? (i := 0) rfl)) rfl, tblG_in (inT3 (List.mem_of_getElem? (i := 42) rfl)) rfl⟩
theorem d_X1_begin_13 : decode mX1_begin.2.2.1 13 = .ok (.aload_n 0, 1) := by decide +kernel
theorem d_X1_begin_14 : decode mX1_begin.2.2.1 14 = .ok (.getfield 37, 3) := by decide +kernel
theorem d_X1_begin_17 : decode mX1_begin.2.2.1 17 = .ok (.ifCond .eq 50, 3) := by decide +kernel
theorem d_X1_begin_67 : decode mX1_begin.2.2.1 67 = .ok (.return_, 1) := by decide +kernel
theorem ok_X1_begin : e_m mX1_begin 1 := ⟨tblG_in (inT4 (List.mem_of_getElem? (i := 239) rfl)) rfl, plainFor_of_name (by decide), rfl, ini_1, by decide +kernel, by decide⟩
theorem d_X6_begin_112 : decode mX6_begin.2.2.1 112 = .ok (.return_, 1) := by decide +kernel
theorem ok_X6_begin : e_m mX6_begin 3 := ⟨tblG_in (inT4 (List.mem_of_getElem? (i := 233) rfl)) rfl, plainFor_of_name (by decide), rfl, ini_6, by decide +kernel, by decide⟩
theorem d_X6_go_7 : decode mX6_go.2.2.1 7 = .ok (.iconst 0, 1) := by decide +kernel
theorem d_X6_go_8 : decode mX6_go.2.2.1 8 = .ok (.istore 4, 2) := by decide +kernel
theorem d_X6_go_10 : decode mX6_go.2.2.1 10 = .ok (.iconst 0, 1) := by decide +kernel
theorem d_X6_go_11 : decode mX6_go.2.2.1 11 = .ok (.istore 5, 2) := by decide +kernel
theorem d_X6_go_13 : decode mX6_go.2.2.1 13 = .ok (.iload 5, 2) := by decide +kernel
theorem d_X6_go_15 : decode mX6_go.2.2.1 15 = .ok (.sipush 2000, 3) := by decide +kernel
theorem d_X6_go_18 : decode mX6_go.2.2.1 18 = .ok (.if_icmp .gt 85, 3) := by decide +kernel
theorem d_X6_go_21 : decode mX6_go.2.2.1 21 = .ok (.iload 4, 2) := by decide +kernel
theorem d_X6_go_23 : decode mX6_go.2.2.1 23 = .ok (.aload_n 0, 1) := by decide +kernel
theorem d_X6_go_24 : decode mX6_go.2.2.1 24 = .ok (.getfield 46, 3) := by decide +kernel
theorem d_X6_go_27 : decode mX6_go.2.2.1 27 = .ok (.getfield 50, 3) := by decide +kernel
theorem f_6_50 : e_fld 6 50 3 11 12 2 true := ⟨RX3, TX3, 11, rfl, rfl, by decide, rfl, rfl, rfl, iX3, tblG_in (inT1 (List.mem_of_getElem? (i := 205) rfl)) rfl, tyX3_ok, nmX3⟩
theorem d_X6_go_30 : decode mX6_go.2.2.1 30 = .ok (.getfield 56, 3) := by decide +kernel
theorem f_6_56 : e_fld 6 56 4 0 13 0 false := ⟨RX4, TX4, 0, rfl, rfl, by decide, rfl, rfl, rfl, iX4, tblG_in (inT1 (List.mem_of_getElem? (i := 105) rfl)) rfl, tyX4_ok, nmX4⟩
theorem d_X6_go_33 : decode mX6_go.2.2.1 33 = .ok (.if_icmp .ge 70, 3) := by decide +kernel
theorem d_X6_go_36 : decode mX6_go.2.2.1 36 = .ok (.aload_n 0, 1) := by decide +kernel
theorem d_X6_go_37 : decode mX6_go.2.2.1 37 = .ok (.getfield 62, 3) := by decide +kernel
theorem d_X6_go_40 : decode mX6_go.2.2.1 40 = .ok (.ifCond .ne 63, 3) := by decide +kernel
theorem d_X6_go_43 : decode mX6_go.2.2.1 43 = .ok (.aload_n 0, 1) := by decide +kernel
theorem d_X6_go_44 : decode mX6_go.2.2.1 44 = .ok (.getfield 38, 3) := by decide +kernel
theorem d_X6_go_47 : decode mX6_go.2.2.1 47 = .ok (.invokevirtual 65, 3) := by decide +kernel
def mX1_makeRoom : MD := (1, yX1_makeRoom, cX1_makeRoom, 1, none)
theorem sel_X1_makeRoom : Cond.instanceMethod mX1_makeRoom.2.1 ∈ tblG ∧ Cond.selects mX1_makeRoom.2.1.cls mX1_makeRoom.2.1 mX1_makeRoom.2.1 ∈ tblG := ⟨tblG_in (inT5 (List.mem_of_getElem? (i := 7) rfl)) rfl, tblG_in (inT5 (List.mem_of_getElem? (i := 8) rfl)) rfl⟩
theorem s_6_65 : e_siteV 6 65 mX1_makeRoom 1 := ⟨tblG_in (inT5 (List.mem_of_getElem? (i := 6) rfl)) rfl, sel_X1_makeRoom.1, sel_X1_makeRoom.2, rfl⟩
theorem d_X1_makeRoom_0 : decode mX1_makeRoom.2.2.1 0 = .ok (.aload_n 0, 1) := by decide +kernel
theorem d_X1_makeRoom_1 : decode mX1_makeRoom.2.2.1 1 = .ok (.getfield 37, 3) := by decide +kernel
theorem d_X1_makeRoom_4 : decode mX1_makeRoom.2.2.1 4 = .ok (.ifCond .eq 10, 3) := by decide +kernel
theorem d_X1_makeRoom_14 : decode mX1_makeRoom.2.2.1 14 = .ok (.return_, 1) := by decide +kernel
theorem ok_X1_makeRoom : e_m mX1_makeRoom 0 := ⟨tblG_in (inT5 (List.mem_of_getElem? (i := 9) rfl)) rfl, plainFor_of_name (by decide), rfl, ini_1, by decide +kernel, by decide⟩
theorem d_X6_go_50 : decode mX6_go.2.2.1 50 = .ok (.aload_n 0, 1) := by decide +kernel
theorem d_X6_go_51 : decode mX6_go.2.2.1 51 = .ok (.getfield 68, 3) := by decide +kernel
theorem d_X6_go_54 : decode mX6_go.2.2.1 54 = .ok (.istore 6, 2) := by decide +kernel
theorem d_X6_go_56 : decode mX6_go.2.2.1 56 = .ok (.aload_n 0, 1) := by decide +kernel
theorem d_X6_go_57 : decode mX6_go.2.2.1 57 = .ok (.iload 4, 2) := by decide +kernel
theorem d_X6_go_59 : decode mX6_go.2.2.1 59 = .ok (.invokevirtual 71, 3) := by decide +kernel
def mX6_step : MD := (6, yX6_step, cX6_step, 4, some .int)
theorem sel_X6_step : Cond.instanceMethod mX6_step.2.1 ∈ tblG ∧ Cond.selects mX6_step.2.1.cls mX6_step.2.1 mX6_step.2.1 ∈ tblG := ⟨tblG_in (inT5 (List.mem_of_getElem? (i := 36) rfl)) rfl, tblG_in (inP3 (q := (mX6_step.2.1, 18)) (List.mem_of_getElem? (i := 12) rfl)) rfl⟩
theorem s_6_71 : e_siteV 6 71 mX6_step 6 := ⟨tblG_in (inT5 (List.mem_of_getElem? (i := 34) rfl)) rfl, sel_X6_step.1, sel_X6_step.2, rfl⟩
theorem d_X6_step_0 : decode mX6_step.2.2.1 0 = .ok (.aload_n 0, 1) := by decide +kernel
theorem d_X6_step_1 : decode mX6_step.2.2.1 1 = .ok (.iconst 1, 1) := by decide +kernel
theorem d_X6_step_2 : decode mX6_step.2.2.1 2 = .ok (.iconst (-1), 1) := by decide +kernel
theorem d_X6_step_3 : decode mX6_step.2.2.1 3 = .ok (.iconst 0, 1) := by decide +kernel
theorem d_X6_step_4 : decode mX6_step.2.2.1 4 = .ok (.invokevirtual 145, 3) := by decide +kernel
def mX6_pass : MD := (6, yX6_pass, cX6_pass, 6, some .int)
end
/-! 25.08 -/
section
theorem sel_X6_pass : Cond.instanceMethod mX6_pass.2.1 ∈ tblG ∧ Cond.selects mX6_pass.2.1.cls mX6_pass.2.1 mX6_pass.2.1 ∈ tblG := ⟨tblG_in (inT5 (List.mem_of_getElem? (i := 40) rfl)) rfl, tblG_in (inP3 (q := (mX6_pass.2.1, 18)) (List.mem_of_getElem? (i := 13) rfl)) rfl⟩
theorem s_6_145 : e_siteV 6 145 mX6_pass 6 := ⟨tblG_in (inT5 (List.mem_of_getElem? (i := 38) rfl)) rfl, sel_X6_pass.1, sel_X6_pass.2, rfl⟩
theorem d_X6_pass_0 : decode mX6_pass.2.2.1 0 = .ok (.iload_n 1, 1) := by decide +kernel
theorem d_X6_pass_1 : decode mX6_pass.2.2.1 1 = .ok (.sipush 2000, 3) := by decide +kernel
theorem d_X6_pass_4 : decode mX6_pass.2.2.1 4 = .ok (.aload_n 0, 1) := by decide +kernel
theorem d_X6_pass_5 : decode mX6_pass.2.2.1 5 = .ok (.getfield 68, 3) := by decide +kernel
theorem d_X6_pass_8 : decode mX6_pass.2.2.1 8 = .ok (.isub, 1) := by decide +kernel
theorem d_X6_pass_9 : decode mX6_pass.2.2.1 9 = .ok (.invokestatic 158, 3) := by decide +kernel
theorem mw_mmin : Cond.static Lib.Math.min.name ∈ tblG ∧ Cond.initialized "java/lang/Math" ∈ tblG ∧ Cond.code Lib.Math.min.name Lib.Math.min.code 2 (some .int) ∈ tblG := ⟨tblG_in (inT3 (List.mem_of_getElem? (i := 213) rfl)) rfl, tblG_in (inT1 (List.mem_of_getElem? (i := 19) rfl)) rfl, tblG_in (inT3 (List.mem_of_getElem? (i := 214) rfl)) rfl⟩
theorem ml_6_158 : Cond.methodLink (e_cn 6) 158 Lib.Math.min.name ∈ tblG := tblG_in (inT5 (List.mem_of_getElem? (i := 42) rfl)) rfl
theorem d_X6_pass_12 : decode mX6_pass.2.2.1 12 = .ok (.istore 4, 2) := by decide +kernel
theorem d_X6_pass_14 : decode mX6_pass.2.2.1 14 = .ok (.aload_n 0, 1) := by decide +kernel
theorem d_X6_pass_15 : decode mX6_pass.2.2.1 15 = .ok (.getfield 106, 3) := by decide +kernel
theorem d_X6_pass_18 : decode mX6_pass.2.2.1 18 = .ok (.ifCond .eq 14, 3) := by decide +kernel
theorem d_X6_pass_32 : decode mX6_pass.2.2.1 32 = .ok (.iload 4, 2) := by decide +kernel
theorem d_X6_pass_21 : decode mX6_pass.2.2.1 21 = .ok (.aload_n 0, 1) := by decide +kernel
theorem d_X6_pass_22 : decode mX6_pass.2.2.1 22 = .ok (.iload 4, 2) := by decide +kernel
theorem d_X6_pass_24 : decode mX6_pass.2.2.1 24 = .ok (.iload_n 2, 1) := by decide +kernel
theorem d_X6_pass_25 : decode mX6_pass.2.2.1 25 = .ok (.iload_n 3, 1) := by decide +kernel
theorem d_X6_pass_26 : decode mX6_pass.2.2.1 26 = .ok (.invokevirtual 183, 3) := by decide +kernel
def mX6_afforded : MD := (6, yX6_afforded, cX6_afforded, 6, some .int)
theorem sel_X6_afforded : Cond.instanceMethod mX6_afforded.2.1 ∈ tblG ∧ Cond.selects mX6_afforded.2.1.cls mX6_afforded.2.1 mX6_afforded.2.1 ∈ tblG := ⟨tblG_in (inT5 (List.mem_of_getElem? (i := 45) rfl)) rfl, tblG_in (inP3 (q := (mX6_afforded.2.1, 18)) (List.mem_of_getElem? (i := 14) rfl)) rfl⟩
theorem s_6_183 : e_siteV 6 183 mX6_afforded 6 := ⟨tblG_in (inT5 (List.mem_of_getElem? (i := 43) rfl)) rfl, sel_X6_afforded.1, sel_X6_afforded.2, rfl⟩
theorem d_X6_afforded_0 : decode mX6_afforded.2.2.1 0 = .ok (.iconst 0, 1) := by decide +kernel
theorem d_X6_afforded_1 : decode mX6_afforded.2.2.1 1 = .ok (.istore 4, 2) := by decide +kernel
theorem d_X6_afforded_3 : decode mX6_afforded.2.2.1 3 = .ok (.iload 4, 2) := by decide +kernel
theorem d_X6_afforded_5 : decode mX6_afforded.2.2.1 5 = .ok (.iload_n 1, 1) := by decide +kernel
theorem d_X6_afforded_6 : decode mX6_afforded.2.2.1 6 = .ok (.if_icmp .ge 47, 3) := by decide +kernel
theorem d_X6_afforded_53 : decode mX6_afforded.2.2.1 53 = .ok (.iload_n 1, 1) := by decide +kernel
theorem d_X6_afforded_54 : decode mX6_afforded.2.2.1 54 = .ok (.ireturn, 1) := by decide +kernel
theorem d_X6_afforded_9 : decode mX6_afforded.2.2.1 9 = .ok (.aload_n 0, 1) := by decide +kernel
theorem d_X6_afforded_10 : decode mX6_afforded.2.2.1 10 = .ok (.aload_n 0, 1) := by decide +kernel
theorem d_X6_afforded_11 : decode mX6_afforded.2.2.1 11 = .ok (.getfield 68, 3) := by decide +kernel
theorem d_X6_afforded_14 : decode mX6_afforded.2.2.1 14 = .ok (.iload 4, 2) := by decide +kernel
theorem d_X6_afforded_16 : decode mX6_afforded.2.2.1 16 = .ok (.iadd, 1) := by decide +kernel
theorem d_X6_afforded_17 : decode mX6_afforded.2.2.1 17 = .ok (.iload_n 2, 1) := by decide +kernel
theorem d_X6_afforded_18 : decode mX6_afforded.2.2.1 18 = .ok (.iload_n 3, 1) := by decide +kernel
theorem d_X6_afforded_19 : decode mX6_afforded.2.2.1 19 = .ok (.invokevirtual 186, 3) := by decide +kernel
def mX6_sipsAt : MD := (6, yX6_sipsAt, cX6_sipsAt, 7, some .int)
theorem sel_X6_sipsAt : Cond.instanceMethod mX6_sipsAt.2.1 ∈ tblG ∧ Cond.selects mX6_sipsAt.2.1.cls mX6_sipsAt.2.1 mX6_sipsAt.2.1 ∈ tblG := ⟨tblG_in (inT5 (List.mem_of_getElem? (i := 49) rfl)) rfl, tblG_in (inP3 (q := (mX6_sipsAt.2.1, 18)) (List.mem_of_getElem? (i := 15) rfl)) rfl⟩
theorem s_6_186 : e_siteV 6 186 mX6_sipsAt 6 := ⟨tblG_in (inT5 (List.mem_of_getElem? (i := 47) rfl)) rfl, sel_X6_sipsAt.1, sel_X6_sipsAt.2, rfl⟩
theorem d_X6_sipsAt_0 : decode mX6_sipsAt.2.2.1 0 = .ok (.aload_n 0, 1) := by decide +kernel
theorem d_X6_sipsAt_1 : decode mX6_sipsAt.2.2.1 1 = .ok (.getfield 46, 3) := by decide +kernel
theorem d_X6_sipsAt_4 : decode mX6_sipsAt.2.2.1 4 = .ok (.getfield 135, 3) := by decide +kernel
theorem f_6_135 : e_fld 6 135 3 0 12 0 false := ⟨RX3, TX3, 0, rfl, rfl, by decide, rfl, rfl, rfl, iX3, tblG_in (inT1 (List.mem_of_getElem? (i := 161) rfl)) rfl, tyX3_ok, nmX3⟩
theorem d_X6_sipsAt_7 : decode mX6_sipsAt.2.2.1 7 = .ok (.istore 4, 2) := by decide +kernel
theorem d_X6_sipsAt_9 : decode mX6_sipsAt.2.2.1 9 = .ok (.iconst 0, 1) := by decide +kernel
theorem d_X6_sipsAt_10 : decode mX6_sipsAt.2.2.1 10 = .ok (.istore 5, 2) := by decide +kernel
theorem d_X6_sipsAt_12 : decode mX6_sipsAt.2.2.1 12 = .ok (.iload 5, 2) := by decide +kernel
theorem d_X6_sipsAt_14 : decode mX6_sipsAt.2.2.1 14 = .ok (.aload_n 0, 1) := by decide +kernel
theorem d_X6_sipsAt_15 : decode mX6_sipsAt.2.2.1 15 = .ok (.getfield 46, 3) := by decide +kernel
theorem d_X6_sipsAt_18 : decode mX6_sipsAt.2.2.1 18 = .ok (.getfield 116, 3) := by decide +kernel
theorem f_6_116 : e_fld 6 116 3 4 12 2 true := ⟨RX3, TX3, 4, rfl, rfl, by decide, rfl, rfl, rfl, iX3, tblG_in (inT1 (List.mem_of_getElem? (i := 174) rfl)) rfl, tyX3_ok, nmX3⟩
theorem d_X6_sipsAt_21 : decode mX6_sipsAt.2.2.1 21 = .ok (.iconst 0, 1) := by decide +kernel
theorem d_X6_sipsAt_22 : decode mX6_sipsAt.2.2.1 22 = .ok (.iaload, 1) := by decide +kernel
theorem d_X6_sipsAt_23 : decode mX6_sipsAt.2.2.1 23 = .ok (.if_icmp .ge 68, 3) := by decide +kernel
theorem d_X6_sipsAt_91 : decode mX6_sipsAt.2.2.1 91 = .ok (.iload 4, 2) := by decide +kernel
theorem d_X6_sipsAt_93 : decode mX6_sipsAt.2.2.1 93 = .ok (.ireturn, 1) := by decide +kernel
theorem d_X6_sipsAt_26 : decode mX6_sipsAt.2.2.1 26 = .ok (.aload_n 0, 1) := by decide +kernel
theorem d_X6_sipsAt_27 : decode mX6_sipsAt.2.2.1 27 = .ok (.getfield 24, 3) := by decide +kernel
theorem d_X6_sipsAt_30 : decode mX6_sipsAt.2.2.1 30 = .ok (.iload 5, 2) := by decide +kernel
theorem d_X6_sipsAt_32 : decode mX6_sipsAt.2.2.1 32 = .ok (.iaload, 1) := by decide +kernel
theorem d_X6_sipsAt_33 : decode mX6_sipsAt.2.2.1 33 = .ok (.iconst 1, 1) := by decide +kernel
theorem d_X6_sipsAt_34 : decode mX6_sipsAt.2.2.1 34 = .ok (.if_icmp .eq 14, 3) := by decide +kernel
theorem d_X6_sipsAt_37 : decode mX6_sipsAt.2.2.1 37 = .ok (.iload_n 1, 1) := by decide +kernel
theorem d_X6_sipsAt_38 : decode mX6_sipsAt.2.2.1 38 = .ok (.aload_n 0, 1) := by decide +kernel
theorem d_X6_sipsAt_39 : decode mX6_sipsAt.2.2.1 39 = .ok (.getfield 27, 3) := by decide +kernel
theorem d_X6_sipsAt_42 : decode mX6_sipsAt.2.2.1 42 = .ok (.iload 5, 2) := by decide +kernel
theorem d_X6_sipsAt_44 : decode mX6_sipsAt.2.2.1 44 = .ok (.iaload, 1) := by decide +kernel
theorem d_X6_sipsAt_45 : decode mX6_sipsAt.2.2.1 45 = .ok (.if_icmp .ge 7, 3) := by decide +kernel
theorem d_X6_sipsAt_52 : decode mX6_sipsAt.2.2.1 52 = .ok (.iconst 0, 1) := by decide +kernel
theorem d_X6_sipsAt_48 : decode mX6_sipsAt.2.2.1 48 = .ok (.iconst 2, 1) := by decide +kernel
theorem d_X6_sipsAt_49 : decode mX6_sipsAt.2.2.1 49 = .ok (.goto 4, 3) := by decide +kernel
theorem d_X6_sipsAt_53 : decode mX6_sipsAt.2.2.1 53 = .ok (.istore 6, 2) := by decide +kernel
theorem d_X6_sipsAt_55 : decode mX6_sipsAt.2.2.1 55 = .ok (.iload 4, 2) := by decide +kernel
theorem d_X6_sipsAt_57 : decode mX6_sipsAt.2.2.1 57 = .ok (.aload_n 0, 1) := by decide +kernel
theorem d_X6_sipsAt_58 : decode mX6_sipsAt.2.2.1 58 = .ok (.getfield 46, 3) := by decide +kernel
theorem d_X6_sipsAt_61 : decode mX6_sipsAt.2.2.1 61 = .ok (.getfield 189, 3) := by decide +kernel
theorem f_6_189 : e_fld 6 189 3 5 12 2 true := ⟨RX3, TX3, 5, rfl, rfl, by decide, rfl, rfl, rfl, iX3, tblG_in (inT1 (List.mem_of_getElem? (i := 182) rfl)) rfl, tyX3_ok, nmX3⟩
theorem d_X6_sipsAt_64 : decode mX6_sipsAt.2.2.1 64 = .ok (.iload 5, 2) := by decide +kernel
theorem d_X6_sipsAt_66 : decode mX6_sipsAt.2.2.1 66 = .ok (.iconst 4, 1) := by decide +kernel
theorem d_X6_sipsAt_67 : decode mX6_sipsAt.2.2.1 67 = .ok (.imul, 1) := by decide +kernel
theorem d_X6_sipsAt_68 : decode mX6_sipsAt.2.2.1 68 = .ok (.iload 5, 2) := by decide +kernel
theorem d_X6_sipsAt_70 : decode mX6_sipsAt.2.2.1 70 = .ok (.iload_n 2, 1) := by decide +kernel
theorem d_X6_sipsAt_71 : decode mX6_sipsAt.2.2.1 71 = .ok (.if_icmp .ne 7, 3) := by decide +kernel
theorem d_X6_sipsAt_78 : decode mX6_sipsAt.2.2.1 78 = .ok (.iload 6, 2) := by decide +kernel
theorem d_X6_sipsAt_80 : decode mX6_sipsAt.2.2.1 80 = .ok (.iadd, 1) := by decide +kernel
theorem d_X6_sipsAt_81 : decode mX6_sipsAt.2.2.1 81 = .ok (.iaload, 1) := by decide +kernel
theorem d_X6_sipsAt_82 : decode mX6_sipsAt.2.2.1 82 = .ok (.iadd, 1) := by decide +kernel
theorem d_X6_sipsAt_83 : decode mX6_sipsAt.2.2.1 83 = .ok (.istore 4, 2) := by decide +kernel
theorem d_X6_sipsAt_85 : decode mX6_sipsAt.2.2.1 85 = .ok (.iinc 5 1, 3) := by decide +kernel
theorem d_X6_sipsAt_88 : decode mX6_sipsAt.2.2.1 88 = .ok (.goto (-76), 3) := by decide +kernel
theorem ok_X6_sipsAt : e_m mX6_sipsAt 3 := ⟨tblG_in (inT5 (List.mem_of_getElem? (i := 50) rfl)) rfl, plainFor_of_name (by decide), rfl, ini_6, by decide +kernel, by decide⟩
theorem d_X6_afforded_22 : decode mX6_afforded.2.2.1 22 = .ok (.istore 5, 2) := by decide +kernel
theorem d_X6_afforded_24 : decode mX6_afforded.2.2.1 24 = .ok (.iload 5, 2) := by decide +kernel
theorem d_X6_afforded_26 : decode mX6_afforded.2.2.1 26 = .ok (.aload_n 0, 1) := by decide +kernel
theorem d_X6_afforded_27 : decode mX6_afforded.2.2.1 27 = .ok (.getfield 110, 3) := by decide +kernel
theorem d_X6_afforded_30 : decode mX6_afforded.2.2.1 30 = .ok (.if_icmp .le 6, 3) := by decide +kernel
theorem d_X6_afforded_36 : decode mX6_afforded.2.2.1 36 = .ok (.aload_n 0, 1) := by decide +kernel
theorem d_X6_afforded_37 : decode mX6_afforded.2.2.1 37 = .ok (.dup, 1) := by decide +kernel
theorem d_X6_afforded_38 : decode mX6_afforded.2.2.1 38 = .ok (.getfield 110, 3) := by decide +kernel
theorem d_X6_afforded_41 : decode mX6_afforded.2.2.1 41 = .ok (.iload 5, 2) := by decide +kernel
theorem d_X6_afforded_43 : decode mX6_afforded.2.2.1 43 = .ok (.isub, 1) := by decide +kernel
theorem d_X6_afforded_44 : decode mX6_afforded.2.2.1 44 = .ok (.putfield 110, 3) := by decide +kernel
theorem d_X6_afforded_47 : decode mX6_afforded.2.2.1 47 = .ok (.iinc 4 1, 3) := by decide +kernel
theorem d_X6_afforded_50 : decode mX6_afforded.2.2.1 50 = .ok (.goto (-47), 3) := by decide +kernel
theorem d_X6_afforded_33 : decode mX6_afforded.2.2.1 33 = .ok (.iload 4, 2) := by decide +kernel
theorem d_X6_afforded_35 : decode mX6_afforded.2.2.1 35 = .ok (.ireturn, 1) := by decide +kernel
theorem ok_X6_afforded : e_m mX6_afforded 3 := ⟨tblG_in (inT5 (List.mem_of_getElem? (i := 46) rfl)) rfl, plainFor_of_name (by decide), rfl, ini_6, by decide +kernel, by decide⟩
theorem d_X6_pass_29 : decode mX6_pass.2.2.1 29 = .ok (.goto 5, 3) := by decide +kernel
theorem d_X6_pass_34 : decode mX6_pass.2.2.1 34 = .ok (.istore 5, 2) := by decide +kernel
theorem d_X6_pass_36 : decode mX6_pass.2.2.1 36 = .ok (.aload_n 0, 1) := by decide +kernel
theorem d_X6_pass_37 : decode mX6_pass.2.2.1 37 = .ok (.dup, 1) := by decide +kernel
theorem d_X6_pass_38 : decode mX6_pass.2.2.1 38 = .ok (.getfield 68, 3) := by decide +kernel
theorem d_X6_pass_41 : decode mX6_pass.2.2.1 41 = .ok (.iload 5, 2) := by decide +kernel
theorem d_X6_pass_43 : decode mX6_pass.2.2.1 43 = .ok (.iadd, 1) := by decide +kernel
theorem d_X6_pass_44 : decode mX6_pass.2.2.1 44 = .ok (.putfield 68, 3) := by decide +kernel
theorem d_X6_pass_47 : decode mX6_pass.2.2.1 47 = .ok (.iload 5, 2) := by decide +kernel
theorem d_X6_pass_49 : decode mX6_pass.2.2.1 49 = .ok (.iload_n 1, 1) := by decide +kernel
theorem d_X6_pass_50 : decode mX6_pass.2.2.1 50 = .ok (.if_icmp .ge 19, 3) := by decide +kernel
theorem d_X6_pass_69 : decode mX6_pass.2.2.1 69 = .ok (.iload 5, 2) := by decide +kernel
theorem d_X6_pass_71 : decode mX6_pass.2.2.1 71 = .ok (.ireturn, 1) := by decide +kernel
theorem d_X6_pass_53 : decode mX6_pass.2.2.1 53 = .ok (.aload_n 0, 1) := by decide +kernel
theorem d_X6_pass_54 : decode mX6_pass.2.2.1 54 = .ok (.iload 5, 2) := by decide +kernel
theorem d_X6_pass_56 : decode mX6_pass.2.2.1 56 = .ok (.iload 4, 2) := by decide +kernel
theorem d_X6_pass_58 : decode mX6_pass.2.2.1 58 = .ok (.if_icmp .ne 7, 3) := by decide +kernel
theorem d_X6_pass_65 : decode mX6_pass.2.2.1 65 = .ok (.iconst 2, 1) := by decide +kernel
theorem d_X6_pass_66 : decode mX6_pass.2.2.1 66 = .ok (.putfield 62, 3) := by decide +kernel
theorem d_X6_pass_61 : decode mX6_pass.2.2.1 61 = .ok (.iconst 1, 1) := by decide +kernel
theorem d_X6_pass_62 : decode mX6_pass.2.2.1 62 = .ok (.goto 4, 3) := by decide +kernel
theorem ok_X6_pass : e_m mX6_pass 3 := ⟨tblG_in (inT5 (List.mem_of_getElem? (i := 41) rfl)) rfl, plainFor_of_name (by decide), rfl, ini_6, by decide +kernel, by decide⟩
theorem d_X6_step_7 : decode mX6_step.2.2.1 7 = .ok (.ifCond .ne 5, 3) := by decide +kernel
theorem d_X6_step_12 : decode mX6_step.2.2.1 12 = .ok (.aload_n 0, 1) := by decide +kernel
theorem d_X6_step_13 : decode mX6_step.2.2.1 13 = .ok (.dup, 1) := by decide +kernel
theorem d_X6_step_14 : decode mX6_step.2.2.1 14 = .ok (.getfield 97, 3) := by decide +kernel
theorem d_X6_step_17 : decode mX6_step.2.2.1 17 = .ok (.iconst 1, 1) := by decide +kernel
theorem d_X6_step_18 : decode mX6_step.2.2.1 18 = .ok (.iadd, 1) := by decide +kernel
theorem d_X6_step_19 : decode mX6_step.2.2.1 19 = .ok (.putfield 97, 3) := by decide +kernel
theorem d_X6_step_22 : decode mX6_step.2.2.1 22 = .ok (.aload_n 0, 1) := by decide +kernel
theorem d_X6_step_23 : decode mX6_step.2.2.1 23 = .ok (.getfield 46, 3) := by decide +kernel
theorem d_X6_step_26 : decode mX6_step.2.2.1 26 = .ok (.getfield 50, 3) := by decide +kernel
theorem d_X6_step_29 : decode mX6_step.2.2.1 29 = .ok (.astore_n 2, 1) := by decide +kernel
theorem d_X6_step_30 : decode mX6_step.2.2.1 30 = .ok (.aload_n 2, 1) := by decide +kernel
theorem d_X6_step_31 : decode mX6_step.2.2.1 31 = .ok (.getfield 149, 3) := by decide +kernel
theorem f_6_149 : e_fld 6 149 4 2 13 2 true := ⟨RX4, TX4, 2, rfl, rfl, by decide, rfl, rfl, rfl, iX4, tblG_in (inT1 (List.mem_of_getElem? (i := 112) rfl)) rfl, tyX4_ok, nmX4⟩
theorem d_X6_step_34 : decode mX6_step.2.2.1 34 = .ok (.iload_n 1, 1) := by decide +kernel
theorem d_X6_step_35 : decode mX6_step.2.2.1 35 = .ok (.iaload, 1) := by decide +kernel
theorem d_X6_step_36 : decode mX6_step.2.2.1 36 = .ok (.istore_n 3, 1) := by decide +kernel
theorem d_X6_step_37 : decode mX6_step.2.2.1 37 = .ok (.aload_n 2, 1) := by decide +kernel
theorem d_X6_step_38 : decode mX6_step.2.2.1 38 = .ok (.getfield 152, 3) := by decide +kernel
theorem f_6_152 : e_fld 6 152 4 1 13 2 true := ⟨RX4, TX4, 1, rfl, rfl, by decide, rfl, rfl, rfl, iX4, tblG_in (inT1 (List.mem_of_getElem? (i := 109) rfl)) rfl, tyX4_ok, nmX4⟩
theorem d_X6_step_41 : decode mX6_step.2.2.1 41 = .ok (.iload_n 1, 1) := by decide +kernel
theorem d_X6_step_42 : decode mX6_step.2.2.1 42 = .ok (.iaload, 1) := by decide +kernel
theorem d_X6_step_43 : decode mX6_step.2.2.1 43 = .ok (.tableswitch 134 5 10 #[37, 51, 74, 83, 92, 116], 37) := by decide +kernel
theorem d_X6_step_177 : decode mX6_step.2.2.1 177 = .ok (.aload_n 0, 1) := by decide +kernel
theorem d_X6_step_178 : decode mX6_step.2.2.1 178 = .ok (.iload_n 1, 1) := by decide +kernel
theorem d_X6_step_179 : decode mX6_step.2.2.1 179 = .ok (.invokevirtual 155, 3) := by decide +kernel
def mX6_worked : MD := (6, yX6_worked, cX6_worked, 6, some .int)
theorem sel_X6_worked : Cond.instanceMethod mX6_worked.2.1 ∈ tblG ∧ Cond.selects mX6_worked.2.1.cls mX6_worked.2.1 mX6_worked.2.1 ∈ tblG := ⟨tblG_in (inT5 (List.mem_of_getElem? (i := 53) rfl)) rfl, tblG_in (inP4 (q := (mX6_worked.2.1, 18)) (List.mem_of_getElem? (i := 0) rfl)) rfl⟩
theorem s_6_155 : e_siteV 6 155 mX6_worked 6 := ⟨tblG_in (inT5 (List.mem_of_getElem? (i := 51) rfl)) rfl, sel_X6_worked.1, sel_X6_worked.2, rfl⟩
theorem d_X6_worked_0 : decode mX6_worked.2.2.1 0 = .ok (.aload_n 0, 1) := by decide +kernel
theorem d_X6_worked_1 : decode mX6_worked.2.2.1 1 = .ok (.getfield 46, 3) := by decide +kernel
theorem d_X6_worked_4 : decode mX6_worked.2.2.1 4 = .ok (.getfield 50, 3) := by decide +kernel
theorem d_X6_worked_7 : decode mX6_worked.2.2.1 7 = .ok (.astore_n 2, 1) := by decide +kernel
theorem d_X6_worked_8 : decode mX6_worked.2.2.1 8 = .ok (.iconst 0, 1) := by decide +kernel
theorem d_X6_worked_9 : decode mX6_worked.2.2.1 9 = .ok (.istore_n 3, 1) := by decide +kernel
theorem d_X6_worked_10 : decode mX6_worked.2.2.1 10 = .ok (.aload_n 2, 1) := by decide +kernel
theorem d_X6_worked_11 : decode mX6_worked.2.2.1 11 = .ok (.getfield 226, 3) := by decide +kernel
theorem f_6_226 : e_fld 6 226 4 3 13 2 true := ⟨RX4, TX4, 3, rfl, rfl, by decide, rfl, rfl, rfl, iX4, tblG_in (inT1 (List.mem_of_getElem? (i := 115) rfl)) rfl, tyX4_ok, nmX4⟩
theorem d_X6_worked_14 : decode mX6_worked.2.2.1 14 = .ok (.iload_n 1, 1) := by decide +kernel
theorem d_X6_worked_15 : decode mX6_worked.2.2.1 15 = .ok (.iaload, 1) := by decide +kernel
theorem d_X6_worked_16 : decode mX6_worked.2.2.1 16 = .ok (.istore 4, 2) := by decide +kernel
theorem d_X6_worked_18 : decode mX6_worked.2.2.1 18 = .ok (.iload 4, 2) := by decide +kernel
theorem d_X6_worked_20 : decode mX6_worked.2.2.1 20 = .ok (.aload_n 2, 1) := by decide +kernel
theorem d_X6_worked_21 : decode mX6_worked.2.2.1 21 = .ok (.getfield 226, 3) := by decide +kernel
theorem d_X6_worked_24 : decode mX6_worked.2.2.1 24 = .ok (.iload_n 1, 1) := by decide +kernel
theorem d_X6_worked_25 : decode mX6_worked.2.2.1 25 = .ok (.iconst 1, 1) := by decide +kernel
theorem d_X6_worked_26 : decode mX6_worked.2.2.1 26 = .ok (.iadd, 1) := by decide +kernel
theorem d_X6_worked_27 : decode mX6_worked.2.2.1 27 = .ok (.iaload, 1) := by decide +kernel
theorem d_X6_worked_28 : decode mX6_worked.2.2.1 28 = .ok (.if_icmp .ge 128, 3) := by decide +kernel
theorem d_X6_worked_156 : decode mX6_worked.2.2.1 156 = .ok (.iload_n 3, 1) := by decide +kernel
theorem d_X6_worked_157 : decode mX6_worked.2.2.1 157 = .ok (.iconst 1, 1) := by decide +kernel
theorem d_X6_worked_158 : decode mX6_worked.2.2.1 158 = .ok (.if_icmp .ne 12, 3) := by decide +kernel
theorem d_X6_worked_170 : decode mX6_worked.2.2.1 170 = .ok (.iconst 0, 1) := by decide +kernel
theorem d_X6_worked_171 : decode mX6_worked.2.2.1 171 = .ok (.ireturn, 1) := by decide +kernel
theorem d_X6_worked_31 : decode mX6_worked.2.2.1 31 = .ok (.aload_n 2, 1) := by decide +kernel
theorem d_X6_worked_32 : decode mX6_worked.2.2.1 32 = .ok (.getfield 229, 3) := by decide +kernel
theorem f_6_229 : e_fld 6 229 4 9 13 2 true := ⟨RX4, TX4, 9, rfl, rfl, by decide, rfl, rfl, rfl, iX4, tblG_in (inT1 (List.mem_of_getElem? (i := 127) rfl)) rfl, tyX4_ok, nmX4⟩
theorem d_X6_worked_35 : decode mX6_worked.2.2.1 35 = .ok (.iload 4, 2) := by decide +kernel
theorem d_X6_worked_37 : decode mX6_worked.2.2.1 37 = .ok (.iaload, 1) := by decide +kernel
theorem d_X6_worked_38 : decode mX6_worked.2.2.1 38 = .ok (.istore 5, 2) := by decide +kernel
theorem d_X6_worked_40 : decode mX6_worked.2.2.1 40 = .ok (.iload 5, 2) := by decide +kernel
theorem d_X6_worked_42 : decode mX6_worked.2.2.1 42 = .ok (.iconst 5, 1) := by decide +kernel
theorem d_X6_worked_43 : decode mX6_worked.2.2.1 43 = .ok (.if_icmp .ge 36, 3) := by decide +kernel
theorem d_X6_worked_79 : decode mX6_worked.2.2.1 79 = .ok (.iload 5, 2) := by decide +kernel
theorem d_X6_worked_81 : decode mX6_worked.2.2.1 81 = .ok (.iconst 5, 1) := by decide +kernel
theorem d_X6_worked_82 : decode mX6_worked.2.2.1 82 = .ok (.if_icmp .ne 31, 3) := by decide +kernel
theorem d_X6_worked_113 : decode mX6_worked.2.2.1 113 = .ok (.iload_n 3, 1) := by decide +kernel
theorem d_X6_worked_114 : decode mX6_worked.2.2.1 114 = .ok (.iconst 2, 1) := by decide +kernel
theorem d_X6_worked_115 : decode mX6_worked.2.2.1 115 = .ok (.if_icmp .ge 5, 3) := by decide +kernel
theorem d_X6_worked_118 : decode mX6_worked.2.2.1 118 = .ok (.iconst 0, 1) := by decide +kernel
theorem d_X6_worked_119 : decode mX6_worked.2.2.1 119 = .ok (.ireturn, 1) := by decide +kernel
theorem d_X6_worked_85 : decode mX6_worked.2.2.1 85 = .ok (.iload_n 3, 1) := by decide +kernel
theorem d_X6_worked_86 : decode mX6_worked.2.2.1 86 = .ok (.iconst 1, 1) := by decide +kernel
theorem d_X6_worked_87 : decode mX6_worked.2.2.1 87 = .ok (.if_icmp .ge 5, 3) := by decide +kernel
theorem d_X6_worked_90 : decode mX6_worked.2.2.1 90 = .ok (.iconst 0, 1) := by decide +kernel
theorem d_X6_worked_91 : decode mX6_worked.2.2.1 91 = .ok (.ireturn, 1) := by decide +kernel
theorem d_X6_worked_46 : decode mX6_worked.2.2.1 46 = .ok (.iload_n 3, 1) := by decide +kernel
theorem d_X6_worked_47 : decode mX6_worked.2.2.1 47 = .ok (.bipush 64, 2) := by decide +kernel
theorem d_X6_worked_49 : decode mX6_worked.2.2.1 49 = .ok (.if_icmp .lt 5, 3) := by decide +kernel
theorem d_X6_worked_54 : decode mX6_worked.2.2.1 54 = .ok (.aload_n 0, 1) := by decide +kernel
theorem d_X6_worked_55 : decode mX6_worked.2.2.1 55 = .ok (.getfield 18, 3) := by decide +kernel
theorem d_X6_worked_58 : decode mX6_worked.2.2.1 58 = .ok (.iload_n 3, 1) := by decide +kernel
theorem d_X6_worked_59 : decode mX6_worked.2.2.1 59 = .ok (.aload_n 0, 1) := by decide +kernel
theorem d_X6_worked_60 : decode mX6_worked.2.2.1 60 = .ok (.iload 5, 2) := by decide +kernel
theorem d_X6_worked_62 : decode mX6_worked.2.2.1 62 = .ok (.aload_n 2, 1) := by decide +kernel
theorem d_X6_worked_63 : decode mX6_worked.2.2.1 63 = .ok (.getfield 232, 3) := by decide +kernel
theorem f_6_232 : e_fld 6 232 4 10 13 2 true := ⟨RX4, TX4, 10, rfl, rfl, by decide, rfl, rfl, rfl, iX4, tblG_in (inT1 (List.mem_of_getElem? (i := 129) rfl)) rfl, tyX4_ok, nmX4⟩
theorem d_X6_worked_66 : decode mX6_worked.2.2.1 66 = .ok (.iload 4, 2) := by decide +kernel
theorem d_X6_worked_68 : decode mX6_worked.2.2.1 68 = .ok (.iaload, 1) := by decide +kernel
theorem d_X6_worked_69 : decode mX6_worked.2.2.1 69 = .ok (.invokevirtual 235, 3) := by decide +kernel
def mX6_single : MD := (6, yX6_single, cX6_single, 3, some .int)
theorem sel_X6_single : Cond.instanceMethod mX6_single.2.1 ∈ tblG ∧ Cond.selects mX6_single.2.1.cls mX6_single.2.1 mX6_single.2.1 ∈ tblG := ⟨tblG_in (inT5 (List.mem_of_getElem? (i := 57) rfl)) rfl, tblG_in (inP4 (q := (mX6_single.2.1, 18)) (List.mem_of_getElem? (i := 1) rfl)) rfl⟩
theorem s_6_235 : e_siteV 6 235 mX6_single 6 := ⟨tblG_in (inT5 (List.mem_of_getElem? (i := 55) rfl)) rfl, sel_X6_single.1, sel_X6_single.2, rfl⟩
theorem d_X6_single_0 : decode mX6_single.2.2.1 0 = .ok (.iload_n 1, 1) := by decide +kernel
theorem d_X6_single_1 : decode mX6_single.2.2.1 1 = .ok (.tableswitch 57 1 4 #[31, 38, 45, 50], 31) := by decide +kernel
theorem d_X6_single_58 : decode mX6_single.2.2.1 58 = .ok (.iload_n 2, 1) := by decide +kernel
theorem d_X6_single_59 : decode mX6_single.2.2.1 59 = .ok (.ireturn, 1) := by decide +kernel
theorem d_X6_single_51 : decode mX6_single.2.2.1 51 = .ok (.aload_n 0, 1) := by decide +kernel
theorem d_X6_single_52 : decode mX6_single.2.2.1 52 = .ok (.getfield 24, 3) := by decide +kernel
end
/-! 25.09 -/
section
theorem d_X6_single_55 : decode mX6_single.2.2.1 55 = .ok (.iload_n 2, 1) := by decide +kernel
theorem d_X6_single_56 : decode mX6_single.2.2.1 56 = .ok (.iaload, 1) := by decide +kernel
theorem d_X6_single_57 : decode mX6_single.2.2.1 57 = .ok (.ireturn, 1) := by decide +kernel
theorem d_X6_single_46 : decode mX6_single.2.2.1 46 = .ok (.aload_n 0, 1) := by decide +kernel
theorem d_X6_single_47 : decode mX6_single.2.2.1 47 = .ok (.getfield 68, 3) := by decide +kernel
theorem d_X6_single_50 : decode mX6_single.2.2.1 50 = .ok (.ireturn, 1) := by decide +kernel
theorem d_X6_single_39 : decode mX6_single.2.2.1 39 = .ok (.aload_n 0, 1) := by decide +kernel
theorem d_X6_single_40 : decode mX6_single.2.2.1 40 = .ok (.getfield 15, 3) := by decide +kernel
theorem d_X6_single_43 : decode mX6_single.2.2.1 43 = .ok (.iload_n 2, 1) := by decide +kernel
theorem d_X6_single_44 : decode mX6_single.2.2.1 44 = .ok (.iaload, 1) := by decide +kernel
theorem d_X6_single_45 : decode mX6_single.2.2.1 45 = .ok (.ireturn, 1) := by decide +kernel
theorem d_X6_single_32 : decode mX6_single.2.2.1 32 = .ok (.aload_n 0, 1) := by decide +kernel
theorem d_X6_single_33 : decode mX6_single.2.2.1 33 = .ok (.getfield 9, 3) := by decide +kernel
theorem d_X6_single_36 : decode mX6_single.2.2.1 36 = .ok (.iload_n 2, 1) := by decide +kernel
theorem d_X6_single_37 : decode mX6_single.2.2.1 37 = .ok (.iaload, 1) := by decide +kernel
theorem d_X6_single_38 : decode mX6_single.2.2.1 38 = .ok (.ireturn, 1) := by decide +kernel
theorem ok_X6_single : e_m mX6_single 2 := ⟨tblG_in (inT5 (List.mem_of_getElem? (i := 58) rfl)) rfl, plainFor_of_name (by decide), rfl, ini_6, by decide +kernel, by decide⟩
theorem d_X6_worked_72 : decode mX6_worked.2.2.1 72 = .ok (.iastore, 1) := by decide +kernel
theorem d_X6_worked_73 : decode mX6_worked.2.2.1 73 = .ok (.iinc 3 1, 3) := by decide +kernel
theorem d_X6_worked_76 : decode mX6_worked.2.2.1 76 = .ok (.goto 74, 3) := by decide +kernel
theorem d_X6_worked_150 : decode mX6_worked.2.2.1 150 = .ok (.iinc 4 1, 3) := by decide +kernel
theorem d_X6_worked_153 : decode mX6_worked.2.2.1 153 = .ok (.goto (-135), 3) := by decide +kernel
theorem d_X6_worked_161 : decode mX6_worked.2.2.1 161 = .ok (.aload_n 0, 1) := by decide +kernel
theorem d_X6_worked_162 : decode mX6_worked.2.2.1 162 = .ok (.getfield 18, 3) := by decide +kernel
theorem d_X6_worked_165 : decode mX6_worked.2.2.1 165 = .ok (.iconst 0, 1) := by decide +kernel
theorem d_X6_worked_166 : decode mX6_worked.2.2.1 166 = .ok (.iaload, 1) := by decide +kernel
theorem d_X6_worked_167 : decode mX6_worked.2.2.1 167 = .ok (.goto 4, 3) := by decide +kernel
theorem d_X6_worked_92 : decode mX6_worked.2.2.1 92 = .ok (.aload_n 0, 1) := by decide +kernel
theorem d_X6_worked_93 : decode mX6_worked.2.2.1 93 = .ok (.getfield 18, 3) := by decide +kernel
theorem d_X6_worked_96 : decode mX6_worked.2.2.1 96 = .ok (.iload_n 3, 1) := by decide +kernel
theorem d_X6_worked_97 : decode mX6_worked.2.2.1 97 = .ok (.iconst 1, 1) := by decide +kernel
theorem d_X6_worked_98 : decode mX6_worked.2.2.1 98 = .ok (.isub, 1) := by decide +kernel
theorem d_X6_worked_99 : decode mX6_worked.2.2.1 99 = .ok (.iconst 1, 1) := by decide +kernel
theorem d_X6_worked_100 : decode mX6_worked.2.2.1 100 = .ok (.aload_n 0, 1) := by decide +kernel
theorem d_X6_worked_101 : decode mX6_worked.2.2.1 101 = .ok (.getfield 18, 3) := by decide +kernel
theorem d_X6_worked_104 : decode mX6_worked.2.2.1 104 = .ok (.iload_n 3, 1) := by decide +kernel
theorem d_X6_worked_105 : decode mX6_worked.2.2.1 105 = .ok (.iconst 1, 1) := by decide +kernel
theorem d_X6_worked_106 : decode mX6_worked.2.2.1 106 = .ok (.isub, 1) := by decide +kernel
theorem d_X6_worked_107 : decode mX6_worked.2.2.1 107 = .ok (.iaload, 1) := by decide +kernel
theorem d_X6_worked_108 : decode mX6_worked.2.2.1 108 = .ok (.isub, 1) := by decide +kernel
theorem d_X6_worked_109 : decode mX6_worked.2.2.1 109 = .ok (.iastore, 1) := by decide +kernel
theorem d_X6_worked_110 : decode mX6_worked.2.2.1 110 = .ok (.goto 40, 3) := by decide +kernel
theorem d_X6_worked_120 : decode mX6_worked.2.2.1 120 = .ok (.iinc 3 (-1), 3) := by decide +kernel
theorem d_X6_worked_123 : decode mX6_worked.2.2.1 123 = .ok (.aload_n 0, 1) := by decide +kernel
theorem d_X6_worked_124 : decode mX6_worked.2.2.1 124 = .ok (.getfield 18, 3) := by decide +kernel
theorem d_X6_worked_127 : decode mX6_worked.2.2.1 127 = .ok (.iload_n 3, 1) := by decide +kernel
theorem d_X6_worked_128 : decode mX6_worked.2.2.1 128 = .ok (.iconst 1, 1) := by decide +kernel
theorem d_X6_worked_129 : decode mX6_worked.2.2.1 129 = .ok (.isub, 1) := by decide +kernel
theorem d_X6_worked_130 : decode mX6_worked.2.2.1 130 = .ok (.iload 5, 2) := by decide +kernel
theorem d_X6_worked_132 : decode mX6_worked.2.2.1 132 = .ok (.aload_n 0, 1) := by decide +kernel
theorem d_X6_worked_133 : decode mX6_worked.2.2.1 133 = .ok (.getfield 18, 3) := by decide +kernel
theorem d_X6_worked_136 : decode mX6_worked.2.2.1 136 = .ok (.iload_n 3, 1) := by decide +kernel
theorem d_X6_worked_137 : decode mX6_worked.2.2.1 137 = .ok (.iconst 1, 1) := by decide +kernel
theorem d_X6_worked_138 : decode mX6_worked.2.2.1 138 = .ok (.isub, 1) := by decide +kernel
theorem d_X6_worked_139 : decode mX6_worked.2.2.1 139 = .ok (.iaload, 1) := by decide +kernel
theorem d_X6_worked_140 : decode mX6_worked.2.2.1 140 = .ok (.aload_n 0, 1) := by decide +kernel
theorem d_X6_worked_141 : decode mX6_worked.2.2.1 141 = .ok (.getfield 18, 3) := by decide +kernel
theorem d_X6_worked_144 : decode mX6_worked.2.2.1 144 = .ok (.iload_n 3, 1) := by decide +kernel
theorem d_X6_worked_145 : decode mX6_worked.2.2.1 145 = .ok (.iaload, 1) := by decide +kernel
theorem d_X6_worked_146 : decode mX6_worked.2.2.1 146 = .ok (.invokestatic 238, 3) := by decide +kernel
def mX6_joined : MD := (6, yX6_joined, cX6_joined, 3, some .int)
theorem s_6_238 : e_siteS 6 238 mX6_joined := ⟨tblG_in (inT5 (List.mem_of_getElem? (i := 59) rfl)) rfl, tblG_in (inT5 (List.mem_of_getElem? (i := 60) rfl)) rfl⟩
theorem d_X6_joined_0 : decode mX6_joined.2.2.1 0 = .ok (.iload_n 0, 1) := by decide +kernel
theorem d_X6_joined_1 : decode mX6_joined.2.2.1 1 = .ok (.tableswitch 163 6 16 #[59, 68, 77, 86, 100, 114, 120, 126, 137, 148, 159], 59) := by decide +kernel
theorem d_X6_joined_164 : decode mX6_joined.2.2.1 164 = .ok (.iload_n 1, 1) := by decide +kernel
theorem d_X6_joined_165 : decode mX6_joined.2.2.1 165 = .ok (.iload_n 2, 1) := by decide +kernel
theorem d_X6_joined_166 : decode mX6_joined.2.2.1 166 = .ok (.ior, 1) := by decide +kernel
theorem d_X6_joined_167 : decode mX6_joined.2.2.1 167 = .ok (.ireturn, 1) := by decide +kernel
theorem d_X6_joined_160 : decode mX6_joined.2.2.1 160 = .ok (.iload_n 1, 1) := by decide +kernel
theorem d_X6_joined_161 : decode mX6_joined.2.2.1 161 = .ok (.iload_n 2, 1) := by decide +kernel
theorem d_X6_joined_162 : decode mX6_joined.2.2.1 162 = .ok (.iand, 1) := by decide +kernel
theorem d_X6_joined_163 : decode mX6_joined.2.2.1 163 = .ok (.ireturn, 1) := by decide +kernel
theorem d_X6_joined_149 : decode mX6_joined.2.2.1 149 = .ok (.iload_n 1, 1) := by decide +kernel
theorem d_X6_joined_150 : decode mX6_joined.2.2.1 150 = .ok (.iload_n 2, 1) := by decide +kernel
theorem d_X6_joined_151 : decode mX6_joined.2.2.1 151 = .ok (.if_icmp .ne 7, 3) := by decide +kernel
theorem d_X6_joined_158 : decode mX6_joined.2.2.1 158 = .ok (.iconst 0, 1) := by decide +kernel
theorem d_X6_joined_159 : decode mX6_joined.2.2.1 159 = .ok (.ireturn, 1) := by decide +kernel
theorem d_X6_joined_154 : decode mX6_joined.2.2.1 154 = .ok (.iconst 1, 1) := by decide +kernel
theorem d_X6_joined_155 : decode mX6_joined.2.2.1 155 = .ok (.goto 4, 3) := by decide +kernel
theorem d_X6_joined_138 : decode mX6_joined.2.2.1 138 = .ok (.iload_n 1, 1) := by decide +kernel
theorem d_X6_joined_139 : decode mX6_joined.2.2.1 139 = .ok (.iload_n 2, 1) := by decide +kernel
theorem d_X6_joined_140 : decode mX6_joined.2.2.1 140 = .ok (.if_icmp .le 7, 3) := by decide +kernel
theorem d_X6_joined_147 : decode mX6_joined.2.2.1 147 = .ok (.iconst 0, 1) := by decide +kernel
theorem d_X6_joined_148 : decode mX6_joined.2.2.1 148 = .ok (.ireturn, 1) := by decide +kernel
theorem d_X6_joined_143 : decode mX6_joined.2.2.1 143 = .ok (.iconst 1, 1) := by decide +kernel
theorem d_X6_joined_144 : decode mX6_joined.2.2.1 144 = .ok (.goto 4, 3) := by decide +kernel
theorem d_X6_joined_127 : decode mX6_joined.2.2.1 127 = .ok (.iload_n 1, 1) := by decide +kernel
theorem d_X6_joined_128 : decode mX6_joined.2.2.1 128 = .ok (.iload_n 2, 1) := by decide +kernel
theorem d_X6_joined_129 : decode mX6_joined.2.2.1 129 = .ok (.if_icmp .ge 7, 3) := by decide +kernel
theorem d_X6_joined_136 : decode mX6_joined.2.2.1 136 = .ok (.iconst 0, 1) := by decide +kernel
theorem d_X6_joined_137 : decode mX6_joined.2.2.1 137 = .ok (.ireturn, 1) := by decide +kernel
theorem d_X6_joined_132 : decode mX6_joined.2.2.1 132 = .ok (.iconst 1, 1) := by decide +kernel
theorem d_X6_joined_133 : decode mX6_joined.2.2.1 133 = .ok (.goto 4, 3) := by decide +kernel
theorem d_X6_joined_121 : decode mX6_joined.2.2.1 121 = .ok (.iload_n 1, 1) := by decide +kernel
theorem d_X6_joined_122 : decode mX6_joined.2.2.1 122 = .ok (.iload_n 2, 1) := by decide +kernel
theorem d_X6_joined_123 : decode mX6_joined.2.2.1 123 = .ok (.invokestatic 119, 3) := by decide +kernel
theorem mw_mmax : Cond.static Lib.Math.max.name ∈ tblG ∧ Cond.initialized "java/lang/Math" ∈ tblG ∧ Cond.code Lib.Math.max.name Lib.Math.max.code 2 (some .int) ∈ tblG := ⟨tblG_in (inT3 (List.mem_of_getElem? (i := 210) rfl)) rfl, tblG_in (inT1 (List.mem_of_getElem? (i := 19) rfl)) rfl, tblG_in (inT3 (List.mem_of_getElem? (i := 211) rfl)) rfl⟩
theorem ml_6_119 : Cond.methodLink (e_cn 6) 119 Lib.Math.max.name ∈ tblG := tblG_in (inT5 (List.mem_of_getElem? (i := 79) rfl)) rfl
theorem d_X6_joined_126 : decode mX6_joined.2.2.1 126 = .ok (.ireturn, 1) := by decide +kernel
theorem d_X6_joined_115 : decode mX6_joined.2.2.1 115 = .ok (.iload_n 1, 1) := by decide +kernel
theorem d_X6_joined_116 : decode mX6_joined.2.2.1 116 = .ok (.iload_n 2, 1) := by decide +kernel
theorem d_X6_joined_117 : decode mX6_joined.2.2.1 117 = .ok (.invokestatic 158, 3) := by decide +kernel
theorem d_X6_joined_120 : decode mX6_joined.2.2.1 120 = .ok (.ireturn, 1) := by decide +kernel
theorem d_X6_joined_101 : decode mX6_joined.2.2.1 101 = .ok (.iload_n 2, 1) := by decide +kernel
theorem d_X6_joined_102 : decode mX6_joined.2.2.1 102 = .ok (.ifCond .ne 7, 3) := by decide +kernel
theorem d_X6_joined_109 : decode mX6_joined.2.2.1 109 = .ok (.iload_n 1, 1) := by decide +kernel
theorem d_X6_joined_110 : decode mX6_joined.2.2.1 110 = .ok (.iload_n 2, 1) := by decide +kernel
theorem d_X6_joined_111 : decode mX6_joined.2.2.1 111 = .ok (.invokestatic 171, 3) := by decide +kernel
def mJ9_floorMod_7cf53 : MD := (15, yJ9_floorMod_7cf53, cJ9_floorMod_7cf53, 3, some .int)
theorem s_6_171 : e_siteS 6 171 mJ9_floorMod_7cf53 := ⟨tblG_in (inT5 (List.mem_of_getElem? (i := 76) rfl)) rfl, tblG_in (inT5 (List.mem_of_getElem? (i := 77) rfl)) rfl⟩
theorem d_J9_floorMod_7cf53_0 : decode mJ9_floorMod_7cf53.2.2.1 0 = .ok (.iload_n 0, 1) := by decide +kernel
theorem d_J9_floorMod_7cf53_1 : decode mJ9_floorMod_7cf53.2.2.1 1 = .ok (.iload_n 1, 1) := by decide +kernel
theorem d_J9_floorMod_7cf53_2 : decode mJ9_floorMod_7cf53.2.2.1 2 = .ok (.irem, 1) := by decide +kernel
theorem d_J9_floorMod_7cf53_3 : decode mJ9_floorMod_7cf53.2.2.1 3 = .ok (.istore_n 2, 1) := by decide +kernel
theorem d_J9_floorMod_7cf53_4 : decode mJ9_floorMod_7cf53.2.2.1 4 = .ok (.iload_n 0, 1) := by decide +kernel
theorem d_J9_floorMod_7cf53_5 : decode mJ9_floorMod_7cf53.2.2.1 5 = .ok (.iload_n 1, 1) := by decide +kernel
theorem d_J9_floorMod_7cf53_6 : decode mJ9_floorMod_7cf53.2.2.1 6 = .ok (.ixor, 1) := by decide +kernel
theorem d_J9_floorMod_7cf53_7 : decode mJ9_floorMod_7cf53.2.2.1 7 = .ok (.ifCond .ge 11, 3) := by decide +kernel
theorem d_J9_floorMod_7cf53_18 : decode mJ9_floorMod_7cf53.2.2.1 18 = .ok (.iload_n 2, 1) := by decide +kernel
theorem d_J9_floorMod_7cf53_19 : decode mJ9_floorMod_7cf53.2.2.1 19 = .ok (.ireturn, 1) := by decide +kernel
theorem d_J9_floorMod_7cf53_10 : decode mJ9_floorMod_7cf53.2.2.1 10 = .ok (.iload_n 2, 1) := by decide +kernel
theorem d_J9_floorMod_7cf53_11 : decode mJ9_floorMod_7cf53.2.2.1 11 = .ok (.ifCond .eq 7, 3) := by decide +kernel
theorem d_J9_floorMod_7cf53_14 : decode mJ9_floorMod_7cf53.2.2.1 14 = .ok (.iload_n 2, 1) := by decide +kernel
theorem d_J9_floorMod_7cf53_15 : decode mJ9_floorMod_7cf53.2.2.1 15 = .ok (.iload_n 1, 1) := by decide +kernel
theorem d_J9_floorMod_7cf53_16 : decode mJ9_floorMod_7cf53.2.2.1 16 = .ok (.iadd, 1) := by decide +kernel
theorem d_J9_floorMod_7cf53_17 : decode mJ9_floorMod_7cf53.2.2.1 17 = .ok (.ireturn, 1) := by decide +kernel
theorem ini_15 : Cond.initialized "java/lang/Math" ∈ tblG := tblG_in (inT1 (List.mem_of_getElem? (i := 19) rfl)) rfl
theorem ok_J9_floorMod_7cf53 : e_m mJ9_floorMod_7cf53 2 := ⟨tblG_in (inT5 (List.mem_of_getElem? (i := 78) rfl)) rfl, by decide +kernel, rfl, ini_15, by decide +kernel, by decide⟩
theorem d_X6_joined_114 : decode mX6_joined.2.2.1 114 = .ok (.ireturn, 1) := by decide +kernel
theorem d_X6_joined_105 : decode mX6_joined.2.2.1 105 = .ok (.iconst 0, 1) := by decide +kernel
theorem d_X6_joined_106 : decode mX6_joined.2.2.1 106 = .ok (.goto 8, 3) := by decide +kernel
theorem d_X6_joined_87 : decode mX6_joined.2.2.1 87 = .ok (.iload_n 2, 1) := by decide +kernel
theorem d_X6_joined_88 : decode mX6_joined.2.2.1 88 = .ok (.ifCond .ne 7, 3) := by decide +kernel
theorem d_X6_joined_95 : decode mX6_joined.2.2.1 95 = .ok (.iload_n 1, 1) := by decide +kernel
theorem d_X6_joined_96 : decode mX6_joined.2.2.1 96 = .ok (.iload_n 2, 1) := by decide +kernel
theorem d_X6_joined_97 : decode mX6_joined.2.2.1 97 = .ok (.invokestatic 245, 3) := by decide +kernel
def mJ9_floorDiv_7cf53 : MD := (15, yJ9_floorDiv_7cf53, cJ9_floorDiv_7cf53, 3, some .int)
theorem s_6_245 : e_siteS 6 245 mJ9_floorDiv_7cf53 := ⟨tblG_in (inT5 (List.mem_of_getElem? (i := 73) rfl)) rfl, tblG_in (inT5 (List.mem_of_getElem? (i := 74) rfl)) rfl⟩
theorem d_J9_floorDiv_7cf53_0 : decode mJ9_floorDiv_7cf53.2.2.1 0 = .ok (.iload_n 0, 1) := by decide +kernel
theorem d_J9_floorDiv_7cf53_1 : decode mJ9_floorDiv_7cf53.2.2.1 1 = .ok (.iload_n 1, 1) := by decide +kernel
theorem d_J9_floorDiv_7cf53_2 : decode mJ9_floorDiv_7cf53.2.2.1 2 = .ok (.idiv, 1) := by decide +kernel
theorem d_J9_floorDiv_7cf53_3 : decode mJ9_floorDiv_7cf53.2.2.1 3 = .ok (.istore_n 2, 1) := by decide +kernel
theorem d_J9_floorDiv_7cf53_4 : decode mJ9_floorDiv_7cf53.2.2.1 4 = .ok (.iload_n 0, 1) := by decide +kernel
theorem d_J9_floorDiv_7cf53_5 : decode mJ9_floorDiv_7cf53.2.2.1 5 = .ok (.iload_n 1, 1) := by decide +kernel
theorem d_J9_floorDiv_7cf53_6 : decode mJ9_floorDiv_7cf53.2.2.1 6 = .ok (.ixor, 1) := by decide +kernel
theorem d_J9_floorDiv_7cf53_7 : decode mJ9_floorDiv_7cf53.2.2.1 7 = .ok (.ifCond .ge 14, 3) := by decide +kernel
theorem d_J9_floorDiv_7cf53_21 : decode mJ9_floorDiv_7cf53.2.2.1 21 = .ok (.iload_n 2, 1) := by decide +kernel
theorem d_J9_floorDiv_7cf53_22 : decode mJ9_floorDiv_7cf53.2.2.1 22 = .ok (.ireturn, 1) := by decide +kernel
theorem d_J9_floorDiv_7cf53_10 : decode mJ9_floorDiv_7cf53.2.2.1 10 = .ok (.iload_n 2, 1) := by decide +kernel
theorem d_J9_floorDiv_7cf53_11 : decode mJ9_floorDiv_7cf53.2.2.1 11 = .ok (.iload_n 1, 1) := by decide +kernel
theorem d_J9_floorDiv_7cf53_12 : decode mJ9_floorDiv_7cf53.2.2.1 12 = .ok (.imul, 1) := by decide +kernel
theorem d_J9_floorDiv_7cf53_13 : decode mJ9_floorDiv_7cf53.2.2.1 13 = .ok (.iload_n 0, 1) := by decide +kernel
theorem d_J9_floorDiv_7cf53_14 : decode mJ9_floorDiv_7cf53.2.2.1 14 = .ok (.if_icmp .eq 7, 3) := by decide +kernel
theorem d_J9_floorDiv_7cf53_17 : decode mJ9_floorDiv_7cf53.2.2.1 17 = .ok (.iload_n 2, 1) := by decide +kernel
theorem d_J9_floorDiv_7cf53_18 : decode mJ9_floorDiv_7cf53.2.2.1 18 = .ok (.iconst 1, 1) := by decide +kernel
theorem d_J9_floorDiv_7cf53_19 : decode mJ9_floorDiv_7cf53.2.2.1 19 = .ok (.isub, 1) := by decide +kernel
theorem d_J9_floorDiv_7cf53_20 : decode mJ9_floorDiv_7cf53.2.2.1 20 = .ok (.ireturn, 1) := by decide +kernel
theorem ok_J9_floorDiv_7cf53 : e_m mJ9_floorDiv_7cf53 2 := ⟨tblG_in (inT5 (List.mem_of_getElem? (i := 75) rfl)) rfl, by decide +kernel, rfl, ini_15, by decide +kernel, by decide⟩
theorem d_X6_joined_100 : decode mX6_joined.2.2.1 100 = .ok (.ireturn, 1) := by decide +kernel
theorem d_X6_joined_91 : decode mX6_joined.2.2.1 91 = .ok (.iconst 0, 1) := by decide +kernel
theorem d_X6_joined_92 : decode mX6_joined.2.2.1 92 = .ok (.goto 8, 3) := by decide +kernel
theorem d_X6_joined_78 : decode mX6_joined.2.2.1 78 = .ok (.iload_n 1, 1) := by decide +kernel
theorem d_X6_joined_79 : decode mX6_joined.2.2.1 79 = .ok (.i2l, 1) := by decide +kernel
theorem d_X6_joined_80 : decode mX6_joined.2.2.1 80 = .ok (.iload_n 2, 1) := by decide +kernel
theorem d_X6_joined_81 : decode mX6_joined.2.2.1 81 = .ok (.i2l, 1) := by decide +kernel
theorem d_X6_joined_82 : decode mX6_joined.2.2.1 82 = .ok (.lmul, 1) := by decide +kernel
theorem d_X6_joined_83 : decode mX6_joined.2.2.1 83 = .ok (.invokestatic 241, 3) := by decide +kernel
def mX6_bounded : MD := (6, yX6_bounded, cX6_bounded, 2, some .int)
theorem s_6_241 : e_siteS 6 241 mX6_bounded := ⟨tblG_in (inT5 (List.mem_of_getElem? (i := 62) rfl)) rfl, tblG_in (inT5 (List.mem_of_getElem? (i := 63) rfl)) rfl⟩
theorem d_X6_bounded_0 : decode mX6_bounded.2.2.1 0 = .ok (.lload_n 0, 1) := by decide +kernel
theorem d_X6_bounded_1 : decode mX6_bounded.2.2.1 1 = .ok (.ldc2_w 248, 3) := by decide +kernel
theorem kl_6_248 : Jvm.Cond.constantLong (e_cn 6) 248 (Int64.ofInt (-1000000)) ∈ tblG := tblG_in (inT5 (List.mem_of_getElem? (i := 65) rfl)) rfl
theorem d_X6_bounded_4 : decode mX6_bounded.2.2.1 4 = .ok (.invokestatic 250, 3) := by decide +kernel
theorem mw_mmaxL : Cond.static Lib.MathLoose.max_long.x ∈ tblG ∧ Cond.initialized "java/lang/Math" ∈ tblG ∧ Cond.code Lib.MathLoose.max_long.x Lib.MathLoose.max_long.code 4 (some .long) ∈ tblG := ⟨tblG_in (inT5 (List.mem_of_getElem? (i := 67) rfl)) rfl, tblG_in (inT1 (List.mem_of_getElem? (i := 19) rfl)) rfl, tblG_in (inT5 (List.mem_of_getElem? (i := 68) rfl)) rfl⟩
theorem ml_6_250 : Cond.methodLink (e_cn 6) 250 Lib.MathLoose.max_long.x ∈ tblG := tblG_in (inT5 (List.mem_of_getElem? (i := 66) rfl)) rfl
theorem d_X6_bounded_7 : decode mX6_bounded.2.2.1 7 = .ok (.ldc2_w 253, 3) := by decide +kernel
theorem kl_6_253 : Jvm.Cond.constantLong (e_cn 6) 253 (Int64.ofInt 1000000) ∈ tblG := tblG_in (inT5 (List.mem_of_getElem? (i := 69) rfl)) rfl
theorem d_X6_bounded_10 : decode mX6_bounded.2.2.1 10 = .ok (.invokestatic 255, 3) := by decide +kernel
theorem mw_mminL : Cond.static Lib.MathLoose.min_long.x ∈ tblG ∧ Cond.initialized "java/lang/Math" ∈ tblG ∧ Cond.code Lib.MathLoose.min_long.x Lib.MathLoose.min_long.code 4 (some .long) ∈ tblG := ⟨tblG_in (inT5 (List.mem_of_getElem? (i := 71) rfl)) rfl, tblG_in (inT1 (List.mem_of_getElem? (i := 19) rfl)) rfl, tblG_in (inT5 (List.mem_of_getElem? (i := 72) rfl)) rfl⟩
theorem ml_6_255 : Cond.methodLink (e_cn 6) 255 Lib.MathLoose.min_long.x ∈ tblG := tblG_in (inT5 (List.mem_of_getElem? (i := 70) rfl)) rfl
theorem d_X6_bounded_13 : decode mX6_bounded.2.2.1 13 = .ok (.l2i, 1) := by decide +kernel
theorem d_X6_bounded_14 : decode mX6_bounded.2.2.1 14 = .ok (.ireturn, 1) := by decide +kernel
theorem ok_X6_bounded : e_m mX6_bounded 1 := ⟨tblG_in (inT5 (List.mem_of_getElem? (i := 64) rfl)) rfl, plainFor_of_name (by decide), rfl, ini_6, by decide +kernel, by decide⟩
theorem d_X6_joined_86 : decode mX6_joined.2.2.1 86 = .ok (.ireturn, 1) := by decide +kernel
theorem d_X6_joined_69 : decode mX6_joined.2.2.1 69 = .ok (.iload_n 1, 1) := by decide +kernel
theorem d_X6_joined_70 : decode mX6_joined.2.2.1 70 = .ok (.i2l, 1) := by decide +kernel
theorem d_X6_joined_71 : decode mX6_joined.2.2.1 71 = .ok (.iload_n 2, 1) := by decide +kernel
theorem d_X6_joined_72 : decode mX6_joined.2.2.1 72 = .ok (.i2l, 1) := by decide +kernel
theorem d_X6_joined_73 : decode mX6_joined.2.2.1 73 = .ok (.lsub, 1) := by decide +kernel
theorem d_X6_joined_74 : decode mX6_joined.2.2.1 74 = .ok (.invokestatic 241, 3) := by decide +kernel
theorem d_X6_joined_77 : decode mX6_joined.2.2.1 77 = .ok (.ireturn, 1) := by decide +kernel
theorem d_X6_joined_60 : decode mX6_joined.2.2.1 60 = .ok (.iload_n 1, 1) := by decide +kernel
theorem d_X6_joined_61 : decode mX6_joined.2.2.1 61 = .ok (.i2l, 1) := by decide +kernel
theorem d_X6_joined_62 : decode mX6_joined.2.2.1 62 = .ok (.iload_n 2, 1) := by decide +kernel
theorem d_X6_joined_63 : decode mX6_joined.2.2.1 63 = .ok (.i2l, 1) := by decide +kernel
theorem d_X6_joined_64 : decode mX6_joined.2.2.1 64 = .ok (.ladd, 1) := by decide +kernel
theorem d_X6_joined_65 : decode mX6_joined.2.2.1 65 = .ok (.invokestatic 241, 3) := by decide +kernel
theorem d_X6_joined_68 : decode mX6_joined.2.2.1 68 = .ok (.ireturn, 1) := by decide +kernel
theorem ok_X6_joined : e_m mX6_joined 3 := ⟨tblG_in (inT5 (List.mem_of_getElem? (i := 61) rfl)) rfl, plainFor_of_name (by decide), rfl, ini_6, by decide +kernel, by decide⟩
theorem d_X6_worked_149 : decode mX6_worked.2.2.1 149 = .ok (.iastore, 1) := by decide +kernel
theorem d_X6_worked_52 : decode mX6_worked.2.2.1 52 = .ok (.iconst 0, 1) := by decide +kernel
theorem d_X6_worked_53 : decode mX6_worked.2.2.1 53 = .ok (.ireturn, 1) := by decide +kernel
theorem ok_X6_worked : e_m mX6_worked 1 := ⟨tblG_in (inT5 (List.mem_of_getElem? (i := 54) rfl)) rfl, plainFor_of_name (by decide), rfl, ini_6, by decide +kernel, by decide⟩
theorem d_X6_step_182 : decode mX6_step.2.2.1 182 = .ok (.ifCond .eq 12, 3) := by decide +kernel
theorem d_X6_step_194 : decode mX6_step.2.2.1 194 = .ok (.aload_n 2, 1) := by decide +kernel
theorem d_X6_step_195 : decode mX6_step.2.2.1 195 = .ok (.getfield 180, 3) := by decide +kernel
theorem f_6_180 : e_fld 6 180 4 5 13 2 true := ⟨RX4, TX4, 5, rfl, rfl, by decide, rfl, rfl, rfl, iX4, tblG_in (inT1 (List.mem_of_getElem? (i := 120) rfl)) rfl, tyX4_ok, nmX4⟩
theorem d_X6_step_198 : decode mX6_step.2.2.1 198 = .ok (.iload_n 1, 1) := by decide +kernel
theorem d_X6_step_199 : decode mX6_step.2.2.1 199 = .ok (.iaload, 1) := by decide +kernel
theorem d_X6_step_200 : decode mX6_step.2.2.1 200 = .ok (.ireturn, 1) := by decide +kernel
theorem d_X6_step_185 : decode mX6_step.2.2.1 185 = .ok (.aload_n 2, 1) := by decide +kernel
theorem d_X6_step_186 : decode mX6_step.2.2.1 186 = .ok (.getfield 177, 3) := by decide +kernel
theorem f_6_177 : e_fld 6 177 4 4 13 2 true := ⟨RX4, TX4, 4, rfl, rfl, by decide, rfl, rfl, rfl, iX4, tblG_in (inT1 (List.mem_of_getElem? (i := 117) rfl)) rfl, tyX4_ok, nmX4⟩
theorem d_X6_step_189 : decode mX6_step.2.2.1 189 = .ok (.iload_n 1, 1) := by decide +kernel
theorem d_X6_step_190 : decode mX6_step.2.2.1 190 = .ok (.iaload, 1) := by decide +kernel
theorem d_X6_step_191 : decode mX6_step.2.2.1 191 = .ok (.goto 9, 3) := by decide +kernel
theorem d_X6_step_159 : decode mX6_step.2.2.1 159 = .ok (.aload_n 0, 1) := by decide +kernel
theorem d_X6_step_160 : decode mX6_step.2.2.1 160 = .ok (.aload_n 0, 1) := by decide +kernel
theorem d_X6_step_161 : decode mX6_step.2.2.1 161 = .ok (.iload_n 1, 1) := by decide +kernel
theorem d_X6_step_162 : decode mX6_step.2.2.1 162 = .ok (.invokevirtual 155, 3) := by decide +kernel
theorem d_X6_step_165 : decode mX6_step.2.2.1 165 = .ok (.sipush 1000, 3) := by decide +kernel
theorem d_X6_step_168 : decode mX6_step.2.2.1 168 = .ok (.invokestatic 171, 3) := by decide +kernel
theorem d_X6_step_171 : decode mX6_step.2.2.1 171 = .ok (.invokevirtual 174, 3) := by decide +kernel
def mX6_touch : MD := (6, yX6_touch, cX6_touch, 4, none)
theorem sel_X6_touch : Cond.instanceMethod mX6_touch.2.1 ∈ tblG ∧ Cond.selects mX6_touch.2.1.cls mX6_touch.2.1 mX6_touch.2.1 ∈ tblG := ⟨tblG_in (inT5 (List.mem_of_getElem? (i := 146) rfl)) rfl, tblG_in (inP4 (q := (mX6_touch.2.1, 18)) (List.mem_of_getElem? (i := 8) rfl)) rfl⟩
theorem s_6_174 : e_siteV 6 174 mX6_touch 6 := ⟨tblG_in (inT5 (List.mem_of_getElem? (i := 144) rfl)) rfl, sel_X6_touch.1, sel_X6_touch.2, rfl⟩
theorem d_X6_touch_0 : decode mX6_touch.2.2.1 0 = .ok (.aload_n 0, 1) := by decide +kernel
theorem d_X6_touch_1 : decode mX6_touch.2.2.1 1 = .ok (.dup, 1) := by decide +kernel
theorem d_X6_touch_2 : decode mX6_touch.2.2.1 2 = .ok (.getfield 103, 3) := by decide +kernel
theorem d_X6_touch_5 : decode mX6_touch.2.2.1 5 = .ok (.iconst 1, 1) := by decide +kernel
end
/-! 25.10 -/
section
theorem d_X6_touch_6 : decode mX6_touch.2.2.1 6 = .ok (.iadd, 1) := by decide +kernel
theorem d_X6_touch_7 : decode mX6_touch.2.2.1 7 = .ok (.putfield 103, 3) := by decide +kernel
theorem d_X6_touch_10 : decode mX6_touch.2.2.1 10 = .ok (.aload_n 0, 1) := by decide +kernel
theorem d_X6_touch_11 : decode mX6_touch.2.2.1 11 = .ok (.getfield 46, 3) := by decide +kernel
theorem d_X6_touch_14 : decode mX6_touch.2.2.1 14 = .ok (.getfield 217, 3) := by decide +kernel
theorem f_6_217 : e_fld 6 217 3 2 12 0 false := ⟨RX3, TX3, 2, rfl, rfl, by decide, rfl, rfl, rfl, iX3, tblG_in (inT1 (List.mem_of_getElem? (i := 167) rfl)) rfl, tyX3_ok, nmX3⟩
theorem d_X6_touch_17 : decode mX6_touch.2.2.1 17 = .ok (.ifCond .le 25, 3) := by decide +kernel
theorem d_X6_touch_42 : decode mX6_touch.2.2.1 42 = .ok (.return_, 1) := by decide +kernel
theorem d_X6_touch_20 : decode mX6_touch.2.2.1 20 = .ok (.aload_n 0, 1) := by decide +kernel
theorem d_X6_touch_21 : decode mX6_touch.2.2.1 21 = .ok (.getfield 46, 3) := by decide +kernel
theorem d_X6_touch_24 : decode mX6_touch.2.2.1 24 = .ok (.getfield 220, 3) := by decide +kernel
theorem f_6_220 : e_fld 6 220 3 1 12 0 false := ⟨RX3, TX3, 1, rfl, rfl, by decide, rfl, rfl, rfl, iX3, tblG_in (inT1 (List.mem_of_getElem? (i := 164) rfl)) rfl, tyX3_ok, nmX3⟩
theorem d_X6_touch_27 : decode mX6_touch.2.2.1 27 = .ok (.ifCond .le 15, 3) := by decide +kernel
theorem d_X6_touch_30 : decode mX6_touch.2.2.1 30 = .ok (.aload_n 0, 1) := by decide +kernel
theorem d_X6_touch_31 : decode mX6_touch.2.2.1 31 = .ok (.getfield 46, 3) := by decide +kernel
theorem d_X6_touch_34 : decode mX6_touch.2.2.1 34 = .ok (.getfield 220, 3) := by decide +kernel
theorem d_X6_touch_37 : decode mX6_touch.2.2.1 37 = .ok (.bipush 8, 2) := by decide +kernel
theorem d_X6_touch_39 : decode mX6_touch.2.2.1 39 = .ok (.if_icmp .le 4, 3) := by decide +kernel
theorem d_X6_touch_43 : decode mX6_touch.2.2.1 43 = .ok (.iload_n 1, 1) := by decide +kernel
theorem d_X6_touch_44 : decode mX6_touch.2.2.1 44 = .ok (.aload_n 0, 1) := by decide +kernel
theorem d_X6_touch_45 : decode mX6_touch.2.2.1 45 = .ok (.getfield 46, 3) := by decide +kernel
theorem d_X6_touch_48 : decode mX6_touch.2.2.1 48 = .ok (.getfield 217, 3) := by decide +kernel
theorem d_X6_touch_51 : decode mX6_touch.2.2.1 51 = .ok (.idiv, 1) := by decide +kernel
theorem d_X6_touch_52 : decode mX6_touch.2.2.1 52 = .ok (.istore_n 2, 1) := by decide +kernel
theorem d_X6_touch_53 : decode mX6_touch.2.2.1 53 = .ok (.iload_n 2, 1) := by decide +kernel
theorem d_X6_touch_54 : decode mX6_touch.2.2.1 54 = .ok (.aload_n 0, 1) := by decide +kernel
theorem d_X6_touch_55 : decode mX6_touch.2.2.1 55 = .ok (.getfield 46, 3) := by decide +kernel
theorem d_X6_touch_58 : decode mX6_touch.2.2.1 58 = .ok (.getfield 220, 3) := by decide +kernel
theorem d_X6_touch_61 : decode mX6_touch.2.2.1 61 = .ok (.irem, 1) := by decide +kernel
theorem d_X6_touch_62 : decode mX6_touch.2.2.1 62 = .ok (.istore_n 3, 1) := by decide +kernel
theorem d_X6_touch_63 : decode mX6_touch.2.2.1 63 = .ok (.aload_n 0, 1) := by decide +kernel
theorem d_X6_touch_64 : decode mX6_touch.2.2.1 64 = .ok (.getfield 21, 3) := by decide +kernel
theorem d_X6_touch_67 : decode mX6_touch.2.2.1 67 = .ok (.iload_n 3, 1) := by decide +kernel
theorem d_X6_touch_68 : decode mX6_touch.2.2.1 68 = .ok (.iaload, 1) := by decide +kernel
theorem d_X6_touch_69 : decode mX6_touch.2.2.1 69 = .ok (.iload_n 2, 1) := by decide +kernel
theorem d_X6_touch_70 : decode mX6_touch.2.2.1 70 = .ok (.if_icmp .eq 34, 3) := by decide +kernel
theorem d_X6_touch_104 : decode mX6_touch.2.2.1 104 = .ok (.return_, 1) := by decide +kernel
theorem d_X6_touch_73 : decode mX6_touch.2.2.1 73 = .ok (.aload_n 0, 1) := by decide +kernel
theorem d_X6_touch_74 : decode mX6_touch.2.2.1 74 = .ok (.dup, 1) := by decide +kernel
theorem d_X6_touch_75 : decode mX6_touch.2.2.1 75 = .ok (.getfield 100, 3) := by decide +kernel
theorem d_X6_touch_78 : decode mX6_touch.2.2.1 78 = .ok (.iconst 1, 1) := by decide +kernel
theorem d_X6_touch_79 : decode mX6_touch.2.2.1 79 = .ok (.iadd, 1) := by decide +kernel
theorem d_X6_touch_80 : decode mX6_touch.2.2.1 80 = .ok (.putfield 100, 3) := by decide +kernel
theorem d_X6_touch_83 : decode mX6_touch.2.2.1 83 = .ok (.aload_n 0, 1) := by decide +kernel
theorem d_X6_touch_84 : decode mX6_touch.2.2.1 84 = .ok (.getfield 21, 3) := by decide +kernel
theorem d_X6_touch_87 : decode mX6_touch.2.2.1 87 = .ok (.iload_n 3, 1) := by decide +kernel
theorem d_X6_touch_88 : decode mX6_touch.2.2.1 88 = .ok (.iload_n 2, 1) := by decide +kernel
theorem d_X6_touch_89 : decode mX6_touch.2.2.1 89 = .ok (.iastore, 1) := by decide +kernel
theorem d_X6_touch_90 : decode mX6_touch.2.2.1 90 = .ok (.aload_n 0, 1) := by decide +kernel
theorem d_X6_touch_91 : decode mX6_touch.2.2.1 91 = .ok (.aload_n 0, 1) := by decide +kernel
theorem d_X6_touch_92 : decode mX6_touch.2.2.1 92 = .ok (.getfield 46, 3) := by decide +kernel
theorem d_X6_touch_95 : decode mX6_touch.2.2.1 95 = .ok (.getfield 223, 3) := by decide +kernel
theorem f_6_223 : e_fld 6 223 3 3 12 0 false := ⟨RX3, TX3, 3, rfl, rfl, by decide, rfl, rfl, rfl, iX3, tblG_in (inT1 (List.mem_of_getElem? (i := 170) rfl)) rfl, tyX3_ok, nmX3⟩
theorem d_X6_touch_98 : decode mX6_touch.2.2.1 98 = .ok (.iconst (-1), 1) := by decide +kernel
theorem d_X6_touch_99 : decode mX6_touch.2.2.1 99 = .ok (.iconst 0, 1) := by decide +kernel
theorem d_X6_touch_100 : decode mX6_touch.2.2.1 100 = .ok (.invokevirtual 145, 3) := by decide +kernel
theorem d_X6_touch_103 : decode mX6_touch.2.2.1 103 = .ok (.pop, 1) := by decide +kernel
theorem ok_X6_touch : e_m mX6_touch 1 := ⟨tblG_in (inT5 (List.mem_of_getElem? (i := 147) rfl)) rfl, plainFor_of_name (by decide), rfl, ini_6, by decide +kernel, by decide⟩
theorem d_X6_step_174 : decode mX6_step.2.2.1 174 = .ok (.goto 27, 3) := by decide +kernel
theorem d_X6_step_201 : decode mX6_step.2.2.1 201 = .ok (.aload_n 2, 1) := by decide +kernel
theorem d_X6_step_202 : decode mX6_step.2.2.1 202 = .ok (.getfield 177, 3) := by decide +kernel
theorem d_X6_step_205 : decode mX6_step.2.2.1 205 = .ok (.iload_n 1, 1) := by decide +kernel
theorem d_X6_step_206 : decode mX6_step.2.2.1 206 = .ok (.iaload, 1) := by decide +kernel
theorem d_X6_step_207 : decode mX6_step.2.2.1 207 = .ok (.ireturn, 1) := by decide +kernel
theorem d_X6_step_135 : decode mX6_step.2.2.1 135 = .ok (.aload_n 0, 1) := by decide +kernel
theorem d_X6_step_136 : decode mX6_step.2.2.1 136 = .ok (.aload_n 0, 1) := by decide +kernel
theorem d_X6_step_137 : decode mX6_step.2.2.1 137 = .ok (.iload_n 1, 1) := by decide +kernel
theorem d_X6_step_138 : decode mX6_step.2.2.1 138 = .ok (.invokevirtual 155, 3) := by decide +kernel
theorem d_X6_step_141 : decode mX6_step.2.2.1 141 = .ok (.iconst 0, 1) := by decide +kernel
theorem d_X6_step_142 : decode mX6_step.2.2.1 142 = .ok (.invokestatic 119, 3) := by decide +kernel
theorem d_X6_step_145 : decode mX6_step.2.2.1 145 = .ok (.bipush 100, 2) := by decide +kernel
theorem d_X6_step_147 : decode mX6_step.2.2.1 147 = .ok (.invokestatic 158, 3) := by decide +kernel
theorem d_X6_step_150 : decode mX6_step.2.2.1 150 = .ok (.iconst (-1), 1) := by decide +kernel
theorem d_X6_step_151 : decode mX6_step.2.2.1 151 = .ok (.iconst 0, 1) := by decide +kernel
theorem d_X6_step_152 : decode mX6_step.2.2.1 152 = .ok (.invokevirtual 145, 3) := by decide +kernel
theorem d_X6_step_155 : decode mX6_step.2.2.1 155 = .ok (.pop, 1) := by decide +kernel
theorem d_X6_step_156 : decode mX6_step.2.2.1 156 = .ok (.goto 45, 3) := by decide +kernel
theorem d_X6_step_126 : decode mX6_step.2.2.1 126 = .ok (.aload_n 0, 1) := by decide +kernel
theorem d_X6_step_127 : decode mX6_step.2.2.1 127 = .ok (.iload_n 1, 1) := by decide +kernel
theorem d_X6_step_128 : decode mX6_step.2.2.1 128 = .ok (.iload_n 3, 1) := by decide +kernel
theorem d_X6_step_129 : decode mX6_step.2.2.1 129 = .ok (.invokevirtual 168, 3) := by decide +kernel
def mX6_free : MD := (6, yX6_free, cX6_free, 3, none)
theorem sel_X6_free : Cond.instanceMethod mX6_free.2.1 ∈ tblG ∧ Cond.selects mX6_free.2.1.cls mX6_free.2.1 mX6_free.2.1 ∈ tblG := ⟨tblG_in (inT5 (List.mem_of_getElem? (i := 134) rfl)) rfl, tblG_in (inP4 (q := (mX6_free.2.1, 18)) (List.mem_of_getElem? (i := 7) rfl)) rfl⟩
theorem s_6_168 : e_siteV 6 168 mX6_free 6 := ⟨tblG_in (inT5 (List.mem_of_getElem? (i := 132) rfl)) rfl, sel_X6_free.1, sel_X6_free.2, rfl⟩
theorem d_X6_free_0 : decode mX6_free.2.2.1 0 = .ok (.aload_n 0, 1) := by decide +kernel
theorem d_X6_free_1 : decode mX6_free.2.2.1 1 = .ok (.getfield 24, 3) := by decide +kernel
theorem d_X6_free_4 : decode mX6_free.2.2.1 4 = .ok (.iload_n 2, 1) := by decide +kernel
theorem d_X6_free_5 : decode mX6_free.2.2.1 5 = .ok (.iaload, 1) := by decide +kernel
theorem d_X6_free_6 : decode mX6_free.2.2.1 6 = .ok (.ifCond .ne 4, 3) := by decide +kernel
theorem d_X6_free_10 : decode mX6_free.2.2.1 10 = .ok (.aload_n 0, 1) := by decide +kernel
theorem d_X6_free_11 : decode mX6_free.2.2.1 11 = .ok (.iload_n 2, 1) := by decide +kernel
theorem d_X6_free_12 : decode mX6_free.2.2.1 12 = .ok (.aload_n 0, 1) := by decide +kernel
theorem d_X6_free_13 : decode mX6_free.2.2.1 13 = .ok (.getfield 68, 3) := by decide +kernel
theorem d_X6_free_16 : decode mX6_free.2.2.1 16 = .ok (.invokevirtual 125, 3) := by decide +kernel
def mX6_settle : MD := (6, yX6_settle, cX6_settle, 5, none)
theorem sel_X6_settle : Cond.instanceMethod mX6_settle.2.1 ∈ tblG ∧ Cond.selects mX6_settle.2.1.cls mX6_settle.2.1 mX6_settle.2.1 ∈ tblG := ⟨tblG_in (inT5 (List.mem_of_getElem? (i := 90) rfl)) rfl, tblG_in (inP4 (q := (mX6_settle.2.1, 18)) (List.mem_of_getElem? (i := 4) rfl)) rfl⟩
theorem s_6_125 : e_siteV 6 125 mX6_settle 6 := ⟨tblG_in (inT5 (List.mem_of_getElem? (i := 88) rfl)) rfl, sel_X6_settle.1, sel_X6_settle.2, rfl⟩
theorem d_X6_settle_0 : decode mX6_settle.2.2.1 0 = .ok (.aload_n 0, 1) := by decide +kernel
theorem d_X6_settle_1 : decode mX6_settle.2.2.1 1 = .ok (.getfield 30, 3) := by decide +kernel
theorem d_X6_settle_4 : decode mX6_settle.2.2.1 4 = .ok (.iload_n 1, 1) := by decide +kernel
theorem d_X6_settle_5 : decode mX6_settle.2.2.1 5 = .ok (.iaload, 1) := by decide +kernel
theorem d_X6_settle_6 : decode mX6_settle.2.2.1 6 = .ok (.istore_n 3, 1) := by decide +kernel
theorem d_X6_settle_7 : decode mX6_settle.2.2.1 7 = .ok (.aload_n 0, 1) := by decide +kernel
theorem d_X6_settle_8 : decode mX6_settle.2.2.1 8 = .ok (.getfield 24, 3) := by decide +kernel
theorem d_X6_settle_11 : decode mX6_settle.2.2.1 11 = .ok (.iload_n 1, 1) := by decide +kernel
theorem d_X6_settle_12 : decode mX6_settle.2.2.1 12 = .ok (.iaload, 1) := by decide +kernel
theorem d_X6_settle_13 : decode mX6_settle.2.2.1 13 = .ok (.iconst 1, 1) := by decide +kernel
theorem d_X6_settle_14 : decode mX6_settle.2.2.1 14 = .ok (.if_icmp .ne 7, 3) := by decide +kernel
theorem d_X6_settle_21 : decode mX6_settle.2.2.1 21 = .ok (.aload_n 0, 1) := by decide +kernel
theorem d_X6_settle_22 : decode mX6_settle.2.2.1 22 = .ok (.getfield 27, 3) := by decide +kernel
theorem d_X6_settle_25 : decode mX6_settle.2.2.1 25 = .ok (.iload_n 1, 1) := by decide +kernel
theorem d_X6_settle_26 : decode mX6_settle.2.2.1 26 = .ok (.iaload, 1) := by decide +kernel
theorem d_X6_settle_27 : decode mX6_settle.2.2.1 27 = .ok (.iload_n 3, 1) := by decide +kernel
theorem d_X6_settle_28 : decode mX6_settle.2.2.1 28 = .ok (.invokestatic 119, 3) := by decide +kernel
theorem d_X6_settle_31 : decode mX6_settle.2.2.1 31 = .ok (.iload_n 2, 1) := by decide +kernel
theorem d_X6_settle_32 : decode mX6_settle.2.2.1 32 = .ok (.invokestatic 158, 3) := by decide +kernel
theorem d_X6_settle_17 : decode mX6_settle.2.2.1 17 = .ok (.iload_n 2, 1) := by decide +kernel
theorem d_X6_settle_18 : decode mX6_settle.2.2.1 18 = .ok (.goto 17, 3) := by decide +kernel
theorem d_X6_settle_35 : decode mX6_settle.2.2.1 35 = .ok (.istore 4, 2) := by decide +kernel
theorem d_X6_settle_37 : decode mX6_settle.2.2.1 37 = .ok (.aload_n 0, 1) := by decide +kernel
theorem d_X6_settle_38 : decode mX6_settle.2.2.1 38 = .ok (.getfield 38, 3) := by decide +kernel
theorem d_X6_settle_41 : decode mX6_settle.2.2.1 41 = .ok (.iload_n 1, 1) := by decide +kernel
theorem d_X6_settle_42 : decode mX6_settle.2.2.1 42 = .ok (.iconst 2, 1) := by decide +kernel
theorem d_X6_settle_43 : decode mX6_settle.2.2.1 43 = .ok (.iload_n 3, 1) := by decide +kernel
theorem d_X6_settle_44 : decode mX6_settle.2.2.1 44 = .ok (.iload 4, 2) := by decide +kernel
theorem d_X6_settle_46 : decode mX6_settle.2.2.1 46 = .ok (.invokevirtual 192, 3) := by decide +kernel
def mX1_note : MD := (1, yX1_note, cX1_note, 7, none)
theorem sel_X1_note : Cond.instanceMethod mX1_note.2.1 ∈ tblG ∧ Cond.selects mX1_note.2.1.cls mX1_note.2.1 mX1_note.2.1 ∈ tblG := ⟨tblG_in (inT5 (List.mem_of_getElem? (i := 93) rfl)) rfl, tblG_in (inT5 (List.mem_of_getElem? (i := 94) rfl)) rfl⟩
theorem s_6_192 : e_siteV 6 192 mX1_note 1 := ⟨tblG_in (inT5 (List.mem_of_getElem? (i := 92) rfl)) rfl, sel_X1_note.1, sel_X1_note.2, rfl⟩
theorem d_X1_note_0 : decode mX1_note.2.2.1 0 = .ok (.iload_n 3, 1) := by decide +kernel
theorem d_X1_note_1 : decode mX1_note.2.2.1 1 = .ok (.iload 4, 2) := by decide +kernel
theorem d_X1_note_3 : decode mX1_note.2.2.1 3 = .ok (.if_icmp .lt 4, 3) := by decide +kernel
theorem d_X1_note_7 : decode mX1_note.2.2.1 7 = .ok (.aload_n 0, 1) := by decide +kernel
theorem d_X1_note_8 : decode mX1_note.2.2.1 8 = .ok (.getfield 9, 3) := by decide +kernel
theorem d_X1_note_11 : decode mX1_note.2.2.1 11 = .ok (.iload_n 1, 1) := by decide +kernel
theorem d_X1_note_12 : decode mX1_note.2.2.1 12 = .ok (.iconst 4, 1) := by decide +kernel
theorem d_X1_note_13 : decode mX1_note.2.2.1 13 = .ok (.imul, 1) := by decide +kernel
theorem d_X1_note_14 : decode mX1_note.2.2.1 14 = .ok (.iload_n 2, 1) := by decide +kernel
theorem d_X1_note_15 : decode mX1_note.2.2.1 15 = .ok (.iadd, 1) := by decide +kernel
theorem d_X1_note_16 : decode mX1_note.2.2.1 16 = .ok (.dup2, 1) := by decide +kernel
theorem d_X1_note_17 : decode mX1_note.2.2.1 17 = .ok (.iaload, 1) := by decide +kernel
theorem d_X1_note_18 : decode mX1_note.2.2.1 18 = .ok (.iload 4, 2) := by decide +kernel
theorem d_X1_note_20 : decode mX1_note.2.2.1 20 = .ok (.iload_n 3, 1) := by decide +kernel
theorem d_X1_note_21 : decode mX1_note.2.2.1 21 = .ok (.isub, 1) := by decide +kernel
theorem d_X1_note_22 : decode mX1_note.2.2.1 22 = .ok (.iadd, 1) := by decide +kernel
theorem d_X1_note_23 : decode mX1_note.2.2.1 23 = .ok (.iastore, 1) := by decide +kernel
theorem d_X1_note_24 : decode mX1_note.2.2.1 24 = .ok (.aload_n 0, 1) := by decide +kernel
theorem d_X1_note_25 : decode mX1_note.2.2.1 25 = .ok (.getfield 37, 3) := by decide +kernel
theorem d_X1_note_28 : decode mX1_note.2.2.1 28 = .ok (.ifCond .ne 4, 3) := by decide +kernel
theorem d_X1_note_31 : decode mX1_note.2.2.1 31 = .ok (.return_, 1) := by decide +kernel
theorem d_X1_note_6 : decode mX1_note.2.2.1 6 = .ok (.return_, 1) := by decide +kernel
theorem ok_X1_note : e_m mX1_note 4 := ⟨tblG_in (inT5 (List.mem_of_getElem? (i := 95) rfl)) rfl, plainFor_of_name (by decide), rfl, ini_1, by decide +kernel, by decide⟩
theorem d_X6_settle_49 : decode mX6_settle.2.2.1 49 = .ok (.aload_n 0, 1) := by decide +kernel
theorem d_X6_settle_50 : decode mX6_settle.2.2.1 50 = .ok (.getfield 38, 3) := by decide +kernel
theorem d_X6_settle_53 : decode mX6_settle.2.2.1 53 = .ok (.iload_n 1, 1) := by decide +kernel
theorem d_X6_settle_54 : decode mX6_settle.2.2.1 54 = .ok (.iconst 0, 1) := by decide +kernel
theorem d_X6_settle_55 : decode mX6_settle.2.2.1 55 = .ok (.iload 4, 2) := by decide +kernel
theorem d_X6_settle_57 : decode mX6_settle.2.2.1 57 = .ok (.iload_n 2, 1) := by decide +kernel
theorem d_X6_settle_58 : decode mX6_settle.2.2.1 58 = .ok (.invokevirtual 192, 3) := by decide +kernel
theorem d_X6_settle_61 : decode mX6_settle.2.2.1 61 = .ok (.aload_n 0, 1) := by decide +kernel
theorem d_X6_settle_62 : decode mX6_settle.2.2.1 62 = .ok (.getfield 30, 3) := by decide +kernel
theorem d_X6_settle_65 : decode mX6_settle.2.2.1 65 = .ok (.iload_n 1, 1) := by decide +kernel
theorem d_X6_settle_66 : decode mX6_settle.2.2.1 66 = .ok (.iload_n 2, 1) := by decide +kernel
theorem d_X6_settle_67 : decode mX6_settle.2.2.1 67 = .ok (.iastore, 1) := by decide +kernel
theorem d_X6_settle_68 : decode mX6_settle.2.2.1 68 = .ok (.return_, 1) := by decide +kernel
theorem ok_X6_settle : e_m mX6_settle 2 := ⟨tblG_in (inT5 (List.mem_of_getElem? (i := 91) rfl)) rfl, plainFor_of_name (by decide), rfl, ini_6, by decide +kernel, by decide⟩
theorem d_X6_free_19 : decode mX6_free.2.2.1 19 = .ok (.aload_n 0, 1) := by decide +kernel
theorem d_X6_free_20 : decode mX6_free.2.2.1 20 = .ok (.getfield 38, 3) := by decide +kernel
theorem d_X6_free_23 : decode mX6_free.2.2.1 23 = .ok (.iload_n 2, 1) := by decide +kernel
theorem d_X6_free_24 : decode mX6_free.2.2.1 24 = .ok (.aload_n 0, 1) := by decide +kernel
theorem d_X6_free_25 : decode mX6_free.2.2.1 25 = .ok (.getfield 68, 3) := by decide +kernel
theorem d_X6_free_28 : decode mX6_free.2.2.1 28 = .ok (.invokevirtual 128, 3) := by decide +kernel
def mX1_letGo : MD := (1, yX1_letGo, cX1_letGo, 3, none)
theorem sel_X1_letGo : Cond.instanceMethod mX1_letGo.2.1 ∈ tblG ∧ Cond.selects mX1_letGo.2.1.cls mX1_letGo.2.1 mX1_letGo.2.1 ∈ tblG := ⟨tblG_in (inT5 (List.mem_of_getElem? (i := 137) rfl)) rfl, tblG_in (inT5 (List.mem_of_getElem? (i := 138) rfl)) rfl⟩
theorem s_6_128 : e_siteV 6 128 mX1_letGo 1 := ⟨tblG_in (inT5 (List.mem_of_getElem? (i := 136) rfl)) rfl, sel_X1_letGo.1, sel_X1_letGo.2, rfl⟩
theorem d_X1_letGo_0 : decode mX1_letGo.2.2.1 0 = .ok (.aload_n 0, 1) := by decide +kernel
theorem d_X1_letGo_1 : decode mX1_letGo.2.2.1 1 = .ok (.getfield 37, 3) := by decide +kernel
theorem d_X1_letGo_4 : decode mX1_letGo.2.2.1 4 = .ok (.ifCond .eq 17, 3) := by decide +kernel
theorem d_X1_letGo_21 : decode mX1_letGo.2.2.1 21 = .ok (.return_, 1) := by decide +kernel
theorem ok_X1_letGo : e_m mX1_letGo 2 := ⟨tblG_in (inT5 (List.mem_of_getElem? (i := 139) rfl)) rfl, plainFor_of_name (by decide), rfl, ini_1, by decide +kernel, by decide⟩
theorem d_X6_free_31 : decode mX6_free.2.2.1 31 = .ok (.aload_n 0, 1) := by decide +kernel
theorem d_X6_free_32 : decode mX6_free.2.2.1 32 = .ok (.getfield 38, 3) := by decide +kernel
theorem d_X6_free_35 : decode mX6_free.2.2.1 35 = .ok (.iload_n 2, 1) := by decide +kernel
theorem d_X6_free_36 : decode mX6_free.2.2.1 36 = .ok (.iload_n 1, 1) := by decide +kernel
theorem d_X6_free_37 : decode mX6_free.2.2.1 37 = .ok (.invokevirtual 214, 3) := by decide +kernel
def mX1_act : MD := (1, yX1_act, cX1_act, 3, none)
theorem sel_X1_act : Cond.instanceMethod mX1_act.2.1 ∈ tblG ∧ Cond.selects mX1_act.2.1.cls mX1_act.2.1 mX1_act.2.1 ∈ tblG := ⟨tblG_in (inT5 (List.mem_of_getElem? (i := 109) rfl)) rfl, tblG_in (inT5 (List.mem_of_getElem? (i := 110) rfl)) rfl⟩
theorem s_6_214 : e_siteV 6 214 mX1_act 1 := ⟨tblG_in (inT5 (List.mem_of_getElem? (i := 108) rfl)) rfl, sel_X1_act.1, sel_X1_act.2, rfl⟩
theorem d_X1_act_0 : decode mX1_act.2.2.1 0 = .ok (.aload_n 0, 1) := by decide +kernel
theorem d_X1_act_1 : decode mX1_act.2.2.1 1 = .ok (.getfield 37, 3) := by decide +kernel
theorem d_X1_act_4 : decode mX1_act.2.2.1 4 = .ok (.ifCond .ne 4, 3) := by decide +kernel
theorem d_X1_act_7 : decode mX1_act.2.2.1 7 = .ok (.return_, 1) := by decide +kernel
theorem ok_X1_act : e_m mX1_act 2 := ⟨tblG_in (inT5 (List.mem_of_getElem? (i := 111) rfl)) rfl, plainFor_of_name (by decide), rfl, ini_1, by decide +kernel, by decide⟩
theorem d_X6_free_40 : decode mX6_free.2.2.1 40 = .ok (.aload_n 0, 1) := by decide +kernel
theorem d_X6_free_41 : decode mX6_free.2.2.1 41 = .ok (.getfield 24, 3) := by decide +kernel
theorem d_X6_free_44 : decode mX6_free.2.2.1 44 = .ok (.iload_n 2, 1) := by decide +kernel
theorem d_X6_free_45 : decode mX6_free.2.2.1 45 = .ok (.iconst 0, 1) := by decide +kernel
theorem d_X6_free_46 : decode mX6_free.2.2.1 46 = .ok (.iastore, 1) := by decide +kernel
theorem d_X6_free_47 : decode mX6_free.2.2.1 47 = .ok (.aload_n 0, 1) := by decide +kernel
theorem d_X6_free_48 : decode mX6_free.2.2.1 48 = .ok (.getfield 27, 3) := by decide +kernel
theorem d_X6_free_51 : decode mX6_free.2.2.1 51 = .ok (.iload_n 2, 1) := by decide +kernel
theorem d_X6_free_52 : decode mX6_free.2.2.1 52 = .ok (.aload_n 0, 1) := by decide +kernel
theorem d_X6_free_53 : decode mX6_free.2.2.1 53 = .ok (.getfield 68, 3) := by decide +kernel
theorem d_X6_free_56 : decode mX6_free.2.2.1 56 = .ok (.aload_n 0, 1) := by decide +kernel
theorem d_X6_free_57 : decode mX6_free.2.2.1 57 = .ok (.getfield 46, 3) := by decide +kernel
theorem d_X6_free_60 : decode mX6_free.2.2.1 60 = .ok (.getfield 208, 3) := by decide +kernel
theorem f_6_208 : e_fld 6 208 3 7 12 2 true := ⟨RX3, TX3, 7, rfl, rfl, by decide, rfl, rfl, rfl, iX3, tblG_in (inT1 (List.mem_of_getElem? (i := 191) rfl)) rfl, tyX3_ok, nmX3⟩
theorem d_X6_free_63 : decode mX6_free.2.2.1 63 = .ok (.iload_n 2, 1) := by decide +kernel
theorem d_X6_free_64 : decode mX6_free.2.2.1 64 = .ok (.iaload, 1) := by decide +kernel
theorem d_X6_free_65 : decode mX6_free.2.2.1 65 = .ok (.iadd, 1) := by decide +kernel
theorem d_X6_free_66 : decode mX6_free.2.2.1 66 = .ok (.iastore, 1) := by decide +kernel
theorem d_X6_free_67 : decode mX6_free.2.2.1 67 = .ok (.return_, 1) := by decide +kernel
theorem d_X6_free_9 : decode mX6_free.2.2.1 9 = .ok (.return_, 1) := by decide +kernel
theorem ok_X6_free : e_m mX6_free 2 := ⟨tblG_in (inT5 (List.mem_of_getElem? (i := 135) rfl)) rfl, plainFor_of_name (by decide), rfl, ini_6, by decide +kernel, by decide⟩
theorem d_X6_step_132 : decode mX6_step.2.2.1 132 = .ok (.goto 69, 3) := by decide +kernel
theorem d_X6_step_117 : decode mX6_step.2.2.1 117 = .ok (.aload_n 0, 1) := by decide +kernel
theorem d_X6_step_118 : decode mX6_step.2.2.1 118 = .ok (.iload_n 1, 1) := by decide +kernel
theorem d_X6_step_119 : decode mX6_step.2.2.1 119 = .ok (.iload_n 3, 1) := by decide +kernel
theorem d_X6_step_120 : decode mX6_step.2.2.1 120 = .ok (.invokevirtual 165, 3) := by decide +kernel
def mX6_hold : MD := (6, yX6_hold, cX6_hold, 4, none)
theorem sel_X6_hold : Cond.instanceMethod mX6_hold.2.1 ∈ tblG ∧ Cond.selects mX6_hold.2.1.cls mX6_hold.2.1 mX6_hold.2.1 ∈ tblG := ⟨tblG_in (inT5 (List.mem_of_getElem? (i := 126) rfl)) rfl, tblG_in (inP4 (q := (mX6_hold.2.1, 18)) (List.mem_of_getElem? (i := 6) rfl)) rfl⟩
theorem s_6_165 : e_siteV 6 165 mX6_hold 6 := ⟨tblG_in (inT5 (List.mem_of_getElem? (i := 124) rfl)) rfl, sel_X6_hold.1, sel_X6_hold.2, rfl⟩
theorem d_X6_hold_0 : decode mX6_hold.2.2.1 0 = .ok (.aload_n 0, 1) := by decide +kernel
theorem d_X6_hold_1 : decode mX6_hold.2.2.1 1 = .ok (.getfield 24, 3) := by decide +kernel
theorem d_X6_hold_4 : decode mX6_hold.2.2.1 4 = .ok (.iload_n 2, 1) := by decide +kernel
theorem d_X6_hold_5 : decode mX6_hold.2.2.1 5 = .ok (.iaload, 1) := by decide +kernel
theorem d_X6_hold_6 : decode mX6_hold.2.2.1 6 = .ok (.iconst 1, 1) := by decide +kernel
theorem d_X6_hold_7 : decode mX6_hold.2.2.1 7 = .ok (.if_icmp .ne 4, 3) := by decide +kernel
theorem d_X6_hold_11 : decode mX6_hold.2.2.1 11 = .ok (.aload_n 0, 1) := by decide +kernel
theorem d_X6_hold_12 : decode mX6_hold.2.2.1 12 = .ok (.getfield 68, 3) := by decide +kernel
end
