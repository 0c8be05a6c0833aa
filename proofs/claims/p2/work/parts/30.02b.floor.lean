/-! for Math.floorMod -/
theorem w32_c (x : Int) : (-2147483648 ≤ w32 x ∧ w32 x ≤ 2147483647) ∧ (-2147483648 ≤ x → x ≤ 2147483647 → w32 x = x) := ⟨w32_b x, fun h1 h2 => w32_id ⟨h1, h2⟩⟩
theorem rem32_s (a b : Int) (h : -2147483648 ≤ a ∧ a ≤ 2147483647) : (-2147483648 ≤ a.tmod b ∧ a.tmod b ≤ 2147483647) ∧ (0 < b → -b < a.tmod b ∧ a.tmod b < b) ∧ (0 ≤ a → 0 ≤ a.tmod b) ∧ (a ≤ 0 → a.tmod b ≤ 0) := by
  refine ⟨rem32_b a b h, fun hb => ⟨?_, Int.tmod_lt_of_pos a hb⟩, fun h0 => Int.tmod_nonneg b h0, fun h0 => ?_⟩
  · have h1 := Int.tmod_lt_of_pos (-a) hb
    rw [Int.neg_tmod] at h1
    omega
  · have h1 := Int.tmod_nonneg b (show 0 ≤ -a by omega)
    rw [Int.neg_tmod] at h1
    omega
