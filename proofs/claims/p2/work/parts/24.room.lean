/-! the Trail's rows made longer: nine new rows, one behind another -/
def tjk (k : Nat) : Int := if k < 5 then k + 1 else k + 3
def Hf (M0 : Mem) (n k : Nat) (M : Mem) : Prop := M.1 = M0.1 + k ∧ M.2.1 = M0.2.1 + k * n ∧ (∀ x : Int, x < M0.1 → mT M x = mT M0 x) ∧ (∀ i : Nat, i < k → mT M ((M0.1 : Int) + i) = (if tjk i = 5 then 21 else 20, n))
  ∧ (∀ y j : Int, y < M0.1 → (∀ i : Nat, i < k → ¬ (y = 63 ∧ j = tjk i)) → rd M y j = rd M0 y j) ∧ (∀ i : Nat, i < k → rd M 63 (tjk i) = (M0.1 : Int) + i) ∧ ∀ i : Nat, i < k → ∀ j : Int, tlo (tjk i) ≤ rd M ((M0.1 : Int) + i) j ∧ rd M ((M0.1 : Int) + i) j ≤ thi (tjk i)
theorem Hf.rf (M0 : Mem) (n : Nat) : Hf M0 n 0 M0 := ⟨rfl, by omega, fun _ _ => rfl, fun i h => absurd h (Nat.not_lt_zero _), fun _ _ _ _ => rfl, fun i h => absurd h (Nat.not_lt_zero _), fun i h => absurd h (Nat.not_lt_zero _)⟩
theorem tjk_inj {i k : Nat} (h : tjk i = tjk k) : i = k := by
  unfold tjk at h
  split at h <;> split at h <;> omega
theorem tlo_thi (j : Int) : tlo j ≤ 0 ∧ 0 ≤ thi j := by
  unfold tlo thi
  split
  · omega
  · split <;> omega
theorem Hf.step {M0 M : Mem} {n k N : Nat} {r f : Int} {c : Nat} (h : Hf M0 n k M) (h63 : (63 : Int) < M0.1) (hf : f = tjk k) (hc : c = if f = 5 then 21 else 20) (hr : rd M0 63 f = r) (hr1 : r < M0.1) (hr0 : r ≠ 63) (hel : ∀ i : Int, 0 ≤ i → i < N → tlo f ≤ rd M0 r i ∧ rd M0 r i ≤ thi f) : Hf M0 n (k + 1) (wr (cpy (mnew M (c, n)) r (M.1 : Int) 0 0 N) 63 f (M.1 : Int)) := by
  obtain ⟨h1, h2, h3, h4, h5, h6, h7⟩ := h
  have ea : (M.1 : Int) = (M0.1 : Int) + k := by omega
  have mt : ∀ x : Int, mT (wr (cpy (mnew M (c, n)) r (M.1 : Int) 0 0 N) 63 f (M.1 : Int)) x = if x = (M.1 : Int) then (c, n) else mT M x := fun x => mT_nw M _ x
  have low : ∀ y j : Int, y ≠ (M.1 : Int) → ¬ (y = 63 ∧ j = f) → rd (wr (cpy (mnew M (c, n)) r (M.1 : Int) 0 0 N) 63 f (M.1 : Int)) y j = rd M y j := fun y j c1 c2 => by
    rw [rd_wn _ c2, rd_cpy, if_neg (fun d => c1 d.1), rd_nw, if_neg c1]
  refine ⟨by show M.1 + 1 = _; omega, ?_, fun x hx => ?_, fun i hi => ?_, fun y j hy hn => ?_, fun i hi => ?_, fun i hi j => ?_⟩
  · show M.2.1 + n = _
    rw [h2, Nat.succ_mul]
    omega
  · rw [mt, if_neg (by omega)]
    exact h3 x hx
  · rw [mt]
    by_cases d : i = k
    · subst d
      rw [if_pos ea.symm, hc, hf]
    · rw [if_neg (by omega)]
      exact h4 i (by omega)
  · rw [low y j (by omega) (fun d => hn k (by omega) ⟨d.1, d.2.trans hf⟩)]
    exact h5 y j hy fun i hi => hn i (by omega)
  · by_cases d : i = k
    · subst d
      rw [← hf, rd_ws]
      exact ea
    · rw [low _ _ (by omega) (fun e => d (tjk_inj (e.2.trans hf)))]
      exact h6 i (by omega)
  · by_cases d : i = k
    · subst d
      rw [← ea, rd_wn _ (fun e => by have := e.1; omega), rd_cpy, ← hf]
      have hz := tlo_thi f
      by_cases e : (0 : Int) ≤ j ∧ j < 0 + N
      · rw [if_pos ⟨rfl, e.1, e.2⟩, rd_nw, if_neg (by omega), h5 r _ hr1 (fun i hi e9 => hr0 e9.1)]
        have := hel (0 + (j - 0)) (by omega) (by omega)
        exact this
      · rw [if_neg (fun e9 => e ⟨e9.2.1, e9.2.2⟩), rd_nw, if_pos rfl]
        unfold e_df
        rw [if_neg (by rw [hc]; split <;> omega)]
        exact hz
    · rw [low _ _ (by omega) (fun e => by have := e.1; omega)]
      exact h7 i (by omega) j
theorem tjk_in {k : Nat} (h : k < 9) : tjk k ∈ tJ := by
  obtain rfl | rfl | rfl | rfl | rfl | rfl | rfl | rfl | rfl : k = 0 ∨ k = 1 ∨ k = 2 ∨ k = 3 ∨ k = 4 ∨ k = 5 ∨ k = 6 ∨ k = 7 ∨ k = 8 := by omega
  all_goals decide
theorem tjk_of {j : Int} (h : j ∈ tJ) : ∃ k : Nat, k < 9 ∧ j = tjk k := by
  simp only [tJ, List.mem_cons, List.not_mem_nil, or_false] at h
  rcases h with rfl | rfl | rfl | rfl | rfl | rfl | rfl | rfl | rfl
  · exact ⟨0, by decide, rfl⟩
  · exact ⟨1, by decide, rfl⟩
  · exact ⟨2, by decide, rfl⟩
  · exact ⟨3, by decide, rfl⟩
  · exact ⟨4, by decide, rfl⟩
  · exact ⟨5, by decide, rfl⟩
  · exact ⟨6, by decide, rfl⟩
  · exact ⟨7, by decide, rfl⟩
  · exact ⟨8, by decide, rfl⟩
theorem fx63 : fxT.all (fun e => !(decide (e.1 = 63) && tJ.contains e.2.1)) = true := by decide +kernel
theorem ivA63 : ivA.all (fun e => !decide (e.1 = 63)) = true := by decide +kernel
theorem ivF63 : ivF.all (fun e => !(decide (e.1 = 63) && tJ.contains e.2.1) || decide (e.2.2.1 ≤ 0 ∧ 300 ≤ e.2.2.2)) = true := by decide +kernel
/-- behind the ninth all is as it was -/
theorem Hf.done {ws : List (Int × Int)} {as : List Int} {M0 M : Mem} {b : Int} {n : Nat} (hI : In Tru M0) (eb : rd M0 63 1 = b) (hb : b ≠ 236) (hn : n = 2 * fN b + 32) (h : Hf M0 n 9 M) (m1 : (191 : Int) ∈ as) (m2 : tJ.all (fun j => ws.contains (63, j)) = true) : St Tru ws as M0 M := by
  obtain ⟨h1, h2, h3, h4, h5, h6, h7⟩ := h
  obtain ⟨hF, hV, hG, ⟨t1, t2, t3, t4, t5, t6⟩, -⟩ := hI
  rw [eb] at t1 t2 t3 t5
  have key : (M0.1 : Int) = tcell b ∧ 191 ≤ M0.1 ∧ fN (M0.1 : Int) = n ∧ tcell (M0.1 : Int) = M0.1 + 9 ∧ tslot (M0.1 : Int) = M0.2.1 + 9 * n ∧ ((M0.1 : Int) = 191 ∨ (M0.1 : Int) = 200 ∨ (M0.1 : Int) = 209 ∨ (M0.1 : Int) = 218 ∨ (M0.1 : Int) = 227 ∨ (M0.1 : Int) = 236) := by
    rw [t3, hn]
    rcases t1 with rfl | rfl | rfl | rfl | rfl | rfl | rfl <;> first | exact absurd rfl hb | (rw [t2]; decide)
  obtain ⟨k1, k2, k3, k4, k5, k6⟩ := key
  have low : ∀ y j : Int, y < 191 → y ≠ 63 ∨ j ∉ tJ → rd M y j = rd M0 y j := fun y j hy hj => h5 y j (by omega) fun i hi e => hj.elim (fun c => c e.1) (fun c => c (by rw [e.2]; exact tjk_in hi))
  have e63 : ∀ k : Nat, k < 9 → rd M 63 (tjk k) = (M0.1 : Int) + k := h6
  have eB : rd M 63 1 = (M0.1 : Int) := by
    have := e63 0 (by decide)
    simpa [tjk] using this
  refine ⟨⟨⟨fun x hx => by rw [h3 x (by omega)]; exact hF.1 x hx, by omega, fun e he => ?_⟩, ⟨fun e he => ?_, fun e he j => ?_⟩, fun e he j => ?_, ⟨?_, ?_, ?_, fun j hj => ?_, ?_, fun j hj i i0 i1 => ?_⟩, trivial⟩, fun x j h8 n1 n2 => ?_, fun c => absurd m1 c⟩
  · have g1 := List.all_eq_true.mp fxT_lt e he
    have g2 := List.all_eq_true.mp fx63 e he
    simp only [decide_eq_true_eq] at g1
    have g3 : e.1 ≠ 63 ∨ e.2.1 ∉ tJ := by
      rcases Classical.em (e.1 = 63) with d | d
      · refine Or.inr fun z => ?_
        rw [decide_eq_true d, show tJ.contains e.2.1 = true by simpa using z] at g2
        cases g2
      · exact Or.inl d
    rw [low _ _ g1 g3]
    exact hF.2.2 e he
  · have g1 := List.all_eq_true.mp ivF_lt e he
    simp only [decide_eq_true_eq] at g1
    by_cases c : e.1 = 63 ∧ e.2.1 ∈ tJ
    · have g2 := List.all_eq_true.mp ivF63 e he
      obtain ⟨k, hk, ek⟩ := tjk_of c.2
      rw [decide_eq_true c.1, show tJ.contains e.2.1 = true by simpa using c.2] at g2
      have g3 := of_decide_eq_true (show decide (e.2.2.1 ≤ 0 ∧ 300 ≤ e.2.2.2) = true from g2)
      rw [c.1, ek, e63 k hk]
      omega
    · rw [low _ _ g1 (by rcases Classical.em (e.1 = 63) with d | d; exact Or.inr (fun q => c ⟨d, q⟩); exact Or.inl d)]
      exact hV.1 e he
  · have g1 := List.all_eq_true.mp ivA_lt e he
    have g2 := List.all_eq_true.mp ivA63 e he
    simp only [decide_eq_true_eq] at g1
    simp only [Bool.not_eq_true', decide_eq_false_iff_not] at g2
    rw [low _ _ g1 (Or.inl g2)]
    exact hV.2 e he j
  · have s := gcT_s he
    rw [low _ _ s.1 (Or.inl s.2.2.2.2.1), low _ _ s.2.1 (Or.inl s.2.2.2.2.2.2.1)]
    exact hG e he j
  · rw [eB]; exact Or.inr k6
  · rw [eB, k4, h1]
  · rw [eB, k5, h2]
  · obtain ⟨k, hk, rfl⟩ := tjk_of hj
    rw [eB, e63 k hk, h4 k hk, k3]
    refine ⟨?_, rfl⟩
    unfold tref tjk
    by_cases c : k < 5
    · rw [if_pos c, if_pos (by omega)]; omega
    · rw [if_neg c, if_neg (by omega), if_neg (by omega)]; omega
  · rw [eB, low 63 0 (by decide) (Or.inr (by decide)), low 63 7 (by decide) (Or.inr (by decide)), k3]
    omega
  · obtain ⟨k, hk, rfl⟩ := tjk_of hj
    rw [e63 k hk]
    exact h7 k hk i
  · refine low x j h8 ?_
    rcases Classical.em (x = 63) with d | d
    · refine Or.inr fun q => n2 ?_
      rw [d]
      have := List.all_eq_true.mp m2 j q
      simpa using this
    · exact Or.inl d
