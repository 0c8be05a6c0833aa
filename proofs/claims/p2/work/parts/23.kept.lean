/-! what is kept beside the intervals: ops with their args, the Trail's rows -/
theorem fxT_lt : fxT.all (fun e => decide (e.1 < 191)) = true := by decide +kernel
theorem ivF_lt : ivF.all (fun e => decide (e.1 < 191)) = true := by decide +kernel
theorem ivA_lt : ivA.all (fun e => decide (e.1 < 191)) = true := by decide +kernel
theorem wr_t (M : Mem) (x i v : Int) : mT (wr M x i v) = mT M := rfl
/-- an op and its arg are written side by side -/
theorem Gc.two {M : Mem} {x y i a b : Int} (h : Gc M) (hg : good a b) (hx : (x, y) ∈ gcT) : Gc (wr (wr M x i a) y i b) := by
  intro e he j
  have key : ∀ e' ∈ gcT, e'.1 ≠ e'.2 ∧ ∀ e2 ∈ gcT, (e'.1 = e2.1 ↔ e' = e2) ∧ (e'.2 = e2.2 ↔ e' = e2) ∧ e'.1 ≠ e2.2 := by
    intro e' h1
    simp only [gcT, List.mem_cons, List.not_mem_nil, or_false] at h1
    rcases h1 with rfl | rfl | rfl <;> refine ⟨by decide, fun e2 h2 => ?_⟩ <;> simp only [gcT, List.mem_cons, List.not_mem_nil, or_false] at h2 <;> rcases h2 with rfl | rfl | rfl <;> decide
  by_cases c : e = (x, y)
  · subst c
    have k0 := (key _ hx).1
    by_cases cj : j = i
    · subst cj
      rw [rd_ws, rd_wn _ (fun d => k0 d.1), rd_ws]
      exact hg
    · rw [rd_wn _ (fun d => cj d.2), rd_wn _ (fun d => cj d.2), rd_wn _ (fun d => cj d.2), rd_wn _ (fun d => cj d.2)]
      exact h _ hx j
  · have k1 := (key e he).2 _ hx
    have k2 := (key _ hx).2 e he
    have a1 : e.1 ≠ x := fun d => c (k1.1.mp d)
    have a2 : e.2 ≠ y := fun d => c (k1.2.1.mp d)
    have a3 : e.1 ≠ y := k1.2.2
    have a4 : e.2 ≠ x := fun d => k2.2.2 d.symm
    rw [rd_wn _ (fun d => a3 d.1), rd_wn _ (fun d => a1 d.1), rd_wn _ (fun d => a2 d.1), rd_wn _ (fun d => a4 d.1)]
    exact h e he j
theorem gcT_s {x y : Int} (hx : (x, y) ∈ gcT) : x < 191 ∧ y < 191 ∧ 0 ≤ x ∧ 0 ≤ y ∧ x ≠ 63 ∧ x ≠ 69 ∧ y ≠ 63 ∧ y ≠ 69 := by
  simp only [gcT, List.mem_cons, List.not_mem_nil, or_false, Prod.mk.injEq] at hx
  rcases hx with ⟨rfl, rfl⟩ | ⟨rfl, rfl⟩ | ⟨rfl, rfl⟩ <;> decide
/-- the Trail's part of it, where only rows below 191 changed, and neither 63 nor 69 -/
theorem Tl.of {M M2 : Mem} (h : Tl M) (hT : mT M2 = mT M) (hn : M2.1 = M.1) (hz : M2.2.1 = M.2.1) (he : ∀ y i : Int, (y = 63 ∨ 191 ≤ y) → rd M2 y i = rd M y i) : Tl M2 := by
  obtain ⟨t1, t2, t3, t4, t5, t6⟩ := h
  have c : ∀ i : Int, rd M2 63 i = rd M 63 i := fun i => he _ _ (Or.inl rfl)
  refine ⟨?_, ?_, ?_, fun j hj => ?_, ?_, fun j hj i i0 i1 => ?_⟩
  · rw [c]; exact t1
  · rw [hn, c]; exact t2
  · rw [hz, c]; exact t3
  · rw [hT, c, c]; exact t4 j hj
  · rw [c, c, c]; exact t5
  · rw [c] at i1
    rw [c]
    have hx := tref_hi t1 hj
    have hr := (t4 j hj).1
    rw [he _ _ (Or.inr (by rcases hx with hx | hx <;> omega))]
    exact t6 j hj i i0 i1
theorem Xp.two {q : Mem → Prop} {M : Mem} {x y i a b : Int} (h : Xp q M) (hg : good a b) (hx : (x, y) ∈ gcT) (hq : q (wr (wr M x i a) y i b)) : Xp q (wr (wr M x i a) y i b) := by
  have s := gcT_s hx
  refine ⟨h.1.two hg hx, h.2.1.of rfl rfl rfl fun z j hz => ?_, hq⟩
  rw [rd_wn _ (fun d => by have := d.1; omega), rd_wn _ (fun d => by have := d.1; omega)]
/-- the two writes side by side, of rows without places of their own -/
theorem St.two {q : Mem → Prop} {ws : List (Int × Int)} {as : List Int} {M0 M : Mem} {x y i a b lo hi lo2 hi2 : Int} (k k2 : Nat) (h : St q ws as M0 M) (hx : (x, y) ∈ gcT) (hg : good a b) (m1 : x ∈ as) (m2 : y ∈ as)
    (hk : ivA[k]? = some (x, lo, hi)) (hu : ivA.zipIdx.all (fun e => decide (e.2 = k) || !(decide (e.1.1 = x))) = true) (ha : ivF.all (fun e => !decide (e.1 = x)) = true) (hf : fxnoA x = true) (hv : lo ≤ a ∧ a ≤ hi)
    (hk2 : ivA[k2]? = some (y, lo2, hi2)) (hu2 : ivA.zipIdx.all (fun e => decide (e.2 = k2) || !(decide (e.1.1 = y))) = true) (ha2 : ivF.all (fun e => !decide (e.1 = y)) = true) (hf2 : fxnoA y = true) (hv2 : lo2 ≤ b ∧ b ≤ hi2) (hq : q (wr (wr M x i a) y i b)) : St q ws as M0 (wr (wr M x i a) y i b) := by
  have s := gcT_s hx
  have hI : Fx (wr (wr M x i a) y i b) ∧ Iv (wr (wr M x i a) y i b) := by
    refine ⟨h.1.1.of rfl rfl fun e he => ?_, fun e he => ?_, fun e he j => ?_⟩
    · have h1 := List.all_eq_true.mp hf e he
      have h2 := List.all_eq_true.mp hf2 e he
      simp only [Bool.not_eq_true', decide_eq_false_iff_not] at h1 h2
      rw [rd_wn _ (fun d => h2 d.1), rd_wn _ (fun d => h1 d.1)]
    · have h1 := List.all_eq_true.mp ha e he
      have h2 := List.all_eq_true.mp ha2 e he
      simp only [Bool.not_eq_true', decide_eq_false_iff_not] at h1 h2
      rw [rd_wn _ (fun d => h2 d.1), rd_wn _ (fun d => h1 d.1)]
      exact h.1.2.1.1 e he
    · obtain ⟨n, hn0, hn1⟩ := List.getElem_of_mem he
      have g1 := List.all_eq_true.mp hu (e, n) (by rw [← hn1]; exact List.mk_mem_zipIdx_iff_getElem?.mpr (by rw [List.getElem?_eq_getElem hn0]))
      have g2 := List.all_eq_true.mp hu2 (e, n) (by rw [← hn1]; exact List.mk_mem_zipIdx_iff_getElem?.mpr (by rw [List.getElem?_eq_getElem hn0]))
      simp only [Bool.or_eq_true, decide_eq_true_eq, Bool.not_eq_true', decide_eq_false_iff_not] at g1 g2
      have old := h.1.2.1.2 e he j
      have ee : ivA[n]? = some e := by rw [List.getElem?_eq_getElem hn0, hn1]
      rw [rd_wr]
      by_cases c2 : e.1 = y ∧ j = i
      · rw [if_pos c2]
        have : n = k2 := g2.resolve_right (fun d => d c2.1)
        subst this
        rw [ee] at hk2
        cases hk2
        exact hv2
      · rw [if_neg c2, rd_wr]
        by_cases c1 : e.1 = x ∧ j = i
        · rw [if_pos c1]
          have : n = k := g1.resolve_right (fun d => d c1.1)
          subst this
          rw [ee] at hk
          cases hk
          exact hv
        · rw [if_neg c1]
          exact old
  refine ⟨⟨hI.1, hI.2, h.1.2.2.two hg hx hq⟩, fun z j h8 n1 n2 => ?_, fun n1 z j h8 => ?_⟩
  · rw [rd_wn _ (fun d => n1 (by rw [d.1]; exact m2)), rd_wn _ (fun d => n1 (by rw [d.1]; exact m1))]
    exact h.2.1 z j h8 n1 n2
  · rw [rd_wn _ (fun d => by have := d.1; omega), rd_wn _ (fun d => by have := d.1; omega)]
    exact h.2.2 n1 z j h8
/-- the op is known: what its arg is -/
theorem gc_at {q : Mem → Prop} {M : Mem} (h : Xp q M) (x y : Int) (hx : (x, y) ∈ gcT) {i o : Int} (e : rd M x i = o) : (o = 1 → 0 ≤ rd M y i ∧ rd M y i ≤ 2) ∧ (o = 2 ∨ o = 4 → 0 ≤ rd M y i ∧ rd M y i ≤ 5) := by
  have h1 := h.1 _ hx i
  have e2 : rd M (x, y).1 i = o := e
  rw [e2] at h1
  exact h1
-- the Trail
section TRAIL
variable {q : Mem → Prop} {ws : List (Int × Int)} {as : List Int} {M0 M : Mem}
theorem tl_b (h : St q ws as M0 M) {b : Int} (eb : rd M 63 1 = b) : b = 64 ∨ b = 191 ∨ b = 200 ∨ b = 209 ∨ b = 218 ∨ b = 227 ∨ b = 236 := by rw [← eb]; exact h.1.2.2.2.1.1
theorem tl_ref (h : St q ws as M0 M) {b : Int} (eb : rd M 63 1 = b) {j : Int} (hj : j ∈ tJ) : rd M 63 j = tref b j := by rw [← eb]; exact (h.1.2.2.2.1.2.2.2.1 j hj).1
theorem tl_ty (h : St q ws as M0 M) {b r : Int} (eb : rd M 63 1 = b) {j : Int} (hj : j ∈ tJ) (er : r = tref b j) : mT M r = (if j = 5 then 21 else 20, fN b) := by rw [er, ← tl_ref h eb hj, ← eb]; exact (h.1.2.2.2.1.2.2.2.1 j hj).2
theorem tl_tyI (h : St q ws as M0 M) {b r : Int} (eb : rd M 63 1 = b) {j : Int} (hj : j ∈ tJ) (h5 : j ≠ 5) (er : r = tref b j) : mT M r = (20, fN b) := by rw [tl_ty h eb hj er, if_neg h5]
theorem tl_tyL (h : St q ws as M0 M) {b r : Int} (eb : rd M 63 1 = b) (er : r = tref b 5) : mT M r = (21, fN b) := by rw [tl_ty h eb (j := 5) (by decide) er, if_pos rfl]
theorem tl_n (h : St q ws as M0 M) {b : Int} (eb : rd M 63 1 = b) : 0 ≤ rd M 63 0 ∧ rd M 63 0 ≤ fN b ∧ 0 ≤ rd M 63 7 ∧ rd M 63 7 ≤ fN b ∧ (fN b : Int) ≤ 2016 := by
  have h1 := h.1.2.2.2.1.2.2.2.2.1
  rw [eb] at h1
  refine ⟨h1.1, h1.2.1, h1.2.2.1, h1.2.2.2, ?_⟩
  rcases tl_b h eb with rfl | rfl | rfl | rfl | rfl | rfl | rfl <;> decide
theorem tl_hi (h : St q ws as M0 M) {b r i : Int} (eb : rd M 63 1 = b) {j : Int} (hj : j ∈ tJ) (er : r = tref b j) (h0 : 0 ≤ i) (h1 : i < fN b) : 191 ≤ r := by
  have := tref_hi (tl_b h eb) hj
  rcases this with c | c <;> omega
theorem tl_el (h : St q ws as M0 M) {b r i : Int} (eb : rd M 63 1 = b) {j : Int} (hj : j ∈ tJ) (er : r = tref b j) (h0 : 0 ≤ i) (h1 : i < fN b) : tlo j ≤ rd M r i ∧ rd M r i ≤ thi j := by
  have := h.1.2.2.2.1.2.2.2.2.2 j hj i h0 (by rw [eb]; exact h1)
  rw [tl_ref h eb hj, ← er] at this
  exact this
theorem tl_eI (h : St q ws as M0 M) {b r i : Int} (eb : rd M 63 1 = b) {j : Int} (hj : j ∈ tJ) (h5 : ¬ (j = 1 ∨ j = 8) ∧ j ≠ 5) (er : r = tref b j) (h0 : 0 ≤ i) (h1 : i < fN b) : -2147483648 ≤ rd M r i ∧ rd M r i ≤ 2147483647 := by
  have := tl_el h eb hj er h0 h1
  unfold tlo thi at this
  rw [if_neg h5.1, if_neg h5.1, if_neg h5.2, if_neg h5.2] at this
  exact this
theorem tl_eP (h : St q ws as M0 M) {b r i : Int} (eb : rd M 63 1 = b) {j : Int} (hj : j ∈ tJ) (h5 : j = 1 ∨ j = 8) (er : r = tref b j) (h0 : 0 ≤ i) (h1 : i < fN b) : 0 ≤ rd M r i ∧ rd M r i ≤ 5 := by
  have := tl_el h eb hj er h0 h1
  unfold tlo thi at this
  rw [if_pos h5, if_pos h5] at this
  exact this
theorem tl_eL (h : St q ws as M0 M) {b r i : Int} (eb : rd M 63 1 = b) (er : r = tref b 5) (h0 : 0 ≤ i) (h1 : i < fN b) : -9223372036854775808 ≤ rd M r i ∧ rd M r i ≤ 9223372036854775807 := by
  have := tl_el h eb (j := 5) (by decide) er h0 h1
  unfold tlo thi at this
  have n1 : ¬ ((5 : Int) = 1 ∨ (5 : Int) = 8) := by decide
  rw [if_neg n1, if_neg n1, if_pos rfl, if_pos rfl] at this
  exact this
theorem tref_inj {b j k : Int} (hb : b = 64 ∨ b = 191 ∨ b = 200 ∨ b = 209 ∨ b = 218 ∨ b = 227 ∨ b = 236) (hj : j ∈ tJ) (hk : k ∈ tJ) (h : tref b j = tref b k) : j = k := by
  simp only [tJ, List.mem_cons, List.not_mem_nil, or_false] at hj hk
  rcases hb with rfl | rfl | rfl | rfl | rfl | rfl | rfl <;> rcases hj with rfl | rfl | rfl | rfl | rfl | rfl | rfl | rfl | rfl <;> rcases hk with rfl | rfl | rfl | rfl | rfl | rfl | rfl | rfl | rfl <;> first | rfl | exact absurd h (by decide)
/-- a write into one of the Trail's rows -/
theorem tl_wr (h : St q ws as M0 M) (m : (191 : Int) ∈ as) {b r i v : Int} (eb : rd M 63 1 = b) {j : Int} (hj : j ∈ tJ) (er : r = tref b j) (h0 : 0 ≤ i) (h1 : i < fN b) (hv : tlo j ≤ v ∧ v ≤ thi j) (hq : q (wr M r i v)) : St q ws as M0 (wr M r i v) := by
  have hr := tl_hi h eb hj er h0 h1
  have lt : ∀ (y k : Int), y < 191 → rd (wr M r i v) y k = rd M y k := fun y k hy => rd_wn _ (fun d => by have := d.1; omega)
  obtain ⟨hF, hV, hG, ⟨t1, t2, t3, t4, t5, t6⟩, hR⟩ := h.1
  refine ⟨⟨hF.of rfl rfl fun e he => lt _ _ ?_, ⟨fun e he => ?_, fun e he k => ?_⟩, fun e he k => ?_, ⟨?_, ?_, ?_, fun k hk => ?_, ?_, fun j2 hj2 k i0 i1 => ?_⟩, hq⟩, fun y k h8 n1 n2 => ?_, fun n1 => absurd m n1⟩
  · simpa using List.all_eq_true.mp fxT_lt e he
  · rw [lt _ _ (by simpa using List.all_eq_true.mp ivF_lt e he)]
    exact hV.1 e he
  · rw [lt _ _ (by simpa using List.all_eq_true.mp ivA_lt e he)]
    exact hV.2 e he k
  · have s := gcT_s he
    rw [lt _ _ s.1, lt _ _ s.2.1]
    exact hG e he k
  · rw [lt _ _ (by decide)]; exact t1
  · rw [lt _ _ (by decide)]; exact t2
  · rw [lt _ _ (by decide)]; exact t3
  · rw [lt _ _ (by decide), lt _ _ (by decide)]; exact t4 k hk
  · rw [lt _ _ (by decide), lt _ _ (by decide), lt _ _ (by decide)]; exact t5
  · rw [lt 63 _ (by decide)] at i1
    rw [lt 63 _ (by decide), rd_wr]
    by_cases c : rd M 63 j2 = r ∧ k = i
    · rw [if_pos c]
      have e1 := tl_ref h eb hj2
      have e2 : j = j2 := tref_inj (tl_b h eb) hj hj2 (by rw [← er, ← e1, c.1])
      rw [← e2]
      exact hv
    · rw [if_neg c]
      exact t6 j2 hj2 k i0 i1
  · rw [lt _ _ h8]; exact h.2.1 y k h8 n1 n2
theorem Tl.cnt {M : Mem} {k v : Int} (h : Tl M) (hk : k = 0 ∨ k = 7) (h0 : 0 ≤ v) (h1 : v ≤ fN (rd M 63 1)) : Tl (wr M 63 k v) := by
  obtain ⟨t1, t2, t3, t4, t5, t6⟩ := h
  have lt : ∀ (y j : Int), y ≠ 63 ∨ (j ≠ 0 ∧ j ≠ 7) → rd (wr M 63 k v) y j = rd M y j := fun y j hy => rd_wn _ (fun d => by have := d.1; have := d.2; omega)
  refine ⟨?_, ?_, ?_, fun j hj => ?_, ?_, fun j hj i i0 i1 => ?_⟩
  · rw [lt _ _ (by decide)]; exact t1
  · rw [lt _ _ (by decide)]; exact t2
  · rw [lt _ _ (by decide)]; exact t3
  · have hj2 : j ≠ 0 ∧ j ≠ 7 := by
      simp only [tJ, List.mem_cons, List.not_mem_nil, or_false] at hj
      omega
    rw [lt 63 j (Or.inr hj2), lt 63 1 (by decide)]
    exact t4 j hj
  · rw [lt 63 1 (by decide)]
    rcases hk with rfl | rfl
    · rw [rd_ws, rd_wn _ (by decide)]
      exact ⟨h0, h1, t5.2.2⟩
    · rw [rd_ws, rd_wn _ (by decide)]
      exact ⟨t5.1, t5.2.1, h0, h1⟩
  · have hj2 : j ≠ 0 ∧ j ≠ 7 := by
      simp only [tJ, List.mem_cons, List.not_mem_nil, or_false] at hj
      omega
    rw [lt 63 1 (by decide)] at i1
    rw [lt 63 j (Or.inr hj2)]
    have hr := (t4 j hj).1
    rw [lt _ _ (Or.inl (by rcases tref_hi t1 hj with c | c <;> omega))]
    exact t6 j hj i i0 i1
/-- a count of the Trail is written -/
theorem xp_cnt {M : Mem} {b k v : Int} (h : Xp q M) (eb : rd M 63 1 = b) (hk : k = 0 ∨ k = 7) (h0 : 0 ≤ v) (h1 : v ≤ fN b) (hq : q (wr M 63 k v)) : Xp q (wr M 63 k v) := by
  refine ⟨fun e he j => ?_, h.2.1.cnt hk h0 (by rw [eb]; exact h1), hq⟩
  have s := gcT_s he
  rw [rd_wn _ (fun d => by have := d.1; omega), rd_wn _ (fun d => by have := d.1; omega)]
  exact h.1 e he j
/-- behind a run's begin: a PART that isn't asleep is in a STRETCH that is there -/
def Rn (M : Mem) : Prop := ∀ p : Int, 0 ≤ p → p < 6 → rd M 69 p < rd M 63 0
theorem Rn.of {M M2 : Mem} (h : Rn M) (h0 : ∀ j : Int, rd M2 69 j = rd M 69 j) (h1 : rd M2 63 0 = rd M 63 0) : Rn M2 := fun p p0 p1 => by
  rw [h0, h1]
  exact h p p0 p1
theorem tl_r (h : St Rn ws as M0 M) {p : Int} (p0 : 0 ≤ p) (p1 : p < 6) {c : Int} (ec : rd M 63 0 = c) : rd M 69 p < c := by rw [← ec]; exact h.1.2.2.2.2 p p0 p1
theorem Rn.run {M : Mem} {i v : Int} (h : Rn M) (hv : v < rd M 63 0) : Rn (wr M 69 i v) := fun p p0 p1 => by
  have e9 : rd (wr M 69 i v) 63 0 = rd M 63 0 := rd_wn M (fun d => absurd d.1 (by decide))
  rw [e9, rd_wr]
  split
  · exact hv
  · exact h p p0 p1
/-- a STRETCH is there once it is counted -/
theorem st_up {M : Mem} {b v : Int} (h : St Tru ws as M0 M) (m : ((63, 0) : Int × Int) ∈ ws) (eb : rd M 63 1 = b) (h0 : 0 ≤ v) (h1 : v ≤ fN b) (hr : ∀ p : Int, 0 ≤ p → p < 6 → rd M 69 p < v) : St Rn ws as M0 (wr M 63 0 v) := by
  have hn := tl_n h eb
  refine St.rn (stX_63_0 h m (by omega) (xp_cnt h.1.2.2 eb (Or.inl rfl) h0 h1 trivial)) fun p p0 p1 => ?_
  rw [rd_ws, rd_wn _ (fun d => absurd d.1 (by decide))]
  exact hr p p0 p1
theorem fil_at {M : Mem} {x v j : Int} {n : Nat} (h0 : 0 ≤ j) (h1 : j < n) : rd (fil M x n v) x j = v := by rw [rd_fil, if_pos ⟨rfl, h0, h1⟩]
/-- which ones of a machine's LINES come next are LINES, or the end -/
def Yn15 (M : Mem) : Prop := ∀ k : Int, 0 ≤ k → k < rd M 15 0 → 0 ≤ rd M 19 k ∧ 0 ≤ rd M 20 k
def Yn35 (M : Mem) : Prop := ∀ k : Int, 0 ≤ k → k < rd M 35 0 → 0 ≤ rd M 39 k ∧ 0 ≤ rd M 40 k
theorem Yn15.of {M M2 : Mem} (h : Yn15 M) (h0 : ∀ j : Int, rd M2 19 j = rd M 19 j) (h1 : ∀ j : Int, rd M2 20 j = rd M 20 j) (h2 : rd M2 15 0 = rd M 15 0) : Yn15 M2 := fun k k0 k1 => by
  rw [h0, h1]
  exact h k k0 (by rw [← h2]; exact k1)
theorem Yn35.of {M M2 : Mem} (h : Yn35 M) (h0 : ∀ j : Int, rd M2 39 j = rd M 39 j) (h1 : ∀ j : Int, rd M2 40 j = rd M 40 j) (h2 : rd M2 35 0 = rd M 35 0) : Yn35 M2 := fun k k0 k1 => by
  rw [h0, h1]
  exact h k k0 (by rw [← h2]; exact k1)
end TRAIL
