/-! what holds between the calls -/
section
variable {l : Launch} {K : EC} {d : Nat} {m : MD} {pc : Nat} {ls : List (Nat × PV)} {st : List PV} {M : Mem} {Q : Mem → Option PV → Prop}
theorem Tr.pop2l {v : PV} (hd : decode m.2.2.1 pc = .ok (.pop2, 1)) (hv : v.1 = 1) (k : Tr l K d m (pc + 1) ls st M Q) : Tr l K d m pc ls (v :: st) M Q :=
  Tr.up (fun _ _ => Ends.sk (fun hM hst hls => oks_t hst) (fun p e R s mid args below meth c H locs cells slots lsA Q hX hf hg hR hM hst hls hS hlv k => lv_pop2_2 (va := e_val K v) hX.1 hX.2.1 hd (by rw [e_vcat]; unfold e_ct; rw [if_pos hv]) k)) k
end
def FrX (M M' : Mem) : Prop := ∀ y j : Int, 120 ≤ y → y < 191 → rd M' y j = rd M y j
def FrM (M M' : Mem) : Prop := ∀ y j : Int, y < 120 ∨ 191 ≤ y → rd M' y j = rd M y j
def XI (M : Mem) : Prop := TW M ∧ ((rd M 0 4 = 7 ∧ rd M 0 5 = 27 ∧ Yn15 M ∧ (rd M 0 9 = 1 → rd M 56 1 = 7)) ∨ (rd M 0 4 = 27 ∧ rd M 0 5 = 7 ∧ Yn35 M ∧ (rd M 0 9 = 1 → rd M 56 1 = 27)))
def MI (M : Mem) : Prop := rd M 120 59 = -1 ∧ ((rd M 120 12 = 0 ∧ Bk0 M) ∨ (rd M 120 12 = 1 ∧ Bk1 M))
def LI (M : Mem) : Prop := In Tru M ∧ XI M ∧ MI M ∧ rd M 0 1 = rd M 120 1 ∧ rd M 113 0 = rd M 120 113
section
variable {q : Mem → Prop} {ws : List (Int × Int)} {as : List Int} {M M' : Mem}
def cX (ws : List (Int × Int)) (as : List Int) : Bool := as.all (fun x => decide (x < 120 ∨ x = 191)) && ws.all (fun c => decide (c.1 < 120))
def cM (ws : List (Int × Int)) (as : List Int) : Bool := as.all (fun x => decide (120 ≤ x ∧ x < 191)) && ws.all (fun c => decide (120 ≤ c.1))
def cR (xs : List Int) (ws : List (Int × Int)) (as : List Int) : Bool := as.all (fun a => xs.all (fun x => decide (a ≠ x))) && ws.all (fun c => xs.all (fun x => decide (c.1 ≠ x)))
theorem St.kr {xs : List Int} (hs : St q ws as M M') (hc : cR xs ws as = true) {x : Int} (hx : x ∈ xs) (h9 : x < 191) (j : Int) : rd M' x j = rd M x j := by
  unfold cR at hc
  rw [Bool.and_eq_true] at hc
  refine hs.2.1 x j h9 (fun c => ?_) (fun c => ?_)
  · exact of_decide_eq_true (List.all_eq_true.mp (List.all_eq_true.mp hc.1 x c) x hx) rfl
  · exact of_decide_eq_true (List.all_eq_true.mp (List.all_eq_true.mp hc.2 (x, j) c) x hx) rfl
theorem St.fx (hs : St q ws as M M') (hc : cX ws as = true) : FrX M M' := by
  unfold cX at hc
  rw [Bool.and_eq_true] at hc
  intro y j h0 h1
  refine hs.2.1 y j h1 (fun c => ?_) (fun c => ?_)
  · have h : y < 120 ∨ y = 191 := of_decide_eq_true (List.all_eq_true.mp hc.1 y c)
    omega
  · have h : y < 120 := of_decide_eq_true (List.all_eq_true.mp hc.2 (y, j) c)
    omega
theorem St.fm (hs : St q ws as M M') (hc : cM ws as = true) : FrM M M' := by
  unfold cM at hc
  rw [Bool.and_eq_true] at hc
  intro y j hy
  rcases Int.lt_or_le y 191 with h9 | h9
  · refine hs.2.1 y j h9 (fun c => ?_) (fun c => ?_)
    · have h : 120 ≤ y ∧ y < 191 := of_decide_eq_true (List.all_eq_true.mp hc.1 y c)
      omega
    · have h : 120 ≤ y := of_decide_eq_true (List.all_eq_true.mp hc.2 (y, j) c)
      omega
  · refine hs.2.2 (fun c => ?_) y j h9
    have h : (120 : Int) ≤ 191 ∧ (191 : Int) < 191 := of_decide_eq_true (List.all_eq_true.mp hc.1 191 c)
    omega
def cXY (ws : List (Int × Int)) (as : List Int) : Bool := cR [15, 19, 20, 35, 39, 40] ws as && (as.all (fun x => decide (x ≠ 0 ∧ x ≠ 56)) && ws.all (fun c => decide (c ≠ (0, 4) ∧ c ≠ (0, 5) ∧ c ≠ (0, 9) ∧ c ≠ (56, 1))))
theorem cXY_a (hc : cXY ws as = true) : cR [15, 19, 20, 35, 39, 40] ws as = true ∧ (∀ x ∈ as, x ≠ 0 ∧ x ≠ 56) ∧ ∀ c ∈ ws, c ≠ (0, 4) ∧ c ≠ (0, 5) ∧ c ≠ (0, 9) ∧ c ≠ (56, 1) := by
  unfold cXY at hc
  rw [Bool.and_eq_true, Bool.and_eq_true] at hc
  exact ⟨hc.1, fun x hx => of_decide_eq_true (List.all_eq_true.mp hc.2.1 x hx), fun c hx => of_decide_eq_true (List.all_eq_true.mp hc.2.2 c hx)⟩
theorem XI.st2 (h : XI M) (hs : St q ws as M M') (hc : cXY ws as = true) (ht : TW M') : XI M' := by
  obtain ⟨h1, h2, h3⟩ := cXY_a hc
  have e4 : rd M' 0 4 = rd M 0 4 := St.kp hs (by decide) (fun c => (h2 _ c).1 rfl) (fun c => (h3 _ c).1 rfl)
  have e5 : rd M' 0 5 = rd M 0 5 := St.kp hs (by decide) (fun c => (h2 _ c).1 rfl) (fun c => (h3 _ c).2.1 rfl)
  have e9 : rd M' 0 9 = rd M 0 9 := St.kp hs (by decide) (fun c => (h2 _ c).1 rfl) (fun c => (h3 _ c).2.2.1 rfl)
  have e6 : rd M' 56 1 = rd M 56 1 := St.kp hs (by decide) (fun c => (h2 _ c).2 rfl) (fun c => (h3 _ c).2.2.2 rfl)
  refine ⟨ht, ?_⟩
  rw [e4, e5, e9, e6]
  rcases h.2 with ⟨a, b, c, d⟩ | ⟨a, b, c, d⟩
  · exact Or.inl ⟨a, b, c.of (fun j => St.kr hs h1 (by decide) (by decide) j) (fun j => St.kr hs h1 (by decide) (by decide) j) (St.kr hs h1 (by decide) (by decide) 0), d⟩
  · exact Or.inr ⟨a, b, c.of (fun j => St.kr hs h1 (by decide) (by decide) j) (fun j => St.kr hs h1 (by decide) (by decide) j) (St.kr hs h1 (by decide) (by decide) 0), d⟩
theorem XI.st (h : XI M) (hs : St q ws as M M') (hc : cXY ws as = true) (hT : chT ws as = true) : XI M' := XI.st2 h hs hc (h.1.st hs hT)
theorem XI.tx7 (h : XI M) (e05 : rd M 0 5 = 27) (hy : Yn15 M) (e56 : rd M 0 9 = 1 → rd M 56 1 = 7) (hs : St q ws as M M') (hT : chT ws as = true) (hc : cR [15, 19, 20, 56] ws as = true) {v : Int} (hz : (v = -1 ∧ rd M' 0 4 = 7 ∧ rd M' 0 5 = 27 ∧ rd M' 0 9 = rd M 0 9) ∨ (0 ≤ v ∧ rd M' 0 4 = 27 ∧ rd M' 0 5 = 7 ∧ rd M' 0 9 = 0)) (hn : 0 ≤ v → Yn35 M') : XI M' := by
  refine ⟨h.1.st hs hT, ?_⟩
  rcases hz with ⟨_, z1, z2, z3⟩ | ⟨z0, z1, z2, z3⟩
  · exact Or.inl ⟨z1, z2, hy.of (fun j => St.kr hs hc (by decide) (by decide) j) (fun j => St.kr hs hc (by decide) (by decide) j) (St.kr hs hc (by decide) (by decide) 0), fun c => (St.kr hs hc (by decide) (by decide) 1).trans (e56 (z3.symm.trans c))⟩
  · exact Or.inr ⟨z1, z2, hn z0, fun c => by rw [z3] at c; cases c⟩
theorem XI.tx27 (h : XI M) (e05 : rd M 0 5 = 7) (hy : Yn35 M) (e56 : rd M 0 9 = 1 → rd M 56 1 = 27) (hs : St q ws as M M') (hT : chT ws as = true) (hc : cR [35, 39, 40, 56] ws as = true) {v : Int} (hz : (v = -1 ∧ rd M' 0 4 = 27 ∧ rd M' 0 5 = 7 ∧ rd M' 0 9 = rd M 0 9) ∨ (0 ≤ v ∧ rd M' 0 4 = 7 ∧ rd M' 0 5 = 27 ∧ rd M' 0 9 = 0)) (hn : 0 ≤ v → Yn15 M') : XI M' := by
  refine ⟨h.1.st hs hT, ?_⟩
  rcases hz with ⟨_, z1, z2, z3⟩ | ⟨z0, z1, z2, z3⟩
  · exact Or.inr ⟨z1, z2, hy.of (fun j => St.kr hs hc (by decide) (by decide) j) (fun j => St.kr hs hc (by decide) (by decide) j) (St.kr hs hc (by decide) (by decide) 0), fun c => (St.kr hs hc (by decide) (by decide) 1).trans (e56 (z3.symm.trans c))⟩
  · exact Or.inl ⟨z1, z2, hn z0, fun c => by rw [z3] at c; cases c⟩
theorem XI.rn7 (e04 : rd M 0 4 = 7) (e05 : rd M 0 5 = 27) (hy : Yn15 M) (hs : St q ws as M M') (hc : cR [15, 19, 20] ws as = true) (h2 : (0, 4) ∉ ws ∧ (0, 5) ∉ ws ∧ 0 ∉ as) (z9 : rd M' 0 9 = 1) (z56 : rd M' 56 1 = 7) (zw : rd M' 100 3 = -1) : XI M' :=
  ⟨Or.inl zw, Or.inl ⟨(St.kp hs (by decide) h2.2.2 h2.1).trans e04, (St.kp hs (by decide) h2.2.2 h2.2.1).trans e05, hy.of (fun j => St.kr hs hc (by decide) (by decide) j) (fun j => St.kr hs hc (by decide) (by decide) j) (St.kr hs hc (by decide) (by decide) 0), fun _ => z56⟩⟩
theorem XI.rn27 (e04 : rd M 0 4 = 27) (e05 : rd M 0 5 = 7) (hy : Yn35 M) (hs : St q ws as M M') (hc : cR [35, 39, 40] ws as = true) (h2 : (0, 4) ∉ ws ∧ (0, 5) ∉ ws ∧ 0 ∉ as) (z9 : rd M' 0 9 = 1) (z56 : rd M' 56 1 = 27) (zw : rd M' 100 3 = -1) : XI M' :=
  ⟨Or.inl zw, Or.inr ⟨(St.kp hs (by decide) h2.2.2 h2.1).trans e04, (St.kp hs (by decide) h2.2.2 h2.2.1).trans e05, hy.of (fun j => St.kr hs hc (by decide) (by decide) j) (fun j => St.kr hs hc (by decide) (by decide) j) (St.kr hs hc (by decide) (by decide) 0), fun _ => z56⟩⟩
theorem XI.fr (h : XI M) (hI : In Tru M) (f : FrM M M') : XI M' := by
  have g : ∀ y j : Int, y < 120 → rd M' y j = rd M y j := fun y j hy => f y j (Or.inl hy)
  refine ⟨?_, ?_⟩
  · have hu := tl_u (St.rf (ws := []) (as := []) hI)
    unfold TW
    rw [g 100 3 (by decide), g 100 2 (by decide), g 63 5 (by decide), f (rd M 63 5) _ (by omega)]
    exact h.1
  · rw [g 0 4 (by decide), g 0 5 (by decide), g 0 9 (by decide), g 56 1 (by decide)]
    rcases h.2 with ⟨a, b, c, d⟩ | ⟨a, b, c, d⟩
    · exact Or.inl ⟨a, b, c.of (fun j => g _ j (by decide)) (fun j => g _ j (by decide)) (g _ _ (by decide)), d⟩
    · exact Or.inr ⟨a, b, c.of (fun j => g _ j (by decide)) (fun j => g _ j (by decide)) (g _ _ (by decide)), d⟩
def cMY (ws : List (Int × Int)) (as : List Int) : Bool := cR [131, 137, 138, 139, 140, 141, 142, 143, 126, 136, 123, 124] ws as && (as.all (fun x => decide (x ≠ 120)) && ws.all (fun c => decide (c ≠ (120, 12))))
theorem MI.st (h : MI M) (hs : St q ws as M M') (hc : cMY ws as = true) (hb : rd M' 120 59 = -1) : MI M' := by
  unfold cMY at hc
  rw [Bool.and_eq_true, Bool.and_eq_true] at hc
  have e : rd M' 120 12 = rd M 120 12 := St.kp hs (by decide) (fun c => of_decide_eq_true (List.all_eq_true.mp hc.2.1 _ c) rfl) (fun c => of_decide_eq_true (List.all_eq_true.mp hc.2.2 _ c) rfl)
  refine ⟨hb, ?_⟩
  rw [e]
  have g := fun (x : Int) (hx : x ∈ ([131, 137, 138, 139, 140, 141, 142, 143, 126, 136, 123, 124] : List Int)) (h9 : x < 191) (j : Int) => St.kr hs hc.1 hx h9 j
  rcases h.2 with ⟨a, b⟩ | ⟨a, b⟩
  · exact Or.inl ⟨a, b.of (g _ (by decide) (by decide)) (g _ (by decide) (by decide)) (g _ (by decide) (by decide)) (g _ (by decide) (by decide)) (g _ (by decide) (by decide)) (g _ (by decide) (by decide)) (g _ (by decide) (by decide)) (g _ (by decide) (by decide)) (g _ (by decide) (by decide) _) (g _ (by decide) (by decide) _) (g _ (by decide) (by decide) _) (g _ (by decide) (by decide) _)⟩
  · exact Or.inr ⟨a, b.of (g _ (by decide) (by decide)) (g _ (by decide) (by decide)) (g _ (by decide) (by decide)) (g _ (by decide) (by decide)) (g _ (by decide) (by decide)) (g _ (by decide) (by decide)) (g _ (by decide) (by decide)) (g _ (by decide) (by decide)) (g _ (by decide) (by decide) _) (g _ (by decide) (by decide) _) (g _ (by decide) (by decide) _) (g _ (by decide) (by decide) _)⟩
theorem MI.tx0 {v : Int} (hb : rd M' 120 59 = -1) (h : (v = -1 ∧ rd M' 120 12 = 0 ∧ Bk0 M') ∨ (0 ≤ v ∧ rd M' 120 12 = 1 ∧ Bk1 M')) : MI M' := ⟨hb, h.imp (fun c => c.2) (fun c => c.2)⟩
theorem MI.tx1 {v : Int} (hb : rd M' 120 59 = -1) (h : (v = -1 ∧ rd M' 120 12 = 1 ∧ Bk1 M') ∨ (0 ≤ v ∧ rd M' 120 12 = 0 ∧ Bk0 M')) : MI M' := ⟨hb, h.symm.imp (fun c => c.2) (fun c => c.2)⟩
theorem MI.fr (h : MI M) (f : FrX M M') : MI M' := by
  refine ⟨(f 120 59 (by decide) (by decide)).trans h.1, ?_⟩
  rw [f 120 12 (by decide) (by decide)]
  have g := fun (x : Int) (h0 : 120 ≤ x) (h9 : x < 191) (j : Int) => f x j h0 h9
  rcases h.2 with ⟨a, b⟩ | ⟨a, b⟩
  · exact Or.inl ⟨a, b.of (g _ (by decide) (by decide)) (g _ (by decide) (by decide)) (g _ (by decide) (by decide)) (g _ (by decide) (by decide)) (g _ (by decide) (by decide)) (g _ (by decide) (by decide)) (g _ (by decide) (by decide)) (g _ (by decide) (by decide)) (g _ (by decide) (by decide) _) (g _ (by decide) (by decide) _) (g _ (by decide) (by decide) _) (g _ (by decide) (by decide) _)⟩
  · exact Or.inr ⟨a, b.of (g _ (by decide) (by decide)) (g _ (by decide) (by decide)) (g _ (by decide) (by decide)) (g _ (by decide) (by decide)) (g _ (by decide) (by decide)) (g _ (by decide) (by decide)) (g _ (by decide) (by decide)) (g _ (by decide) (by decide)) (g _ (by decide) (by decide) _) (g _ (by decide) (by decide) _) (g _ (by decide) (by decide) _) (g _ (by decide) (by decide) _)⟩
end
