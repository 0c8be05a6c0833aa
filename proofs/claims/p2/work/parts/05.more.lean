/-! rows that only rewrite; a row filled -/
section MORE
variable {l : Launch} {K : EC} {d : Nat} {m : MD} {pc : Nat} {ls ls2 : List (Nat × PV)} {st st2 : List PV} {M M2 : Mem} {Q : Mem → Option PV → Prop}
theorem Tr.tp {t : Nat} {a : Int} (b : Int) (h : a = b) (k : Tr l K d m pc ls ((t, b) :: st) M Q) : Tr l K d m pc ls ((t, a) :: st) M Q := h ▸ k
theorem Tr.lc (ls2 : List (Nat × PV)) (h : ls = ls2) (k : Tr l K d m pc ls2 st M Q) : Tr l K d m pc ls st M Q := h ▸ k
theorem Tr.sc (st2 : List PV) (h : st = st2) (k : Tr l K d m pc ls st2 M Q) : Tr l K d m pc ls st M Q := h ▸ k
theorem Tr.mc (M2 : Mem) (h : M = M2) (k : Tr l K d m pc ls st M2 Q) : Tr l K d m pc ls st M Q := h ▸ k
end MORE
theorem ne01 : ¬ (0 : Nat) = 1 := by decide
theorem ne21 : ¬ (2 : Nat) = 1 := by decide
theorem rd_wb (M : Mem) {x i v y j : Int} (h : (decide (y = x) && decide (j = i)) = false) : rd (wr M x i v) y j = rd M y j := by
  refine rd_wn M fun c => ?_
  rw [decide_eq_true c.1, decide_eq_true c.2] at h
  cases h
/-- the first n places of x hold v -/
def fil (M : Mem) (x : Int) (n : Nat) (v : Int) : Mem := (M.1, M.2.1, M.2.2.1, fun y j => if y = x ∧ 0 ≤ j ∧ j < n then v else M.2.2.2 y j)
theorem rd_fil (M : Mem) (x : Int) (n : Nat) (v y j : Int) : rd (fil M x n v) y j = if y = x ∧ 0 ≤ j ∧ j < n then v else rd M y j := rfl
theorem rd_fb (M : Mem) {x : Int} {n : Nat} {v y j : Int} (h : decide (y = x) = false) : rd (fil M x n v) y j = rd M y j := by
  rw [rd_fil, if_neg]
  rintro ⟨rfl, -⟩
  rw [decide_eq_true rfl] at h
  cases h
theorem rd_fi (M : Mem) {x : Int} {n : Nat} {v j : Int} (h0 : 0 ≤ j) (h1 : j < n) : rd (fil M x n v) x j = v := by rw [rd_fil, if_pos ⟨rfl, h0, h1⟩]
theorem mT_fil (M : Mem) (x : Int) (n : Nat) (v : Int) : mT (fil M x n v) = mT M := rfl
theorem rd_cb (M : Mem) {x y sp dp n z j : Int} (h : decide (z = y) = false) : rd (cpy M x y sp dp n) z j = rd M z j := by
  rw [rd_cpy, if_neg]
  rintro ⟨rfl, -⟩
  rw [decide_eq_true rfl] at h
  cases h
theorem rd_ci (M : Mem) {x y sp dp n j : Int} (i : Int) (h0 : dp ≤ j) (h1 : j < dp + n) (hi : sp + (j - dp) = i) : rd (cpy M x y sp dp n) y j = rd M x i := by rw [rd_cpy, if_pos ⟨rfl, h0, h1⟩, hi]
theorem w32_1 {i : Int} (h0 : 0 ≤ i) (h : i < 2147483647) : w32 (i + 1) = i + 1 := w32_id (by omega)
/-! places in the tables -/
theorem inT1 {w : Cond} (h : w ∈ tables_1_1) : w ∈ lw_tbl := List.mem_append_right _ (List.mem_append_left _ (h))
theorem inT2 {w : Cond} (h : w ∈ tables_1_2) : w ∈ lw_tbl := List.mem_append_right _ (List.mem_append_right _ (List.mem_append_left _ (h)))
theorem inT3 {w : Cond} (h : w ∈ tables_1_3) : w ∈ lw_tbl := List.mem_append_right _ (List.mem_append_right _ (List.mem_append_right _ (List.mem_append_left _ (h))))
theorem inT4 {w : Cond} (h : w ∈ tables_1_4) : w ∈ lw_tbl := List.mem_append_right _ (List.mem_append_right _ (List.mem_append_right _ (List.mem_append_right _ (List.mem_append_left _ (h)))))
theorem inT5 {w : Cond} (h : w ∈ tables_1_5) : w ∈ lw_tbl := List.mem_append_right _ (List.mem_append_right _ (List.mem_append_right _ (List.mem_append_right _ (List.mem_append_right _ (List.mem_append_left _ (h))))))
theorem inT6 {w : Cond} (h : w ∈ tables_1_6) : w ∈ lw_tbl := List.mem_append_right _ (List.mem_append_right _ (List.mem_append_right _ (List.mem_append_right _ (List.mem_append_right _ (List.mem_append_right _ (List.mem_append_left _ (h)))))))
theorem inT7 {w : Cond} (h : w ∈ tables_1_7) : w ∈ lw_tbl := List.mem_append_right _ (List.mem_append_right _ (List.mem_append_right _ (List.mem_append_right _ (List.mem_append_right _ (List.mem_append_right _ (List.mem_append_right _ (List.mem_append_left _ (h))))))))
theorem inT8 {w : Cond} (h : w ∈ tables_1_8) : w ∈ lw_tbl := List.mem_append_right _ (List.mem_append_right _ (List.mem_append_right _ (List.mem_append_right _ (List.mem_append_right _ (List.mem_append_right _ (List.mem_append_right _ (List.mem_append_right _ (List.mem_append_left _ (h)))))))))
theorem inT9 {w : Cond} (h : w ∈ tables_1_9) : w ∈ lw_tbl := List.mem_append_right _ (List.mem_append_right _ (List.mem_append_right _ (List.mem_append_right _ (List.mem_append_right _ (List.mem_append_right _ (List.mem_append_right _ (List.mem_append_right _ (List.mem_append_right _ (List.mem_append_left _ (h))))))))))
theorem inT10 {w : Cond} (h : w ∈ tables_1_10) : w ∈ lw_tbl := List.mem_append_right _ (List.mem_append_right _ (List.mem_append_right _ (List.mem_append_right _ (List.mem_append_right _ (List.mem_append_right _ (List.mem_append_right _ (List.mem_append_right _ (List.mem_append_right _ (List.mem_append_right _ (h))))))))))
theorem inP1 {q : MethodName × Nat} (h : q ∈ lw_privs_1) : Cond.selects q.1.cls q.1 q.1 ∈ lw_tbl := List.mem_append_left _ (List.mem_map.mpr ⟨q, List.mem_append_left _ (h), rfl⟩)
theorem inP2 {q : MethodName × Nat} (h : q ∈ lw_privs_2) : Cond.selects q.1.cls q.1 q.1 ∈ lw_tbl := List.mem_append_left _ (List.mem_map.mpr ⟨q, List.mem_append_right _ (List.mem_append_left _ (h)), rfl⟩)
theorem inP3 {q : MethodName × Nat} (h : q ∈ lw_privs_3) : Cond.selects q.1.cls q.1 q.1 ∈ lw_tbl := List.mem_append_left _ (List.mem_map.mpr ⟨q, List.mem_append_right _ (List.mem_append_right _ (List.mem_append_left _ (h))), rfl⟩)
theorem inP4 {q : MethodName × Nat} (h : q ∈ lw_privs_4) : Cond.selects q.1.cls q.1 q.1 ∈ lw_tbl := List.mem_append_left _ (List.mem_map.mpr ⟨q, List.mem_append_right _ (List.mem_append_right _ (List.mem_append_right _ (List.mem_append_left _ (h)))), rfl⟩)
theorem inP5 {q : MethodName × Nat} (h : q ∈ lw_privs_5) : Cond.selects q.1.cls q.1 q.1 ∈ lw_tbl := List.mem_append_left _ (List.mem_map.mpr ⟨q, List.mem_append_right _ (List.mem_append_right _ (List.mem_append_right _ (List.mem_append_right _ (List.mem_append_left _ (h))))), rfl⟩)
theorem inP6 {q : MethodName × Nat} (h : q ∈ lw_privs_6) : Cond.selects q.1.cls q.1 q.1 ∈ lw_tbl := List.mem_append_left _ (List.mem_map.mpr ⟨q, List.mem_append_right _ (List.mem_append_right _ (List.mem_append_right _ (List.mem_append_right _ (List.mem_append_right _ (List.mem_append_left _ (h)))))), rfl⟩)
theorem inP7 {q : MethodName × Nat} (h : q ∈ lw_privs_7) : Cond.selects q.1.cls q.1 q.1 ∈ lw_tbl := List.mem_append_left _ (List.mem_map.mpr ⟨q, List.mem_append_right _ (List.mem_append_right _ (List.mem_append_right _ (List.mem_append_right _ (List.mem_append_right _ (List.mem_append_right _ (List.mem_append_left _ (h))))))), rfl⟩)
theorem inP8 {q : MethodName × Nat} (h : q ∈ lw_privs_8) : Cond.selects q.1.cls q.1 q.1 ∈ lw_tbl := List.mem_append_left _ (List.mem_map.mpr ⟨q, List.mem_append_right _ (List.mem_append_right _ (List.mem_append_right _ (List.mem_append_right _ (List.mem_append_right _ (List.mem_append_right _ (List.mem_append_right _ (List.mem_append_left _ (h)))))))), rfl⟩)
theorem inP9 {q : MethodName × Nat} (h : q ∈ lw_privs_9) : Cond.selects q.1.cls q.1 q.1 ∈ lw_tbl := List.mem_append_left _ (List.mem_map.mpr ⟨q, List.mem_append_right _ (List.mem_append_right _ (List.mem_append_right _ (List.mem_append_right _ (List.mem_append_right _ (List.mem_append_right _ (List.mem_append_right _ (List.mem_append_right _ (h)))))))), rfl⟩)
def mJ7_fill_53178 : MD := (14, yJ7_fill_53178, cJ7_fill_53178, 4, none)
theorem d_J7_fill_53178_0 : decode mJ7_fill_53178.2.2.1 0 = .ok (.iconst 0, 1) := by decide +kernel
theorem d_J7_fill_53178_1 : decode mJ7_fill_53178.2.2.1 1 = .ok (.istore_n 2, 1) := by decide +kernel
theorem d_J7_fill_53178_2 : decode mJ7_fill_53178.2.2.1 2 = .ok (.aload_n 0, 1) := by decide +kernel
theorem d_J7_fill_53178_3 : decode mJ7_fill_53178.2.2.1 3 = .ok (.arraylength, 1) := by decide +kernel
theorem d_J7_fill_53178_4 : decode mJ7_fill_53178.2.2.1 4 = .ok (.istore_n 3, 1) := by decide +kernel
theorem d_J7_fill_53178_5 : decode mJ7_fill_53178.2.2.1 5 = .ok (.iload_n 2, 1) := by decide +kernel
theorem d_J7_fill_53178_6 : decode mJ7_fill_53178.2.2.1 6 = .ok (.iload_n 3, 1) := by decide +kernel
theorem d_J7_fill_53178_7 : decode mJ7_fill_53178.2.2.1 7 = .ok (.if_icmp .ge 13, 3) := by decide +kernel
theorem d_J7_fill_53178_10 : decode mJ7_fill_53178.2.2.1 10 = .ok (.aload_n 0, 1) := by decide +kernel
theorem d_J7_fill_53178_11 : decode mJ7_fill_53178.2.2.1 11 = .ok (.iload_n 2, 1) := by decide +kernel
theorem d_J7_fill_53178_12 : decode mJ7_fill_53178.2.2.1 12 = .ok (.iload_n 1, 1) := by decide +kernel
theorem d_J7_fill_53178_13 : decode mJ7_fill_53178.2.2.1 13 = .ok (.iastore, 1) := by decide +kernel
theorem d_J7_fill_53178_14 : decode mJ7_fill_53178.2.2.1 14 = .ok (.iinc 2 1, 3) := by decide +kernel
theorem d_J7_fill_53178_17 : decode mJ7_fill_53178.2.2.1 17 = .ok (.goto (-12), 3) := by decide +kernel
theorem d_J7_fill_53178_20 : decode mJ7_fill_53178.2.2.1 20 = .ok (.return_, 1) := by decide +kernel
theorem ini_14 : Cond.initialized "java/util/Arrays" ∈ tblG := tblG_in (inT1 (List.mem_of_getElem? (i := 13) rfl)) rfl
theorem ok_J7_fill_53178 : e_m mJ7_fill_53178 2 := ⟨tblG_in (inT3 (List.mem_of_getElem? (i := 43) rfl)) rfl, plainFor_of_name (by decide), rfl, ini_14, by decide +kernel, by decide⟩
/-- Arrays.fill of ints -/
theorem sp_fill {l : Launch} {K : EC} {d : Nat} {M : Mem} {x v : Int} {N : Nat} (ht : mT M x = (20, N)) (hN : N ≤ 2147483647) : Tr l K d mJ7_fill_53178 0 [(0, (2, x)), (1, (0, v))] [] M (fun M' r => M' = fil M x N v ∧ r = none) := by
  refine Tr.iconst d_J7_fill_53178_0 (by decide) ?_
  refine Tr.istore_n (i := 2) (ls2 := [(2, _), (0, _), (1, _)]) d_J7_fill_53178_1 rfl (by decide) rfl ?_
  refine Tr.aload_n (i := 0) d_J7_fill_53178_2 rfl rfl ?_
  refine Tr.alen d_J7_fill_53178_3 ht (by decide) hN ?_
  refine Tr.istore_n (i := 3) (ls2 := [(3, _), (2, _), (0, _), (1, _)]) d_J7_fill_53178_4 rfl (by decide) rfl ?_
  have loop : ∀ (n k : Nat), k + n = N → ∀ ls : List (Nat × PV), ls = [(3, (0, (N : Int))), (2, (0, (k : Int))), (0, (2, x)), (1, (0, v))] ∨ ls = [(2, (0, (k : Int))), (3, (0, (N : Int))), (0, (2, x)), (1, (0, v))] → Tr l K d mJ7_fill_53178 5 ls [] (fil M x k v) (fun M' r => M' = fil M x N v ∧ r = none) := by
    intro n
    induction n with
    | zero =>
      intro k hk ls hls
      have hk : k = N := by omega
      subst hk
      rcases hls with rfl | rfl
      all_goals
        refine Tr.iload_n (i := 2) d_J7_fill_53178_5 rfl rfl ?_
        refine Tr.iload_n (i := 3) d_J7_fill_53178_6 rfl rfl ?_
        refine Tr.icmp_ge (tgt := 20) d_J7_fill_53178_7 rfl (fun _ => ?_) (fun hc => absurd (Int.le_refl _) hc)
        exact Tr.vret d_J7_fill_53178_20 rfl ⟨rfl, rfl⟩
    | succ n ih =>
      intro k hk ls hls
      have step : fil M x (k + 1) v = wr (fil M x k v) x k v := by
        have e : (fun y j : Int => if y = x ∧ 0 ≤ j ∧ j < ((k + 1 : Nat) : Int) then v else M.2.2.2 y j) = (fun y j : Int => if y = x ∧ j = (k : Int) then v else if y = x ∧ 0 ≤ j ∧ j < (k : Int) then v else M.2.2.2 y j) := by
          funext y j
          by_cases h1 : y = x ∧ j = (k : Int)
          · rw [if_pos h1, if_pos ⟨h1.1, by omega, by omega⟩]
          · rw [if_neg h1]
            by_cases h2 : y = x ∧ 0 ≤ j ∧ j < (k : Int)
            · rw [if_pos h2, if_pos ⟨h2.1, by omega, by omega⟩]
            · rw [if_neg h2, if_neg (by omega)]
        show (M.1, M.2.1, M.2.2.1, _) = (M.1, M.2.1, M.2.2.1, _)
        exact congrArg (fun f => (M.1, M.2.1, M.2.2.1, f)) e
      rcases hls with rfl | rfl
      all_goals
        refine Tr.iload_n (i := 2) d_J7_fill_53178_5 rfl rfl ?_
        refine Tr.iload_n (i := 3) d_J7_fill_53178_6 rfl rfl ?_
        refine Tr.icmp_ge (tgt := 20) d_J7_fill_53178_7 rfl (fun hc => absurd hc (by omega)) (fun _ => ?_)
        refine Tr.aload_n (i := 0) d_J7_fill_53178_10 rfl rfl ?_
        refine Tr.iload_n (i := 2) d_J7_fill_53178_11 rfl rfl ?_
        refine Tr.iload_n (i := 1) d_J7_fill_53178_12 rfl rfl ?_
        refine Tr.iast (N := N) d_J7_fill_53178_13 ht (by omega) (by omega) ?_
        refine Tr.iinc (ls2 := [(2, _), (3, _), (0, _), (1, _)]) d_J7_fill_53178_14 rfl (by decide) rfl ?_
        refine Tr.goto (tgt := 5) d_J7_fill_53178_17 rfl ?_
        rw [← step]
        refine ih (k + 1) (by omega) _ (Or.inr ?_)
        rw [w32_1 (by omega) (by omega)]
        rfl
  have h0 := loop N 0 (by omega) _ (Or.inl rfl)
  have e0 : fil M x 0 v = M := by
    have e : (fun y j : Int => if y = x ∧ 0 ≤ j ∧ j < ((0 : Nat) : Int) then v else M.2.2.2 y j) = M.2.2.2 := by
      funext y j
      rw [if_neg (by omega)]
    show (M.1, M.2.1, M.2.2.1, _) = M
    exact congrArg (fun f => (M.1, M.2.1, M.2.2.1, f)) e
  rw [e0] at h0
  exact h0
