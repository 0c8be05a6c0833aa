/-! what never changes: the kinds of the cells, the final fields -/
def fxT : List (Int × Int × Int) := [(0, 0, 1), (0, 2, 2), (0, 3, 6), (0, 6, 47), (0, 7, 48), (0, 8, 74), (0, 10, 100), (0, 11, 103), (0, 12, 107), (0, 13, 113), (2, 0, 3), (2, 1, 4), (2, 2, 5), (7, 4, 8), (7, 5, 9), (7, 6, 10), (7, 7, 11), (7, 8, 12), (7, 9, 13), (7, 10, 14), (7, 11, 15), (15, 1, 16), (15, 2, 17), (15, 3, 18), (15, 4, 19), (15, 5, 20), (15, 6, 21), (15, 7, 22), (15, 8, 23), (15, 9, 24), (15, 10, 25), (15, 12, 26), (27, 4, 28), (27, 5, 29), (27, 6, 30), (27, 7, 31), (27, 8, 32), (27, 9, 33), (27, 10, 34), (27, 11, 35), (35, 1, 36), (35, 2, 37), (35, 3, 38), (35, 4, 39), (35, 5, 40), (35, 6, 41), (35, 7, 42), (35, 8, 43), (35, 9, 44), (35, 10, 45), (35, 12, 46), (48, 0, 56), (48, 2, 49), (48, 3, 50), (48, 4, 51), (48, 5, 52), (48, 6, 53), (48, 7, 54), (48, 8, 55), (56, 2, 57), (56, 3, 58), (56, 4, 59), (56, 5, 60), (56, 6, 61), (56, 7, 62), (56, 8, 63), (63, 6, 69), (74, 0, 82), (74, 2, 75), (74, 3, 76), (74, 4, 77), (74, 5, 78), (74, 6, 79), (74, 7, 80), (74, 8, 81), (82, 2, 83), (82, 3, 84), (82, 4, 85), (82, 5, 86), (82, 6, 87), (82, 7, 88), (82, 8, 89), (89, 6, 95), (100, 0, 101), (100, 1, 102), (103, 4, 104), (103, 5, 105), (103, 6, 106), (107, 2, 108), (107, 3, 109), (107, 4, 110), (107, 5, 111), (107, 6, 112), (113, 1, 114), (113, 2, 115), (113, 3, 116), (113, 4, 117), (113, 5, 118), (113, 6, 119), (120, 0, 121), (120, 13, 122), (120, 14, 123), (120, 15, 124), (120, 16, 125), (120, 17, 126), (120, 18, 127), (120, 19, 128), (120, 20, 129), (120, 21, 130), (120, 22, 131), (120, 23, 132), (120, 24, 133), (120, 25, 134), (120, 26, 135), (120, 27, 136), (120, 28, 137), (120, 29, 138), (120, 30, 139), (120, 31, 140), (120, 32, 141), (120, 33, 142), (120, 34, 143), (120, 35, 144), (120, 38, 145), (120, 39, 146), (120, 40, 147), (120, 41, 148), (120, 42, 149), (120, 45, 150), (120, 48, 151), (120, 49, 152), (120, 51, 153), (120, 52, 154), (120, 53, 155), (120, 54, 156), (120, 55, 157), (120, 56, 158), (120, 57, 159), (120, 58, 160), (120, 69, 161), (120, 71, 162), (120, 72, 163), (120, 73, 164), (120, 74, 165), (120, 76, 166), (120, 77, 167), (120, 78, 168), (120, 80, 169), (120, 81, 170), (120, 82, 171), (120, 83, 172), (120, 92, 173), (120, 93, 174), (120, 94, 175), (120, 100, 176), (120, 102, 177), (120, 103, 178), (120, 105, 179), (120, 107, 180), (120, 108, 181), (120, 110, 182), (120, 111, 183), (120, 112, 184), (120, 114, 185), (120, 115, 186), (120, 116, 187), (120, 118, 188), (120, 119, 189), (120, 120, 190)]
def Fx (M : Mem) : Prop := mT M = mT C_461 ∧ M.1 = C_461.1 ∧ M.2.1 = C_461.2.1 ∧ ∀ e ∈ fxT, rd M e.1 e.2.1 = e.2.2
set_option maxRecDepth 100000 in
theorem Fx_0 : Fx C_461 := ⟨rfl, rfl, rfl, by decide +kernel⟩
def fxno (x i : Int) : Bool := fxT.all (fun e => !(decide (e.1 = x) && decide (e.2.1 = i)))
def fxnoA (x : Int) : Bool := fxT.all (fun e => !(decide (e.1 = x)))
theorem Fx_wr {M : Mem} {x i v : Int} (h : Fx M) (hn : fxno x i = true) : Fx (wr M x i v) := ⟨h.1, h.2.1, h.2.2.1, fun e he => by
  have h1 := List.all_eq_true.mp hn e he
  rw [rd_wn M (fun c => by rw [decide_eq_true c.1, decide_eq_true c.2] at h1; cases h1)]
  exact h.2.2.2 e he⟩
theorem Fx_wrA {M : Mem} {x i v : Int} (h : Fx M) (hn : fxnoA x = true) : Fx (wr M x i v) := ⟨h.1, h.2.1, h.2.2.1, fun e he => by
  have h1 := List.all_eq_true.mp hn e he
  rw [rd_wn M (fun c => by rw [decide_eq_true c.1] at h1; cases h1)]
  exact h.2.2.2 e he⟩
theorem Fx_fil {M : Mem} {x v : Int} {n : Nat} (h : Fx M) (hn : fxnoA x = true) : Fx (fil M x n v) := ⟨h.1, h.2.1, h.2.2.1, fun e he => by
  have h1 := List.all_eq_true.mp hn e he
  rw [rd_fb M (by simpa using h1)]
  exact h.2.2.2 e he⟩
theorem Fx_cpy {M : Mem} {x y sp dp n : Int} (h : Fx M) (hn : fxnoA y = true) : Fx (cpy M x y sp dp n) := ⟨h.1, h.2.1, h.2.2.1, fun e he => by
  have h1 := List.all_eq_true.mp hn e he
  rw [rd_cb M (by simpa using h1)]
  exact h.2.2.2 e he⟩
theorem Fx_room {M : Mem} (h : Fx M) : M.1 ≤ 600000 ∧ M.2.1 ≤ room_1.slots := by
  rw [h.2.1, h.2.2.1]
  decide +kernel
section FIX
variable {l : Launch} {K : EC} {d : Nat} {m : MD} {pc : Nat} {ls : List (Nat × PV)} {st : List PV} {M : Mem} {Q : Mem → Option PV → Prop}
theorem Tr.putfX {idx ci N t : Nat} {j x a : Int} (hd : decode m.2.2.1 pc = .ok (.putfield idx, 3)) (hf : e_fld m.1 idx ci j N t false) (h3 : t < 3) (hc : ci < 20) (ht : mT M x = (ci, N)) (hF : Fx M) (hn : fxno x j = true)
    (k : Fx (wr M x j a) → Tr l K d m (pc + 3) ls st (wr M x j a) Q) : Tr l K d m pc ls ((t, a) :: (2, x) :: st) M Q := Tr.putf hd hf h3 hc ht (k (Fx_wr hF hn))
theorem Tr.putzX {idx ci N : Nat} {j x a : Int} (hd : decode m.2.2.1 pc = .ok (.putfield idx, 3)) (hf : e_fld m.1 idx ci j N 3 false) (hc : ci < 20) (ht : mT M x = (ci, N)) (ha : a = 0 ∨ a = 1) (hF : Fx M) (hn : fxno x j = true)
    (k : Fx (wr M x j a) → Tr l K d m (pc + 3) ls st (wr M x j a) Q) : Tr l K d m pc ls ((0, a) :: (2, x) :: st) M Q := Tr.putz hd hf hc ht ha (k (Fx_wr hF hn))
theorem Tr.iastX {N : Nat} {x i a : Int} (hd : decode m.2.2.1 pc = .ok (.iastore, 1)) (ht : mT M x = (20, N)) (h0 : 0 ≤ i) (h1 : i < N) (hF : Fx M) (hn : fxnoA x = true) (k : Fx (wr M x i a) → Tr l K d m (pc + 1) ls st (wr M x i a) Q) : Tr l K d m pc ls ((0, a) :: (0, i) :: (2, x) :: st) M Q := Tr.iast hd ht h0 h1 (k (Fx_wrA hF hn))
theorem Tr.lastX {N : Nat} {x i a : Int} (hd : decode m.2.2.1 pc = .ok (.lastore, 1)) (ht : mT M x = (21, N)) (h0 : 0 ≤ i) (h1 : i < N) (hF : Fx M) (hn : fxnoA x = true) (k : Fx (wr M x i a) → Tr l K d m (pc + 1) ls st (wr M x i a) Q) : Tr l K d m pc ls ((1, a) :: (0, i) :: (2, x) :: st) M Q := Tr.last hd ht h0 h1 (k (Fx_wrA hF hn))
theorem Tr.bastX {N : Nat} {x i a : Int} (hd : decode m.2.2.1 pc = .ok (.bastore, 1)) (ht : mT M x = (22, N)) (h0 : 0 ≤ i) (h1 : i < N) (hF : Fx M) (hn : fxnoA x = true) (k : Fx (wr M x i (w8 a)) → Tr l K d m (pc + 1) ls st (wr M x i (w8 a)) Q) : Tr l K d m pc ls ((0, a) :: (0, i) :: (2, x) :: st) M Q := Tr.bast hd ht h0 h1 (k (Fx_wrA hF hn))
theorem Tr.zastX {N : Nat} {x i a : Int} (hd : decode m.2.2.1 pc = .ok (.bastore, 1)) (ht : mT M x = (23, N)) (h0 : 0 ≤ i) (h1 : i < N) (ha : a = 0 ∨ a = 1) (hF : Fx M) (hn : fxnoA x = true) (k : Fx (wr M x i a) → Tr l K d m (pc + 1) ls st (wr M x i a) Q) : Tr l K d m pc ls ((0, a) :: (0, i) :: (2, x) :: st) M Q := Tr.zast hd ht h0 h1 ha (k (Fx_wrA hF hn))
theorem sp_fillX {x v : Int} {N : Nat} (ht : mT M x = (20, N)) (hN : N ≤ 2147483647) (hF : Fx M) (hn : fxnoA x = true) : Tr l K d mJ7_fill_53178 0 [(0, (2, x)), (1, (0, v))] [] M (fun M' r => M' = fil M x N v ∧ r = none ∧ Fx (fil M x N v)) :=
  Tr.imp (sp_fill ht hN) fun _ _ h => ⟨h.1, h.2, Fx_fil hF hn⟩
theorem Tr.acopyX {idx n0 n1 : Nat} {x y sp dp n : Int} (hd : decode m.2.2.1 pc = .ok (.invokestatic idx, 3)) (w1 : Cond.methodLink (e_cn m.1) idx arraycopyName ∈ tblG) (w2 : Cond.native arraycopyName ∈ tblG) (w3 : Cond.static arraycopyName ∈ tblG) (w4 : Cond.initialized "java/lang/System" ∈ tblG)
    (ht0 : mT M x = (20, n0)) (ht1 : mT M y = (20, n1)) (g1 : 0 ≤ sp) (g2 : 0 ≤ dp) (g3 : 0 ≤ n) (g4 : sp + n ≤ n0) (g5 : dp + n ≤ n1) (hcat : e_cat st ≤ 8) (hF : Fx M) (hn : fxnoA y = true)
    (k : Fx (cpy M x y sp dp n) → Tr l K (d + 1) m (pc + 3) ls st (cpy M x y sp dp n) Q) : Tr l K (d + 1) m pc ls ((0, n) :: (0, dp) :: (2, y) :: (0, sp) :: (2, x) :: st) M Q := Tr.acopy hd w1 w2 w3 w4 ht0 ht1 g1 g2 g3 g4 g5 hcat (k (Fx_cpy hF hn))
end FIX
theorem fx_0_0 {M : Mem} (h : Fx M) : rd M 0 0 = 1 := h.2.2.2 (0, 0, 1) (List.mem_of_getElem? (i := 0) rfl)
theorem fx_0_2 {M : Mem} (h : Fx M) : rd M 0 2 = 2 := h.2.2.2 (0, 2, 2) (List.mem_of_getElem? (i := 1) rfl)
theorem fx_0_3 {M : Mem} (h : Fx M) : rd M 0 3 = 6 := h.2.2.2 (0, 3, 6) (List.mem_of_getElem? (i := 2) rfl)
theorem fx_0_6 {M : Mem} (h : Fx M) : rd M 0 6 = 47 := h.2.2.2 (0, 6, 47) (List.mem_of_getElem? (i := 3) rfl)
theorem fx_0_7 {M : Mem} (h : Fx M) : rd M 0 7 = 48 := h.2.2.2 (0, 7, 48) (List.mem_of_getElem? (i := 4) rfl)
theorem fx_0_8 {M : Mem} (h : Fx M) : rd M 0 8 = 74 := h.2.2.2 (0, 8, 74) (List.mem_of_getElem? (i := 5) rfl)
theorem fx_0_10 {M : Mem} (h : Fx M) : rd M 0 10 = 100 := h.2.2.2 (0, 10, 100) (List.mem_of_getElem? (i := 6) rfl)
theorem fx_0_11 {M : Mem} (h : Fx M) : rd M 0 11 = 103 := h.2.2.2 (0, 11, 103) (List.mem_of_getElem? (i := 7) rfl)
theorem fx_0_12 {M : Mem} (h : Fx M) : rd M 0 12 = 107 := h.2.2.2 (0, 12, 107) (List.mem_of_getElem? (i := 8) rfl)
theorem fx_0_13 {M : Mem} (h : Fx M) : rd M 0 13 = 113 := h.2.2.2 (0, 13, 113) (List.mem_of_getElem? (i := 9) rfl)
theorem fx_2_0 {M : Mem} (h : Fx M) : rd M 2 0 = 3 := h.2.2.2 (2, 0, 3) (List.mem_of_getElem? (i := 10) rfl)
theorem fx_2_1 {M : Mem} (h : Fx M) : rd M 2 1 = 4 := h.2.2.2 (2, 1, 4) (List.mem_of_getElem? (i := 11) rfl)
theorem fx_2_2 {M : Mem} (h : Fx M) : rd M 2 2 = 5 := h.2.2.2 (2, 2, 5) (List.mem_of_getElem? (i := 12) rfl)
theorem fx_7_4 {M : Mem} (h : Fx M) : rd M 7 4 = 8 := h.2.2.2 (7, 4, 8) (List.mem_of_getElem? (i := 13) rfl)
theorem fx_7_5 {M : Mem} (h : Fx M) : rd M 7 5 = 9 := h.2.2.2 (7, 5, 9) (List.mem_of_getElem? (i := 14) rfl)
theorem fx_7_6 {M : Mem} (h : Fx M) : rd M 7 6 = 10 := h.2.2.2 (7, 6, 10) (List.mem_of_getElem? (i := 15) rfl)
theorem fx_7_7 {M : Mem} (h : Fx M) : rd M 7 7 = 11 := h.2.2.2 (7, 7, 11) (List.mem_of_getElem? (i := 16) rfl)
theorem fx_7_8 {M : Mem} (h : Fx M) : rd M 7 8 = 12 := h.2.2.2 (7, 8, 12) (List.mem_of_getElem? (i := 17) rfl)
theorem fx_7_9 {M : Mem} (h : Fx M) : rd M 7 9 = 13 := h.2.2.2 (7, 9, 13) (List.mem_of_getElem? (i := 18) rfl)
theorem fx_7_10 {M : Mem} (h : Fx M) : rd M 7 10 = 14 := h.2.2.2 (7, 10, 14) (List.mem_of_getElem? (i := 19) rfl)
theorem fx_7_11 {M : Mem} (h : Fx M) : rd M 7 11 = 15 := h.2.2.2 (7, 11, 15) (List.mem_of_getElem? (i := 20) rfl)
theorem fx_15_1 {M : Mem} (h : Fx M) : rd M 15 1 = 16 := h.2.2.2 (15, 1, 16) (List.mem_of_getElem? (i := 21) rfl)
theorem fx_15_2 {M : Mem} (h : Fx M) : rd M 15 2 = 17 := h.2.2.2 (15, 2, 17) (List.mem_of_getElem? (i := 22) rfl)
theorem fx_15_3 {M : Mem} (h : Fx M) : rd M 15 3 = 18 := h.2.2.2 (15, 3, 18) (List.mem_of_getElem? (i := 23) rfl)
theorem fx_15_4 {M : Mem} (h : Fx M) : rd M 15 4 = 19 := h.2.2.2 (15, 4, 19) (List.mem_of_getElem? (i := 24) rfl)
theorem fx_15_5 {M : Mem} (h : Fx M) : rd M 15 5 = 20 := h.2.2.2 (15, 5, 20) (List.mem_of_getElem? (i := 25) rfl)
theorem fx_15_6 {M : Mem} (h : Fx M) : rd M 15 6 = 21 := h.2.2.2 (15, 6, 21) (List.mem_of_getElem? (i := 26) rfl)
theorem fx_15_7 {M : Mem} (h : Fx M) : rd M 15 7 = 22 := h.2.2.2 (15, 7, 22) (List.mem_of_getElem? (i := 27) rfl)
theorem fx_15_8 {M : Mem} (h : Fx M) : rd M 15 8 = 23 := h.2.2.2 (15, 8, 23) (List.mem_of_getElem? (i := 28) rfl)
theorem fx_15_9 {M : Mem} (h : Fx M) : rd M 15 9 = 24 := h.2.2.2 (15, 9, 24) (List.mem_of_getElem? (i := 29) rfl)
theorem fx_15_10 {M : Mem} (h : Fx M) : rd M 15 10 = 25 := h.2.2.2 (15, 10, 25) (List.mem_of_getElem? (i := 30) rfl)
theorem fx_15_12 {M : Mem} (h : Fx M) : rd M 15 12 = 26 := h.2.2.2 (15, 12, 26) (List.mem_of_getElem? (i := 31) rfl)
theorem fx_27_4 {M : Mem} (h : Fx M) : rd M 27 4 = 28 := h.2.2.2 (27, 4, 28) (List.mem_of_getElem? (i := 32) rfl)
theorem fx_27_5 {M : Mem} (h : Fx M) : rd M 27 5 = 29 := h.2.2.2 (27, 5, 29) (List.mem_of_getElem? (i := 33) rfl)
theorem fx_27_6 {M : Mem} (h : Fx M) : rd M 27 6 = 30 := h.2.2.2 (27, 6, 30) (List.mem_of_getElem? (i := 34) rfl)
theorem fx_27_7 {M : Mem} (h : Fx M) : rd M 27 7 = 31 := h.2.2.2 (27, 7, 31) (List.mem_of_getElem? (i := 35) rfl)
theorem fx_27_8 {M : Mem} (h : Fx M) : rd M 27 8 = 32 := h.2.2.2 (27, 8, 32) (List.mem_of_getElem? (i := 36) rfl)
theorem fx_27_9 {M : Mem} (h : Fx M) : rd M 27 9 = 33 := h.2.2.2 (27, 9, 33) (List.mem_of_getElem? (i := 37) rfl)
theorem fx_27_10 {M : Mem} (h : Fx M) : rd M 27 10 = 34 := h.2.2.2 (27, 10, 34) (List.mem_of_getElem? (i := 38) rfl)
theorem fx_27_11 {M : Mem} (h : Fx M) : rd M 27 11 = 35 := h.2.2.2 (27, 11, 35) (List.mem_of_getElem? (i := 39) rfl)
theorem fx_35_1 {M : Mem} (h : Fx M) : rd M 35 1 = 36 := h.2.2.2 (35, 1, 36) (List.mem_of_getElem? (i := 40) rfl)
theorem fx_35_2 {M : Mem} (h : Fx M) : rd M 35 2 = 37 := h.2.2.2 (35, 2, 37) (List.mem_of_getElem? (i := 41) rfl)
theorem fx_35_3 {M : Mem} (h : Fx M) : rd M 35 3 = 38 := h.2.2.2 (35, 3, 38) (List.mem_of_getElem? (i := 42) rfl)
theorem fx_35_4 {M : Mem} (h : Fx M) : rd M 35 4 = 39 := h.2.2.2 (35, 4, 39) (List.mem_of_getElem? (i := 43) rfl)
theorem fx_35_5 {M : Mem} (h : Fx M) : rd M 35 5 = 40 := h.2.2.2 (35, 5, 40) (List.mem_of_getElem? (i := 44) rfl)
theorem fx_35_6 {M : Mem} (h : Fx M) : rd M 35 6 = 41 := h.2.2.2 (35, 6, 41) (List.mem_of_getElem? (i := 45) rfl)
theorem fx_35_7 {M : Mem} (h : Fx M) : rd M 35 7 = 42 := h.2.2.2 (35, 7, 42) (List.mem_of_getElem? (i := 46) rfl)
theorem fx_35_8 {M : Mem} (h : Fx M) : rd M 35 8 = 43 := h.2.2.2 (35, 8, 43) (List.mem_of_getElem? (i := 47) rfl)
theorem fx_35_9 {M : Mem} (h : Fx M) : rd M 35 9 = 44 := h.2.2.2 (35, 9, 44) (List.mem_of_getElem? (i := 48) rfl)
theorem fx_35_10 {M : Mem} (h : Fx M) : rd M 35 10 = 45 := h.2.2.2 (35, 10, 45) (List.mem_of_getElem? (i := 49) rfl)
theorem fx_35_12 {M : Mem} (h : Fx M) : rd M 35 12 = 46 := h.2.2.2 (35, 12, 46) (List.mem_of_getElem? (i := 50) rfl)
theorem fx_48_0 {M : Mem} (h : Fx M) : rd M 48 0 = 56 := h.2.2.2 (48, 0, 56) (List.mem_of_getElem? (i := 51) rfl)
theorem fx_48_2 {M : Mem} (h : Fx M) : rd M 48 2 = 49 := h.2.2.2 (48, 2, 49) (List.mem_of_getElem? (i := 52) rfl)
theorem fx_48_3 {M : Mem} (h : Fx M) : rd M 48 3 = 50 := h.2.2.2 (48, 3, 50) (List.mem_of_getElem? (i := 53) rfl)
theorem fx_48_4 {M : Mem} (h : Fx M) : rd M 48 4 = 51 := h.2.2.2 (48, 4, 51) (List.mem_of_getElem? (i := 54) rfl)
theorem fx_48_5 {M : Mem} (h : Fx M) : rd M 48 5 = 52 := h.2.2.2 (48, 5, 52) (List.mem_of_getElem? (i := 55) rfl)
theorem fx_48_6 {M : Mem} (h : Fx M) : rd M 48 6 = 53 := h.2.2.2 (48, 6, 53) (List.mem_of_getElem? (i := 56) rfl)
theorem fx_48_7 {M : Mem} (h : Fx M) : rd M 48 7 = 54 := h.2.2.2 (48, 7, 54) (List.mem_of_getElem? (i := 57) rfl)
theorem fx_48_8 {M : Mem} (h : Fx M) : rd M 48 8 = 55 := h.2.2.2 (48, 8, 55) (List.mem_of_getElem? (i := 58) rfl)
theorem fx_56_2 {M : Mem} (h : Fx M) : rd M 56 2 = 57 := h.2.2.2 (56, 2, 57) (List.mem_of_getElem? (i := 59) rfl)
theorem fx_56_3 {M : Mem} (h : Fx M) : rd M 56 3 = 58 := h.2.2.2 (56, 3, 58) (List.mem_of_getElem? (i := 60) rfl)
theorem fx_56_4 {M : Mem} (h : Fx M) : rd M 56 4 = 59 := h.2.2.2 (56, 4, 59) (List.mem_of_getElem? (i := 61) rfl)
theorem fx_56_5 {M : Mem} (h : Fx M) : rd M 56 5 = 60 := h.2.2.2 (56, 5, 60) (List.mem_of_getElem? (i := 62) rfl)
theorem fx_56_6 {M : Mem} (h : Fx M) : rd M 56 6 = 61 := h.2.2.2 (56, 6, 61) (List.mem_of_getElem? (i := 63) rfl)
theorem fx_56_7 {M : Mem} (h : Fx M) : rd M 56 7 = 62 := h.2.2.2 (56, 7, 62) (List.mem_of_getElem? (i := 64) rfl)
theorem fx_56_8 {M : Mem} (h : Fx M) : rd M 56 8 = 63 := h.2.2.2 (56, 8, 63) (List.mem_of_getElem? (i := 65) rfl)
theorem fx_63_6 {M : Mem} (h : Fx M) : rd M 63 6 = 69 := h.2.2.2 (63, 6, 69) (List.mem_of_getElem? (i := 66) rfl)
theorem fx_74_0 {M : Mem} (h : Fx M) : rd M 74 0 = 82 := h.2.2.2 (74, 0, 82) (List.mem_of_getElem? (i := 67) rfl)
theorem fx_74_2 {M : Mem} (h : Fx M) : rd M 74 2 = 75 := h.2.2.2 (74, 2, 75) (List.mem_of_getElem? (i := 68) rfl)
theorem fx_74_3 {M : Mem} (h : Fx M) : rd M 74 3 = 76 := h.2.2.2 (74, 3, 76) (List.mem_of_getElem? (i := 69) rfl)
theorem fx_74_4 {M : Mem} (h : Fx M) : rd M 74 4 = 77 := h.2.2.2 (74, 4, 77) (List.mem_of_getElem? (i := 70) rfl)
theorem fx_74_5 {M : Mem} (h : Fx M) : rd M 74 5 = 78 := h.2.2.2 (74, 5, 78) (List.mem_of_getElem? (i := 71) rfl)
theorem fx_74_6 {M : Mem} (h : Fx M) : rd M 74 6 = 79 := h.2.2.2 (74, 6, 79) (List.mem_of_getElem? (i := 72) rfl)
theorem fx_74_7 {M : Mem} (h : Fx M) : rd M 74 7 = 80 := h.2.2.2 (74, 7, 80) (List.mem_of_getElem? (i := 73) rfl)
theorem fx_74_8 {M : Mem} (h : Fx M) : rd M 74 8 = 81 := h.2.2.2 (74, 8, 81) (List.mem_of_getElem? (i := 74) rfl)
theorem fx_82_2 {M : Mem} (h : Fx M) : rd M 82 2 = 83 := h.2.2.2 (82, 2, 83) (List.mem_of_getElem? (i := 75) rfl)
theorem fx_82_3 {M : Mem} (h : Fx M) : rd M 82 3 = 84 := h.2.2.2 (82, 3, 84) (List.mem_of_getElem? (i := 76) rfl)
theorem fx_82_4 {M : Mem} (h : Fx M) : rd M 82 4 = 85 := h.2.2.2 (82, 4, 85) (List.mem_of_getElem? (i := 77) rfl)
theorem fx_82_5 {M : Mem} (h : Fx M) : rd M 82 5 = 86 := h.2.2.2 (82, 5, 86) (List.mem_of_getElem? (i := 78) rfl)
theorem fx_82_6 {M : Mem} (h : Fx M) : rd M 82 6 = 87 := h.2.2.2 (82, 6, 87) (List.mem_of_getElem? (i := 79) rfl)
theorem fx_82_7 {M : Mem} (h : Fx M) : rd M 82 7 = 88 := h.2.2.2 (82, 7, 88) (List.mem_of_getElem? (i := 80) rfl)
theorem fx_82_8 {M : Mem} (h : Fx M) : rd M 82 8 = 89 := h.2.2.2 (82, 8, 89) (List.mem_of_getElem? (i := 81) rfl)
theorem fx_89_6 {M : Mem} (h : Fx M) : rd M 89 6 = 95 := h.2.2.2 (89, 6, 95) (List.mem_of_getElem? (i := 82) rfl)
theorem fx_100_0 {M : Mem} (h : Fx M) : rd M 100 0 = 101 := h.2.2.2 (100, 0, 101) (List.mem_of_getElem? (i := 83) rfl)
theorem fx_100_1 {M : Mem} (h : Fx M) : rd M 100 1 = 102 := h.2.2.2 (100, 1, 102) (List.mem_of_getElem? (i := 84) rfl)
theorem fx_103_4 {M : Mem} (h : Fx M) : rd M 103 4 = 104 := h.2.2.2 (103, 4, 104) (List.mem_of_getElem? (i := 85) rfl)
theorem fx_103_5 {M : Mem} (h : Fx M) : rd M 103 5 = 105 := h.2.2.2 (103, 5, 105) (List.mem_of_getElem? (i := 86) rfl)
theorem fx_103_6 {M : Mem} (h : Fx M) : rd M 103 6 = 106 := h.2.2.2 (103, 6, 106) (List.mem_of_getElem? (i := 87) rfl)
theorem fx_107_2 {M : Mem} (h : Fx M) : rd M 107 2 = 108 := h.2.2.2 (107, 2, 108) (List.mem_of_getElem? (i := 88) rfl)
theorem fx_107_3 {M : Mem} (h : Fx M) : rd M 107 3 = 109 := h.2.2.2 (107, 3, 109) (List.mem_of_getElem? (i := 89) rfl)
theorem fx_107_4 {M : Mem} (h : Fx M) : rd M 107 4 = 110 := h.2.2.2 (107, 4, 110) (List.mem_of_getElem? (i := 90) rfl)
theorem fx_107_5 {M : Mem} (h : Fx M) : rd M 107 5 = 111 := h.2.2.2 (107, 5, 111) (List.mem_of_getElem? (i := 91) rfl)
theorem fx_107_6 {M : Mem} (h : Fx M) : rd M 107 6 = 112 := h.2.2.2 (107, 6, 112) (List.mem_of_getElem? (i := 92) rfl)
theorem fx_113_1 {M : Mem} (h : Fx M) : rd M 113 1 = 114 := h.2.2.2 (113, 1, 114) (List.mem_of_getElem? (i := 93) rfl)
theorem fx_113_2 {M : Mem} (h : Fx M) : rd M 113 2 = 115 := h.2.2.2 (113, 2, 115) (List.mem_of_getElem? (i := 94) rfl)
theorem fx_113_3 {M : Mem} (h : Fx M) : rd M 113 3 = 116 := h.2.2.2 (113, 3, 116) (List.mem_of_getElem? (i := 95) rfl)
theorem fx_113_4 {M : Mem} (h : Fx M) : rd M 113 4 = 117 := h.2.2.2 (113, 4, 117) (List.mem_of_getElem? (i := 96) rfl)
theorem fx_113_5 {M : Mem} (h : Fx M) : rd M 113 5 = 118 := h.2.2.2 (113, 5, 118) (List.mem_of_getElem? (i := 97) rfl)
theorem fx_113_6 {M : Mem} (h : Fx M) : rd M 113 6 = 119 := h.2.2.2 (113, 6, 119) (List.mem_of_getElem? (i := 98) rfl)
theorem fx_120_0 {M : Mem} (h : Fx M) : rd M 120 0 = 121 := h.2.2.2 (120, 0, 121) (List.mem_of_getElem? (i := 99) rfl)
theorem fx_120_13 {M : Mem} (h : Fx M) : rd M 120 13 = 122 := h.2.2.2 (120, 13, 122) (List.mem_of_getElem? (i := 100) rfl)
theorem fx_120_14 {M : Mem} (h : Fx M) : rd M 120 14 = 123 := h.2.2.2 (120, 14, 123) (List.mem_of_getElem? (i := 101) rfl)
theorem fx_120_15 {M : Mem} (h : Fx M) : rd M 120 15 = 124 := h.2.2.2 (120, 15, 124) (List.mem_of_getElem? (i := 102) rfl)
theorem fx_120_16 {M : Mem} (h : Fx M) : rd M 120 16 = 125 := h.2.2.2 (120, 16, 125) (List.mem_of_getElem? (i := 103) rfl)
theorem fx_120_17 {M : Mem} (h : Fx M) : rd M 120 17 = 126 := h.2.2.2 (120, 17, 126) (List.mem_of_getElem? (i := 104) rfl)
theorem fx_120_18 {M : Mem} (h : Fx M) : rd M 120 18 = 127 := h.2.2.2 (120, 18, 127) (List.mem_of_getElem? (i := 105) rfl)
theorem fx_120_19 {M : Mem} (h : Fx M) : rd M 120 19 = 128 := h.2.2.2 (120, 19, 128) (List.mem_of_getElem? (i := 106) rfl)
theorem fx_120_20 {M : Mem} (h : Fx M) : rd M 120 20 = 129 := h.2.2.2 (120, 20, 129) (List.mem_of_getElem? (i := 107) rfl)
theorem fx_120_21 {M : Mem} (h : Fx M) : rd M 120 21 = 130 := h.2.2.2 (120, 21, 130) (List.mem_of_getElem? (i := 108) rfl)
theorem fx_120_22 {M : Mem} (h : Fx M) : rd M 120 22 = 131 := h.2.2.2 (120, 22, 131) (List.mem_of_getElem? (i := 109) rfl)
theorem fx_120_23 {M : Mem} (h : Fx M) : rd M 120 23 = 132 := h.2.2.2 (120, 23, 132) (List.mem_of_getElem? (i := 110) rfl)
theorem fx_120_24 {M : Mem} (h : Fx M) : rd M 120 24 = 133 := h.2.2.2 (120, 24, 133) (List.mem_of_getElem? (i := 111) rfl)
theorem fx_120_25 {M : Mem} (h : Fx M) : rd M 120 25 = 134 := h.2.2.2 (120, 25, 134) (List.mem_of_getElem? (i := 112) rfl)
theorem fx_120_26 {M : Mem} (h : Fx M) : rd M 120 26 = 135 := h.2.2.2 (120, 26, 135) (List.mem_of_getElem? (i := 113) rfl)
theorem fx_120_27 {M : Mem} (h : Fx M) : rd M 120 27 = 136 := h.2.2.2 (120, 27, 136) (List.mem_of_getElem? (i := 114) rfl)
theorem fx_120_28 {M : Mem} (h : Fx M) : rd M 120 28 = 137 := h.2.2.2 (120, 28, 137) (List.mem_of_getElem? (i := 115) rfl)
theorem fx_120_29 {M : Mem} (h : Fx M) : rd M 120 29 = 138 := h.2.2.2 (120, 29, 138) (List.mem_of_getElem? (i := 116) rfl)
theorem fx_120_30 {M : Mem} (h : Fx M) : rd M 120 30 = 139 := h.2.2.2 (120, 30, 139) (List.mem_of_getElem? (i := 117) rfl)
theorem fx_120_31 {M : Mem} (h : Fx M) : rd M 120 31 = 140 := h.2.2.2 (120, 31, 140) (List.mem_of_getElem? (i := 118) rfl)
theorem fx_120_32 {M : Mem} (h : Fx M) : rd M 120 32 = 141 := h.2.2.2 (120, 32, 141) (List.mem_of_getElem? (i := 119) rfl)
theorem fx_120_33 {M : Mem} (h : Fx M) : rd M 120 33 = 142 := h.2.2.2 (120, 33, 142) (List.mem_of_getElem? (i := 120) rfl)
theorem fx_120_34 {M : Mem} (h : Fx M) : rd M 120 34 = 143 := h.2.2.2 (120, 34, 143) (List.mem_of_getElem? (i := 121) rfl)
theorem fx_120_35 {M : Mem} (h : Fx M) : rd M 120 35 = 144 := h.2.2.2 (120, 35, 144) (List.mem_of_getElem? (i := 122) rfl)
theorem fx_120_38 {M : Mem} (h : Fx M) : rd M 120 38 = 145 := h.2.2.2 (120, 38, 145) (List.mem_of_getElem? (i := 123) rfl)
theorem fx_120_39 {M : Mem} (h : Fx M) : rd M 120 39 = 146 := h.2.2.2 (120, 39, 146) (List.mem_of_getElem? (i := 124) rfl)
theorem fx_120_40 {M : Mem} (h : Fx M) : rd M 120 40 = 147 := h.2.2.2 (120, 40, 147) (List.mem_of_getElem? (i := 125) rfl)
theorem fx_120_41 {M : Mem} (h : Fx M) : rd M 120 41 = 148 := h.2.2.2 (120, 41, 148) (List.mem_of_getElem? (i := 126) rfl)
theorem fx_120_42 {M : Mem} (h : Fx M) : rd M 120 42 = 149 := h.2.2.2 (120, 42, 149) (List.mem_of_getElem? (i := 127) rfl)
theorem fx_120_45 {M : Mem} (h : Fx M) : rd M 120 45 = 150 := h.2.2.2 (120, 45, 150) (List.mem_of_getElem? (i := 128) rfl)
theorem fx_120_48 {M : Mem} (h : Fx M) : rd M 120 48 = 151 := h.2.2.2 (120, 48, 151) (List.mem_of_getElem? (i := 129) rfl)
theorem fx_120_49 {M : Mem} (h : Fx M) : rd M 120 49 = 152 := h.2.2.2 (120, 49, 152) (List.mem_of_getElem? (i := 130) rfl)
theorem fx_120_51 {M : Mem} (h : Fx M) : rd M 120 51 = 153 := h.2.2.2 (120, 51, 153) (List.mem_of_getElem? (i := 131) rfl)
theorem fx_120_52 {M : Mem} (h : Fx M) : rd M 120 52 = 154 := h.2.2.2 (120, 52, 154) (List.mem_of_getElem? (i := 132) rfl)
theorem fx_120_53 {M : Mem} (h : Fx M) : rd M 120 53 = 155 := h.2.2.2 (120, 53, 155) (List.mem_of_getElem? (i := 133) rfl)
theorem fx_120_54 {M : Mem} (h : Fx M) : rd M 120 54 = 156 := h.2.2.2 (120, 54, 156) (List.mem_of_getElem? (i := 134) rfl)
theorem fx_120_55 {M : Mem} (h : Fx M) : rd M 120 55 = 157 := h.2.2.2 (120, 55, 157) (List.mem_of_getElem? (i := 135) rfl)
theorem fx_120_56 {M : Mem} (h : Fx M) : rd M 120 56 = 158 := h.2.2.2 (120, 56, 158) (List.mem_of_getElem? (i := 136) rfl)
theorem fx_120_57 {M : Mem} (h : Fx M) : rd M 120 57 = 159 := h.2.2.2 (120, 57, 159) (List.mem_of_getElem? (i := 137) rfl)
theorem fx_120_58 {M : Mem} (h : Fx M) : rd M 120 58 = 160 := h.2.2.2 (120, 58, 160) (List.mem_of_getElem? (i := 138) rfl)
theorem fx_120_69 {M : Mem} (h : Fx M) : rd M 120 69 = 161 := h.2.2.2 (120, 69, 161) (List.mem_of_getElem? (i := 139) rfl)
theorem fx_120_71 {M : Mem} (h : Fx M) : rd M 120 71 = 162 := h.2.2.2 (120, 71, 162) (List.mem_of_getElem? (i := 140) rfl)
theorem fx_120_72 {M : Mem} (h : Fx M) : rd M 120 72 = 163 := h.2.2.2 (120, 72, 163) (List.mem_of_getElem? (i := 141) rfl)
theorem fx_120_73 {M : Mem} (h : Fx M) : rd M 120 73 = 164 := h.2.2.2 (120, 73, 164) (List.mem_of_getElem? (i := 142) rfl)
theorem fx_120_74 {M : Mem} (h : Fx M) : rd M 120 74 = 165 := h.2.2.2 (120, 74, 165) (List.mem_of_getElem? (i := 143) rfl)
theorem fx_120_76 {M : Mem} (h : Fx M) : rd M 120 76 = 166 := h.2.2.2 (120, 76, 166) (List.mem_of_getElem? (i := 144) rfl)
theorem fx_120_77 {M : Mem} (h : Fx M) : rd M 120 77 = 167 := h.2.2.2 (120, 77, 167) (List.mem_of_getElem? (i := 145) rfl)
theorem fx_120_78 {M : Mem} (h : Fx M) : rd M 120 78 = 168 := h.2.2.2 (120, 78, 168) (List.mem_of_getElem? (i := 146) rfl)
theorem fx_120_80 {M : Mem} (h : Fx M) : rd M 120 80 = 169 := h.2.2.2 (120, 80, 169) (List.mem_of_getElem? (i := 147) rfl)
theorem fx_120_81 {M : Mem} (h : Fx M) : rd M 120 81 = 170 := h.2.2.2 (120, 81, 170) (List.mem_of_getElem? (i := 148) rfl)
theorem fx_120_82 {M : Mem} (h : Fx M) : rd M 120 82 = 171 := h.2.2.2 (120, 82, 171) (List.mem_of_getElem? (i := 149) rfl)
theorem fx_120_83 {M : Mem} (h : Fx M) : rd M 120 83 = 172 := h.2.2.2 (120, 83, 172) (List.mem_of_getElem? (i := 150) rfl)
theorem fx_120_92 {M : Mem} (h : Fx M) : rd M 120 92 = 173 := h.2.2.2 (120, 92, 173) (List.mem_of_getElem? (i := 151) rfl)
theorem fx_120_93 {M : Mem} (h : Fx M) : rd M 120 93 = 174 := h.2.2.2 (120, 93, 174) (List.mem_of_getElem? (i := 152) rfl)
theorem fx_120_94 {M : Mem} (h : Fx M) : rd M 120 94 = 175 := h.2.2.2 (120, 94, 175) (List.mem_of_getElem? (i := 153) rfl)
theorem fx_120_100 {M : Mem} (h : Fx M) : rd M 120 100 = 176 := h.2.2.2 (120, 100, 176) (List.mem_of_getElem? (i := 154) rfl)
theorem fx_120_102 {M : Mem} (h : Fx M) : rd M 120 102 = 177 := h.2.2.2 (120, 102, 177) (List.mem_of_getElem? (i := 155) rfl)
theorem fx_120_103 {M : Mem} (h : Fx M) : rd M 120 103 = 178 := h.2.2.2 (120, 103, 178) (List.mem_of_getElem? (i := 156) rfl)
theorem fx_120_105 {M : Mem} (h : Fx M) : rd M 120 105 = 179 := h.2.2.2 (120, 105, 179) (List.mem_of_getElem? (i := 157) rfl)
theorem fx_120_107 {M : Mem} (h : Fx M) : rd M 120 107 = 180 := h.2.2.2 (120, 107, 180) (List.mem_of_getElem? (i := 158) rfl)
theorem fx_120_108 {M : Mem} (h : Fx M) : rd M 120 108 = 181 := h.2.2.2 (120, 108, 181) (List.mem_of_getElem? (i := 159) rfl)
theorem fx_120_110 {M : Mem} (h : Fx M) : rd M 120 110 = 182 := h.2.2.2 (120, 110, 182) (List.mem_of_getElem? (i := 160) rfl)
theorem fx_120_111 {M : Mem} (h : Fx M) : rd M 120 111 = 183 := h.2.2.2 (120, 111, 183) (List.mem_of_getElem? (i := 161) rfl)
theorem fx_120_112 {M : Mem} (h : Fx M) : rd M 120 112 = 184 := h.2.2.2 (120, 112, 184) (List.mem_of_getElem? (i := 162) rfl)
theorem fx_120_114 {M : Mem} (h : Fx M) : rd M 120 114 = 185 := h.2.2.2 (120, 114, 185) (List.mem_of_getElem? (i := 163) rfl)
theorem fx_120_115 {M : Mem} (h : Fx M) : rd M 120 115 = 186 := h.2.2.2 (120, 115, 186) (List.mem_of_getElem? (i := 164) rfl)
theorem fx_120_116 {M : Mem} (h : Fx M) : rd M 120 116 = 187 := h.2.2.2 (120, 116, 187) (List.mem_of_getElem? (i := 165) rfl)
theorem fx_120_118 {M : Mem} (h : Fx M) : rd M 120 118 = 188 := h.2.2.2 (120, 118, 188) (List.mem_of_getElem? (i := 166) rfl)
theorem fx_120_119 {M : Mem} (h : Fx M) : rd M 120 119 = 189 := h.2.2.2 (120, 119, 189) (List.mem_of_getElem? (i := 167) rfl)
theorem fx_120_120 {M : Mem} (h : Fx M) : rd M 120 120 = 190 := h.2.2.2 (120, 120, 190) (List.mem_of_getElem? (i := 168) rfl)
theorem ty_0 {M : Mem} (h : Fx M) : mT M 0 = (11, 14) := by rw [h.1]; decide +kernel
theorem ty_1 {M : Mem} (h : Fx M) : mT M 1 = (22, 900) := by rw [h.1]; decide +kernel
theorem ty_2 {M : Mem} (h : Fx M) : mT M 2 = (7, 6) := by rw [h.1]; decide +kernel
theorem ty_3 {M : Mem} (h : Fx M) : mT M 3 = (20, 901) := by rw [h.1]; decide +kernel
theorem ty_4 {M : Mem} (h : Fx M) : mT M 4 = (20, 901) := by rw [h.1]; decide +kernel
theorem ty_5 {M : Mem} (h : Fx M) : mT M 5 = (20, 901) := by rw [h.1]; decide +kernel
theorem ty_6 {M : Mem} (h : Fx M) : mT M 6 = (5, 7) := by rw [h.1]; decide +kernel
theorem ty_7 {M : Mem} (h : Fx M) : mT M 7 = (3, 12) := by rw [h.1]; decide +kernel
theorem ty_8 {M : Mem} (h : Fx M) : mT M 8 = (20, 3) := by rw [h.1]; decide +kernel
theorem ty_9 {M : Mem} (h : Fx M) : mT M 9 = (20, 24) := by rw [h.1]; decide +kernel
theorem ty_10 {M : Mem} (h : Fx M) : mT M 10 = (20, 6) := by rw [h.1]; decide +kernel
theorem ty_11 {M : Mem} (h : Fx M) : mT M 11 = (20, 6) := by rw [h.1]; decide +kernel
theorem ty_12 {M : Mem} (h : Fx M) : mT M 12 = (20, 3) := by rw [h.1]; decide +kernel
theorem ty_13 {M : Mem} (h : Fx M) : mT M 13 = (20, 3) := by rw [h.1]; decide +kernel
theorem ty_14 {M : Mem} (h : Fx M) : mT M 14 = (20, 15) := by rw [h.1]; decide +kernel
theorem ty_15 {M : Mem} (h : Fx M) : mT M 15 = (4, 13) := by rw [h.1]; decide +kernel
theorem ty_16 {M : Mem} (h : Fx M) : mT M 16 = (20, 60) := by rw [h.1]; decide +kernel
theorem ty_17 {M : Mem} (h : Fx M) : mT M 17 = (20, 60) := by rw [h.1]; decide +kernel
theorem ty_18 {M : Mem} (h : Fx M) : mT M 18 = (20, 61) := by rw [h.1]; decide +kernel
theorem ty_19 {M : Mem} (h : Fx M) : mT M 19 = (20, 60) := by rw [h.1]; decide +kernel
theorem ty_20 {M : Mem} (h : Fx M) : mT M 20 = (20, 60) := by rw [h.1]; decide +kernel
theorem ty_21 {M : Mem} (h : Fx M) : mT M 21 = (20, 60) := by rw [h.1]; decide +kernel
theorem ty_22 {M : Mem} (h : Fx M) : mT M 22 = (20, 60) := by rw [h.1]; decide +kernel
theorem ty_23 {M : Mem} (h : Fx M) : mT M 23 = (20, 60) := by rw [h.1]; decide +kernel
theorem ty_24 {M : Mem} (h : Fx M) : mT M 24 = (20, 900) := by rw [h.1]; decide +kernel
theorem ty_25 {M : Mem} (h : Fx M) : mT M 25 = (20, 900) := by rw [h.1]; decide +kernel
theorem ty_26 {M : Mem} (h : Fx M) : mT M 26 = (20, 61) := by rw [h.1]; decide +kernel
theorem ty_27 {M : Mem} (h : Fx M) : mT M 27 = (3, 12) := by rw [h.1]; decide +kernel
theorem ty_28 {M : Mem} (h : Fx M) : mT M 28 = (20, 3) := by rw [h.1]; decide +kernel
theorem ty_29 {M : Mem} (h : Fx M) : mT M 29 = (20, 24) := by rw [h.1]; decide +kernel
theorem ty_30 {M : Mem} (h : Fx M) : mT M 30 = (20, 6) := by rw [h.1]; decide +kernel
theorem ty_31 {M : Mem} (h : Fx M) : mT M 31 = (20, 6) := by rw [h.1]; decide +kernel
theorem ty_32 {M : Mem} (h : Fx M) : mT M 32 = (20, 3) := by rw [h.1]; decide +kernel
theorem ty_33 {M : Mem} (h : Fx M) : mT M 33 = (20, 3) := by rw [h.1]; decide +kernel
theorem ty_34 {M : Mem} (h : Fx M) : mT M 34 = (20, 15) := by rw [h.1]; decide +kernel
theorem ty_35 {M : Mem} (h : Fx M) : mT M 35 = (4, 13) := by rw [h.1]; decide +kernel
theorem ty_36 {M : Mem} (h : Fx M) : mT M 36 = (20, 60) := by rw [h.1]; decide +kernel
theorem ty_37 {M : Mem} (h : Fx M) : mT M 37 = (20, 60) := by rw [h.1]; decide +kernel
theorem ty_38 {M : Mem} (h : Fx M) : mT M 38 = (20, 61) := by rw [h.1]; decide +kernel
theorem ty_39 {M : Mem} (h : Fx M) : mT M 39 = (20, 60) := by rw [h.1]; decide +kernel
theorem ty_40 {M : Mem} (h : Fx M) : mT M 40 = (20, 60) := by rw [h.1]; decide +kernel
theorem ty_41 {M : Mem} (h : Fx M) : mT M 41 = (20, 60) := by rw [h.1]; decide +kernel
theorem ty_42 {M : Mem} (h : Fx M) : mT M 42 = (20, 60) := by rw [h.1]; decide +kernel
theorem ty_43 {M : Mem} (h : Fx M) : mT M 43 = (20, 60) := by rw [h.1]; decide +kernel
theorem ty_44 {M : Mem} (h : Fx M) : mT M 44 = (20, 900) := by rw [h.1]; decide +kernel
theorem ty_45 {M : Mem} (h : Fx M) : mT M 45 = (20, 900) := by rw [h.1]; decide +kernel
theorem ty_46 {M : Mem} (h : Fx M) : mT M 46 = (20, 61) := by rw [h.1]; decide +kernel
theorem ty_47 {M : Mem} (h : Fx M) : mT M 47 = (20, 3) := by rw [h.1]; decide +kernel
theorem ty_48 {M : Mem} (h : Fx M) : mT M 48 = (6, 18) := by rw [h.1]; decide +kernel
theorem ty_49 {M : Mem} (h : Fx M) : mT M 49 = (20, 3) := by rw [h.1]; decide +kernel
theorem ty_50 {M : Mem} (h : Fx M) : mT M 50 = (20, 6) := by rw [h.1]; decide +kernel
theorem ty_51 {M : Mem} (h : Fx M) : mT M 51 = (20, 64) := by rw [h.1]; decide +kernel
theorem ty_52 {M : Mem} (h : Fx M) : mT M 52 = (20, 8) := by rw [h.1]; decide +kernel
theorem ty_53 {M : Mem} (h : Fx M) : mT M 53 = (20, 6) := by rw [h.1]; decide +kernel
theorem ty_54 {M : Mem} (h : Fx M) : mT M 54 = (20, 6) := by rw [h.1]; decide +kernel
theorem ty_55 {M : Mem} (h : Fx M) : mT M 55 = (20, 6) := by rw [h.1]; decide +kernel
theorem ty_56 {M : Mem} (h : Fx M) : mT M 56 = (1, 9) := by rw [h.1]; decide +kernel
theorem ty_57 {M : Mem} (h : Fx M) : mT M 57 = (20, 24) := by rw [h.1]; decide +kernel
theorem ty_58 {M : Mem} (h : Fx M) : mT M 58 = (20, 6) := by rw [h.1]; decide +kernel
theorem ty_59 {M : Mem} (h : Fx M) : mT M 59 = (20, 6) := by rw [h.1]; decide +kernel
theorem ty_60 {M : Mem} (h : Fx M) : mT M 60 = (20, 60) := by rw [h.1]; decide +kernel
theorem ty_61 {M : Mem} (h : Fx M) : mT M 61 = (20, 60) := by rw [h.1]; decide +kernel
theorem ty_62 {M : Mem} (h : Fx M) : mT M 62 = (20, 60) := by rw [h.1]; decide +kernel
theorem ty_63 {M : Mem} (h : Fx M) : mT M 63 = (8, 12) := by rw [h.1]; decide +kernel
theorem ty_64 {M : Mem} (h : Fx M) : mT M 64 = (20, 0) := by rw [h.1]; decide +kernel
theorem ty_65 {M : Mem} (h : Fx M) : mT M 65 = (20, 0) := by rw [h.1]; decide +kernel
theorem ty_66 {M : Mem} (h : Fx M) : mT M 66 = (20, 0) := by rw [h.1]; decide +kernel
theorem ty_67 {M : Mem} (h : Fx M) : mT M 67 = (20, 0) := by rw [h.1]; decide +kernel
theorem ty_68 {M : Mem} (h : Fx M) : mT M 68 = (21, 0) := by rw [h.1]; decide +kernel
theorem ty_69 {M : Mem} (h : Fx M) : mT M 69 = (20, 6) := by rw [h.1]; decide +kernel
theorem ty_70 {M : Mem} (h : Fx M) : mT M 70 = (20, 0) := by rw [h.1]; decide +kernel
theorem ty_71 {M : Mem} (h : Fx M) : mT M 71 = (20, 0) := by rw [h.1]; decide +kernel
theorem ty_72 {M : Mem} (h : Fx M) : mT M 72 = (20, 0) := by rw [h.1]; decide +kernel
theorem ty_73 {M : Mem} (h : Fx M) : mT M 73 = (20, 0) := by rw [h.1]; decide +kernel
theorem ty_74 {M : Mem} (h : Fx M) : mT M 74 = (6, 18) := by rw [h.1]; decide +kernel
theorem ty_75 {M : Mem} (h : Fx M) : mT M 75 = (20, 3) := by rw [h.1]; decide +kernel
theorem ty_76 {M : Mem} (h : Fx M) : mT M 76 = (20, 6) := by rw [h.1]; decide +kernel
theorem ty_77 {M : Mem} (h : Fx M) : mT M 77 = (20, 64) := by rw [h.1]; decide +kernel
theorem ty_78 {M : Mem} (h : Fx M) : mT M 78 = (20, 8) := by rw [h.1]; decide +kernel
theorem ty_79 {M : Mem} (h : Fx M) : mT M 79 = (20, 6) := by rw [h.1]; decide +kernel
theorem ty_80 {M : Mem} (h : Fx M) : mT M 80 = (20, 6) := by rw [h.1]; decide +kernel
theorem ty_81 {M : Mem} (h : Fx M) : mT M 81 = (20, 6) := by rw [h.1]; decide +kernel
theorem ty_82 {M : Mem} (h : Fx M) : mT M 82 = (1, 9) := by rw [h.1]; decide +kernel
theorem ty_83 {M : Mem} (h : Fx M) : mT M 83 = (20, 24) := by rw [h.1]; decide +kernel
theorem ty_84 {M : Mem} (h : Fx M) : mT M 84 = (20, 6) := by rw [h.1]; decide +kernel
theorem ty_85 {M : Mem} (h : Fx M) : mT M 85 = (20, 6) := by rw [h.1]; decide +kernel
theorem ty_86 {M : Mem} (h : Fx M) : mT M 86 = (20, 60) := by rw [h.1]; decide +kernel
theorem ty_87 {M : Mem} (h : Fx M) : mT M 87 = (20, 60) := by rw [h.1]; decide +kernel
theorem ty_88 {M : Mem} (h : Fx M) : mT M 88 = (20, 60) := by rw [h.1]; decide +kernel
theorem ty_89 {M : Mem} (h : Fx M) : mT M 89 = (8, 12) := by rw [h.1]; decide +kernel
theorem ty_90 {M : Mem} (h : Fx M) : mT M 90 = (20, 0) := by rw [h.1]; decide +kernel
theorem ty_91 {M : Mem} (h : Fx M) : mT M 91 = (20, 0) := by rw [h.1]; decide +kernel
theorem ty_92 {M : Mem} (h : Fx M) : mT M 92 = (20, 0) := by rw [h.1]; decide +kernel
theorem ty_93 {M : Mem} (h : Fx M) : mT M 93 = (20, 0) := by rw [h.1]; decide +kernel
theorem ty_94 {M : Mem} (h : Fx M) : mT M 94 = (21, 0) := by rw [h.1]; decide +kernel
theorem ty_95 {M : Mem} (h : Fx M) : mT M 95 = (20, 6) := by rw [h.1]; decide +kernel
theorem ty_96 {M : Mem} (h : Fx M) : mT M 96 = (20, 0) := by rw [h.1]; decide +kernel
theorem ty_97 {M : Mem} (h : Fx M) : mT M 97 = (20, 0) := by rw [h.1]; decide +kernel
theorem ty_98 {M : Mem} (h : Fx M) : mT M 98 = (20, 0) := by rw [h.1]; decide +kernel
theorem ty_99 {M : Mem} (h : Fx M) : mT M 99 = (20, 0) := by rw [h.1]; decide +kernel
theorem ty_100 {M : Mem} (h : Fx M) : mT M 100 = (9, 4) := by rw [h.1]; decide +kernel
theorem ty_101 {M : Mem} (h : Fx M) : mT M 101 = (21, 256) := by rw [h.1]; decide +kernel
theorem ty_102 {M : Mem} (h : Fx M) : mT M 102 = (20, 256) := by rw [h.1]; decide +kernel
theorem ty_103 {M : Mem} (h : Fx M) : mT M 103 = (10, 7) := by rw [h.1]; decide +kernel
theorem ty_104 {M : Mem} (h : Fx M) : mT M 104 = (20, 3) := by rw [h.1]; decide +kernel
theorem ty_105 {M : Mem} (h : Fx M) : mT M 105 = (20, 3) := by rw [h.1]; decide +kernel
theorem ty_106 {M : Mem} (h : Fx M) : mT M 106 = (20, 3) := by rw [h.1]; decide +kernel
theorem ty_107 {M : Mem} (h : Fx M) : mT M 107 = (2, 7) := by rw [h.1]; decide +kernel
theorem ty_108 {M : Mem} (h : Fx M) : mT M 108 = (20, 4) := by rw [h.1]; decide +kernel
theorem ty_109 {M : Mem} (h : Fx M) : mT M 109 = (20, 12) := by rw [h.1]; decide +kernel
theorem ty_110 {M : Mem} (h : Fx M) : mT M 110 = (20, 12) := by rw [h.1]; decide +kernel
theorem ty_111 {M : Mem} (h : Fx M) : mT M 111 = (20, 288) := by rw [h.1]; decide +kernel
theorem ty_112 {M : Mem} (h : Fx M) : mT M 112 = (20, 12) := by rw [h.1]; decide +kernel
theorem ty_113 {M : Mem} (h : Fx M) : mT M 113 = (0, 8) := by rw [h.1]; decide +kernel
theorem ty_114 {M : Mem} (h : Fx M) : mT M 114 = (20, 6) := by rw [h.1]; decide +kernel
theorem ty_115 {M : Mem} (h : Fx M) : mT M 115 = (20, 6) := by rw [h.1]; decide +kernel
theorem ty_116 {M : Mem} (h : Fx M) : mT M 116 = (20, 6) := by rw [h.1]; decide +kernel
theorem ty_117 {M : Mem} (h : Fx M) : mT M 117 = (20, 6) := by rw [h.1]; decide +kernel
theorem ty_118 {M : Mem} (h : Fx M) : mT M 118 = (20, 6) := by rw [h.1]; decide +kernel
theorem ty_119 {M : Mem} (h : Fx M) : mT M 119 = (20, 6) := by rw [h.1]; decide +kernel
theorem ty_120 {M : Mem} (h : Fx M) : mT M 120 = (12, 121) := by rw [h.1]; decide +kernel
theorem ty_121 {M : Mem} (h : Fx M) : mT M 121 = (20, 900) := by rw [h.1]; decide +kernel
theorem ty_122 {M : Mem} (h : Fx M) : mT M 122 = (20, 2) := by rw [h.1]; decide +kernel
theorem ty_123 {M : Mem} (h : Fx M) : mT M 123 = (20, 2) := by rw [h.1]; decide +kernel
theorem ty_124 {M : Mem} (h : Fx M) : mT M 124 = (20, 2) := by rw [h.1]; decide +kernel
theorem ty_125 {M : Mem} (h : Fx M) : mT M 125 = (20, 2) := by rw [h.1]; decide +kernel
theorem ty_126 {M : Mem} (h : Fx M) : mT M 126 = (20, 2) := by rw [h.1]; decide +kernel
theorem ty_127 {M : Mem} (h : Fx M) : mT M 127 = (20, 2) := by rw [h.1]; decide +kernel
theorem ty_128 {M : Mem} (h : Fx M) : mT M 128 = (20, 2) := by rw [h.1]; decide +kernel
theorem ty_129 {M : Mem} (h : Fx M) : mT M 129 = (20, 2) := by rw [h.1]; decide +kernel
theorem ty_130 {M : Mem} (h : Fx M) : mT M 130 = (21, 12) := by rw [h.1]; decide +kernel
theorem ty_131 {M : Mem} (h : Fx M) : mT M 131 = (20, 72) := by rw [h.1]; decide +kernel
theorem ty_132 {M : Mem} (h : Fx M) : mT M 132 = (21, 6) := by rw [h.1]; decide +kernel
theorem ty_133 {M : Mem} (h : Fx M) : mT M 133 = (20, 6) := by rw [h.1]; decide +kernel
theorem ty_134 {M : Mem} (h : Fx M) : mT M 134 = (20, 6) := by rw [h.1]; decide +kernel
theorem ty_135 {M : Mem} (h : Fx M) : mT M 135 = (21, 12) := by rw [h.1]; decide +kernel
theorem ty_136 {M : Mem} (h : Fx M) : mT M 136 = (20, 2) := by rw [h.1]; decide +kernel
theorem ty_137 {M : Mem} (h : Fx M) : mT M 137 = (20, 400) := by rw [h.1]; decide +kernel
theorem ty_138 {M : Mem} (h : Fx M) : mT M 138 = (20, 400) := by rw [h.1]; decide +kernel
theorem ty_139 {M : Mem} (h : Fx M) : mT M 139 = (20, 400) := by rw [h.1]; decide +kernel
theorem ty_140 {M : Mem} (h : Fx M) : mT M 140 = (20, 400) := by rw [h.1]; decide +kernel
theorem ty_141 {M : Mem} (h : Fx M) : mT M 141 = (20, 400) := by rw [h.1]; decide +kernel
theorem ty_142 {M : Mem} (h : Fx M) : mT M 142 = (20, 400) := by rw [h.1]; decide +kernel
theorem ty_143 {M : Mem} (h : Fx M) : mT M 143 = (20, 1800) := by rw [h.1]; decide +kernel
theorem ty_144 {M : Mem} (h : Fx M) : mT M 144 = (20, 1800) := by rw [h.1]; decide +kernel
theorem ty_145 {M : Mem} (h : Fx M) : mT M 145 = (20, 20) := by rw [h.1]; decide +kernel
theorem ty_146 {M : Mem} (h : Fx M) : mT M 146 = (20, 20) := by rw [h.1]; decide +kernel
theorem ty_147 {M : Mem} (h : Fx M) : mT M 147 = (23, 20) := by rw [h.1]; decide +kernel
theorem ty_148 {M : Mem} (h : Fx M) : mT M 148 = (20, 20) := by rw [h.1]; decide +kernel
theorem ty_149 {M : Mem} (h : Fx M) : mT M 149 = (20, 20) := by rw [h.1]; decide +kernel
theorem ty_150 {M : Mem} (h : Fx M) : mT M 150 = (20, 500) := by rw [h.1]; decide +kernel
theorem ty_151 {M : Mem} (h : Fx M) : mT M 151 = (20, 20) := by rw [h.1]; decide +kernel
theorem ty_152 {M : Mem} (h : Fx M) : mT M 152 = (20, 20) := by rw [h.1]; decide +kernel
theorem ty_153 {M : Mem} (h : Fx M) : mT M 153 = (20, 3) := by rw [h.1]; decide +kernel
theorem ty_154 {M : Mem} (h : Fx M) : mT M 154 = (20, 3) := by rw [h.1]; decide +kernel
theorem ty_155 {M : Mem} (h : Fx M) : mT M 155 = (20, 6) := by rw [h.1]; decide +kernel
theorem ty_156 {M : Mem} (h : Fx M) : mT M 156 = (23, 6) := by rw [h.1]; decide +kernel
theorem ty_157 {M : Mem} (h : Fx M) : mT M 157 = (20, 6) := by rw [h.1]; decide +kernel
theorem ty_158 {M : Mem} (h : Fx M) : mT M 158 = (20, 6) := by rw [h.1]; decide +kernel
theorem ty_159 {M : Mem} (h : Fx M) : mT M 159 = (20, 6) := by rw [h.1]; decide +kernel
theorem ty_160 {M : Mem} (h : Fx M) : mT M 160 = (20, 8) := by rw [h.1]; decide +kernel
theorem ty_161 {M : Mem} (h : Fx M) : mT M 161 = (20, 24) := by rw [h.1]; decide +kernel
theorem ty_162 {M : Mem} (h : Fx M) : mT M 162 = (20, 2100) := by rw [h.1]; decide +kernel
theorem ty_163 {M : Mem} (h : Fx M) : mT M 163 = (20, 12600) := by rw [h.1]; decide +kernel
theorem ty_164 {M : Mem} (h : Fx M) : mT M 164 = (20, 12600) := by rw [h.1]; decide +kernel
theorem ty_165 {M : Mem} (h : Fx M) : mT M 165 = (20, 12600) := by rw [h.1]; decide +kernel
theorem ty_166 {M : Mem} (h : Fx M) : mT M 166 = (20, 2100) := by rw [h.1]; decide +kernel
theorem ty_167 {M : Mem} (h : Fx M) : mT M 167 = (20, 2100) := by rw [h.1]; decide +kernel
theorem ty_168 {M : Mem} (h : Fx M) : mT M 168 = (20, 2100) := by rw [h.1]; decide +kernel
theorem ty_169 {M : Mem} (h : Fx M) : mT M 169 = (20, 2100) := by rw [h.1]; decide +kernel
theorem ty_170 {M : Mem} (h : Fx M) : mT M 170 = (20, 2100) := by rw [h.1]; decide +kernel
theorem ty_171 {M : Mem} (h : Fx M) : mT M 171 = (20, 2100) := by rw [h.1]; decide +kernel
theorem ty_172 {M : Mem} (h : Fx M) : mT M 172 = (21, 950) := by rw [h.1]; decide +kernel
theorem ty_173 {M : Mem} (h : Fx M) : mT M 173 = (20, 6) := by rw [h.1]; decide +kernel
theorem ty_174 {M : Mem} (h : Fx M) : mT M 174 = (20, 24) := by rw [h.1]; decide +kernel
theorem ty_175 {M : Mem} (h : Fx M) : mT M 175 = (23, 6) := by rw [h.1]; decide +kernel
theorem ty_176 {M : Mem} (h : Fx M) : mT M 176 = (20, 8) := by rw [h.1]; decide +kernel
theorem ty_177 {M : Mem} (h : Fx M) : mT M 177 = (23, 2200) := by rw [h.1]; decide +kernel
theorem ty_178 {M : Mem} (h : Fx M) : mT M 178 = (21, 256) := by rw [h.1]; decide +kernel
theorem ty_179 {M : Mem} (h : Fx M) : mT M 179 = (20, 3) := by rw [h.1]; decide +kernel
theorem ty_180 {M : Mem} (h : Fx M) : mT M 180 = (20, 36) := by rw [h.1]; decide +kernel
theorem ty_181 {M : Mem} (h : Fx M) : mT M 181 = (20, 12) := by rw [h.1]; decide +kernel
theorem ty_182 {M : Mem} (h : Fx M) : mT M 182 = (20, 4) := by rw [h.1]; decide +kernel
theorem ty_183 {M : Mem} (h : Fx M) : mT M 183 = (21, 12) := by rw [h.1]; decide +kernel
theorem ty_184 {M : Mem} (h : Fx M) : mT M 184 = (20, 36) := by rw [h.1]; decide +kernel
theorem ty_185 {M : Mem} (h : Fx M) : mT M 185 = (20, 6) := by rw [h.1]; decide +kernel
theorem ty_186 {M : Mem} (h : Fx M) : mT M 186 = (20, 6) := by rw [h.1]; decide +kernel
theorem ty_187 {M : Mem} (h : Fx M) : mT M 187 = (20, 6) := by rw [h.1]; decide +kernel
theorem ty_188 {M : Mem} (h : Fx M) : mT M 188 = (20, 6) := by rw [h.1]; decide +kernel
theorem ty_189 {M : Mem} (h : Fx M) : mT M 189 = (20, 6) := by rw [h.1]; decide +kernel
theorem ty_190 {M : Mem} (h : Fx M) : mT M 190 = (21, 201) := by rw [h.1]; decide +kernel
