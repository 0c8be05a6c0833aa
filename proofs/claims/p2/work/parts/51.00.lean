set_option maxRecDepth 100000 in
set_option maxHeartbeats 4000000 in
theorem xu_feed {l : Launch} {K : EC} {xq : Int} {M0 : Mem} (hE : e_all K xq) (hI : In Tru M0) (hx : XI M0) (a1 : Int) (ha1 : (-2147483648) ≤ a1 ∧ a1 ≤ 2147483647) (a2 : Int) (ha2 : (-2147483648) ≤ a2 ∧ a2 ≤ 2147483647) (a3 : Int) (ha3 : (-2147483648) ≤ a3 ∧ a3 ≤ 2147483647) (a4 : Int) (ha4 : (-2147483648) ≤ a4 ∧ a4 ≤ 2147483647) (a5 : Int) (ha5 : (-2147483648) ≤ a5 ∧ a5 ≤ 2147483647) : Tr l K 59 mX11_feed 0 [(0, (2, 0)), (1, (0, a1)), (2, (0, a2)), (3, (0, a3)), (4, (0, a4)), (5, (0, a5))] [] M0 (fun M' r => In Tru M' ∧ XI M' ∧ FrX M0 M' ∧ ∃ v : Int, r = some (0, v) ∧ ((v = -1 ∧ rd M' 0 1 = rd M0 0 1 ∧ 880 < rd M0 0 1) ∨ (v = rd M' 0 1 ∧ rd M' 0 1 = rd M0 0 1 + 20 ∧ rd M0 0 1 ≤ 880)) ∧ rd M' 113 0 = rd M0 113 0) := by
  rcases id hx.2 with ⟨e04, e05, hy, e56⟩ | ⟨e04, e05, hy, e56⟩
  · refine Tr.imp (Tr.deep (by decide) (sp_X11_feed_0 hI a1 (by omega) a2 (by omega) a3 (by omega) a4 (by omega) a5 (by omega))) ?_
    rintro M' _ ⟨hS, v, rfl, hv⟩
    exact ⟨hS.1, XI.st hx hS (by decide +kernel) (by decide +kernel), St.fx hS (by decide +kernel), v, rfl, hv.2.2, St.kp hS (by decide) (by decide +kernel) (by decide +kernel)⟩
  · refine Tr.imp (Tr.deep (by decide) (sp_X11_feed_0 hI a1 (by omega) a2 (by omega) a3 (by omega) a4 (by omega) a5 (by omega))) ?_
    rintro M' _ ⟨hS, v, rfl, hv⟩
    exact ⟨hS.1, XI.st hx hS (by decide +kernel) (by decide +kernel), St.fx hS (by decide +kernel), v, rfl, hv.2.2, St.kp hS (by decide) (by decide +kernel) (by decide +kernel)⟩

set_option maxRecDepth 100000 in
set_option maxHeartbeats 4000000 in
theorem xu_end {l : Launch} {K : EC} {xq : Int} {M0 : Mem} (hE : e_all K xq) (hI : In Tru M0) (hx : XI M0) (a1 : Int) (ha1 : (-2147483648) ≤ a1 ∧ a1 ≤ 2147483647) : Tr l K 59 mX11_end 0 [(0, (2, 0)), (1, (0, a1))] [] M0 (fun M' r => In Tru M' ∧ XI M' ∧ FrX M0 M' ∧ ∃ v : Int, r = some (0, v) ∧ ((v = 1 ∧ rd M' 0 1 = a1 ∧ 0 ≤ a1 ∧ a1 ≤ rd M0 0 1) ∨ (v = 0 ∧ rd M' 0 1 = rd M0 0 1 ∧ (a1 < 0 ∨ rd M0 0 1 < a1))) ∧ rd M' 113 0 = rd M0 113 0) := by
  rcases id hx.2 with ⟨e04, e05, hy, e56⟩ | ⟨e04, e05, hy, e56⟩
  · refine Tr.imp (Tr.deep (by decide) (sp_X11_end_0 hI a1 (by omega))) ?_
    rintro M' _ ⟨hS, v, rfl, hv⟩
    exact ⟨hS.1, XI.st hx hS (by decide +kernel) (by decide +kernel), St.fx hS (by decide +kernel), v, rfl, hv.2.2, St.kp hS (by decide) (by decide +kernel) (by decide +kernel)⟩
  · refine Tr.imp (Tr.deep (by decide) (sp_X11_end_0 hI a1 (by omega))) ?_
    rintro M' _ ⟨hS, v, rfl, hv⟩
    exact ⟨hS.1, XI.st hx hS (by decide +kernel) (by decide +kernel), St.fx hS (by decide +kernel), v, rfl, hv.2.2, St.kp hS (by decide) (by decide +kernel) (by decide +kernel)⟩

set_option maxRecDepth 100000 in
set_option maxHeartbeats 4000000 in
theorem xu_text {l : Launch} {K : EC} {xq : Int} {M0 : Mem} (hE : e_all K xq) (hI : In Tru M0) (hx : XI M0) : Tr l K 59 mX11_text 0 [(0, (2, 0))] [] M0 (fun M' r => In Tru M' ∧ XI M' ∧ FrX M0 M' ∧ ∃ v : Int, r = some (0, v) ∧ rd M' 0 1 = 0 ∧ rd M' 113 0 = rd M0 113 0) := by
  rcases id hx.2 with ⟨e04, e05, hy, e56⟩ | ⟨e04, e05, hy, e56⟩
  · refine Tr.imp (Tr.deep (by decide) (sp_X11_text_0 hI hE e04 e05)) ?_
    rintro M' _ ⟨hS, o0, o1, o2, o3, v, rfl, hv⟩
    exact ⟨hS.1, XI.tx7 hx e05 hy e56 hS (by decide +kernel) (by decide +kernel) hv.2.2.2.1 hv.2.2.2.2, St.fx hS (by decide +kernel), v, rfl, hv.2.2.1, St.kp hS (by decide) (by decide +kernel) (by decide +kernel)⟩
  · refine Tr.imp (Tr.deep (by decide) (sp_X11_text_0_w1 hI hE e04 e05)) ?_
    rintro M' _ ⟨hS, o0, o1, o2, o3, v, rfl, hv⟩
    exact ⟨hS.1, XI.tx27 hx e05 hy e56 hS (by decide +kernel) (by decide +kernel) hv.2.2.2.1 hv.2.2.2.2, St.fx hS (by decide +kernel), v, rfl, hv.2.2.1, St.kp hS (by decide) (by decide +kernel) (by decide +kernel)⟩

set_option maxRecDepth 100000 in
set_option maxHeartbeats 4000000 in
theorem xu_fault {l : Launch} {K : EC} {xq : Int} {M0 : Mem} (hE : e_all K xq) (hI : In Tru M0) (hx : XI M0) (a1 : Int) (ha1 : (-2147483648) ≤ a1 ∧ a1 ≤ 2147483647) : Tr l K 59 mX11_fault 0 [(0, (2, 0)), (1, (0, a1))] [] M0 (fun M' r => In Tru M' ∧ XI M' ∧ FrX M0 M' ∧ ∃ v : Int, r = some (0, v) ∧ rd M' 0 1 = rd M0 0 1 ∧ rd M' 113 0 = rd M0 113 0) := by
  rcases id hx.2 with ⟨e04, e05, hy, e56⟩ | ⟨e04, e05, hy, e56⟩
  · refine Tr.imp (Tr.deep (by decide) (sp_X11_fault_0 hI a1 (by omega))) ?_
    rintro M' _ ⟨hS, v, rfl, hv⟩
    exact ⟨hS.1, XI.st hx hS (by decide +kernel) (by decide +kernel), St.fx hS (by decide +kernel), v, rfl, St.kp hS (by decide) (by decide +kernel) (by decide +kernel), St.kp hS (by decide) (by decide +kernel) (by decide +kernel)⟩
  · refine Tr.imp (Tr.deep (by decide) (sp_X11_fault_0 hI a1 (by omega))) ?_
    rintro M' _ ⟨hS, v, rfl, hv⟩
    exact ⟨hS.1, XI.st hx hS (by decide +kernel) (by decide +kernel), St.fx hS (by decide +kernel), v, rfl, St.kp hS (by decide) (by decide +kernel) (by decide +kernel), St.kp hS (by decide) (by decide +kernel) (by decide +kernel)⟩

set_option maxRecDepth 100000 in
set_option maxHeartbeats 4000000 in
theorem xu_has {l : Launch} {K : EC} {xq : Int} {M0 : Mem} (hE : e_all K xq) (hI : In Tru M0) (hx : XI M0) (a1 : Int) (ha1 : (-2147483648) ≤ a1 ∧ a1 ≤ 2147483647) : Tr l K 59 mX11_has 0 [(0, (2, 0)), (1, (0, a1))] [] M0 (fun M' r => In Tru M' ∧ XI M' ∧ FrX M0 M' ∧ ∃ v : Int, r = some (0, v) ∧ rd M' 0 1 = rd M0 0 1 ∧ rd M' 113 0 = rd M0 113 0) := by
  rcases id hx.2 with ⟨e04, e05, hy, e56⟩ | ⟨e04, e05, hy, e56⟩
  · refine Tr.imp (Tr.deep (by decide) (sp_X11_has_0 hI e04 a1 (by omega))) ?_
    rintro M' _ ⟨hS, v, rfl, hv⟩
    exact ⟨hS.1, XI.st hx hS (by decide +kernel) (by decide +kernel), St.fx hS (by decide +kernel), v, rfl, St.kp hS (by decide) (by decide +kernel) (by decide +kernel), St.kp hS (by decide) (by decide +kernel) (by decide +kernel)⟩
  · refine Tr.imp (Tr.deep (by decide) (sp_X11_has_0_w1 hI e04 a1 (by omega))) ?_
    rintro M' _ ⟨hS, v, rfl, hv⟩
    exact ⟨hS.1, XI.st hx hS (by decide +kernel) (by decide +kernel), St.fx hS (by decide +kernel), v, rfl, St.kp hS (by decide) (by decide +kernel) (by decide +kernel), St.kp hS (by decide) (by decide +kernel) (by decide +kernel)⟩

set_option maxRecDepth 100000 in
set_option maxHeartbeats 4000000 in
theorem xu_letter {l : Launch} {K : EC} {xq : Int} {M0 : Mem} (hE : e_all K xq) (hI : In Tru M0) (hx : XI M0) (a1 : Int) (ha1 : (-2147483648) ≤ a1 ∧ a1 ≤ 2147483647) (a2 : Int) (ha2 : (-2147483648) ≤ a2 ∧ a2 ≤ 2147483647) (a3 : Int) (ha3 : (-2147483648) ≤ a3 ∧ a3 ≤ 2147483647) : Tr l K 59 mX11_letter 0 [(0, (2, 0)), (1, (0, a1)), (2, (0, a2)), (3, (0, a3))] [] M0 (fun M' r => In Tru M' ∧ XI M' ∧ FrX M0 M' ∧ ∃ v : Int, r = some (0, v) ∧ rd M' 0 1 = rd M0 0 1 ∧ rd M' 113 0 = rd M0 113 0) := by
  rcases id hx.2 with ⟨e04, e05, hy, e56⟩ | ⟨e04, e05, hy, e56⟩
  · refine Tr.imp (Tr.deep (by decide) (sp_X11_letter_0 hI hE e04 a1 (by omega) a2 (by omega) a3 (by omega))) ?_
    rintro M' _ ⟨hS, v, rfl, hv⟩
    exact ⟨hS.1, XI.st hx hS (by decide +kernel) (by decide +kernel), St.fx hS (by decide +kernel), v, rfl, St.kp hS (by decide) (by decide +kernel) (by decide +kernel), St.kp hS (by decide) (by decide +kernel) (by decide +kernel)⟩
  · refine Tr.imp (Tr.deep (by decide) (sp_X11_letter_0_w1 hI hE e04 a1 (by omega) a2 (by omega) a3 (by omega))) ?_
    rintro M' _ ⟨hS, v, rfl, hv⟩
    exact ⟨hS.1, XI.st hx hS (by decide +kernel) (by decide +kernel), St.fx hS (by decide +kernel), v, rfl, St.kp hS (by decide) (by decide +kernel) (by decide +kernel), St.kp hS (by decide) (by decide +kernel) (by decide +kernel)⟩

set_option maxRecDepth 100000 in
set_option maxHeartbeats 4000000 in
theorem xu_put {l : Launch} {K : EC} {xq : Int} {M0 : Mem} (hE : e_all K xq) (hI : In Tru M0) (hx : XI M0) (a1 : Int) (ha1 : (-2147483648) ≤ a1 ∧ a1 ≤ 2147483647) (a2 : Int) (ha2 : (-2147483648) ≤ a2 ∧ a2 ≤ 2147483647) : Tr l K 59 mX11_put 0 [(0, (2, 0)), (1, (0, a1)), (2, (0, a2))] [] M0 (fun M' r => In Tru M' ∧ XI M' ∧ FrX M0 M' ∧ ∃ v : Int, r = some (0, v) ∧ rd M' 0 1 = rd M0 0 1 ∧ rd M' 113 0 = rd M0 113 0) := by
  rcases id hx.2 with ⟨e04, e05, hy, e56⟩ | ⟨e04, e05, hy, e56⟩
  · refine Tr.imp (Tr.deep (by decide) (sp_X11_put_0 hI e04 a1 (by omega) a2 (by omega))) ?_
    rintro M' _ ⟨hS, v, rfl, hv⟩
    exact ⟨hS.1, XI.st hx hS (by decide +kernel) (by decide +kernel), St.fx hS (by decide +kernel), v, rfl, St.kp hS (by decide) (by decide +kernel) (by decide +kernel), St.kp hS (by decide) (by decide +kernel) (by decide +kernel)⟩
  · refine Tr.imp (Tr.deep (by decide) (sp_X11_put_0_w1 hI e04 a1 (by omega) a2 (by omega))) ?_
    rintro M' _ ⟨hS, v, rfl, hv⟩
    exact ⟨hS.1, XI.st hx hS (by decide +kernel) (by decide +kernel), St.fx hS (by decide +kernel), v, rfl, St.kp hS (by decide) (by decide +kernel) (by decide +kernel), St.kp hS (by decide) (by decide +kernel) (by decide +kernel)⟩

set_option maxRecDepth 100000 in
set_option maxHeartbeats 4000000 in
theorem xu_run {l : Launch} {K : EC} {xq : Int} {M0 : Mem} (hE : e_all K xq) (hI : In Tru M0) (hx : XI M0) (a1 : Int) (ha1 : (-2147483648) ≤ a1 ∧ a1 ≤ 2147483647) : Tr l K 59 mX11_run 0 [(0, (2, 0)), (1, (0, a1))] [] M0 (fun M' r => In Tru M' ∧ XI M' ∧ FrX M0 M' ∧ ∃ v : Int, r = some (0, v) ∧ rd M' 0 1 = rd M0 0 1 ∧ rd M' 113 0 = rd M0 113 0) := by
  rcases id hx.2 with ⟨e04, e05, hy, e56⟩ | ⟨e04, e05, hy, e56⟩
  · refine Tr.imp (Tr.deep (by decide) (sp_X11_run_0 hI e04 a1 (by omega) hy)) ?_
    rintro M' _ ⟨hS, v, rfl, hv⟩
    rcases hv.2.2 with hz | hz
    · exact ⟨hS.1, XI.rn7 e04 e05 hy hS (by decide +kernel) (by decide +kernel) hz.1 hz.2.1 hz.2.2, St.fx hS (by decide +kernel), v, rfl, St.kp hS (by decide) (by decide +kernel) (by decide +kernel), St.kp hS (by decide) (by decide +kernel) (by decide +kernel)⟩
    · subst hz
      exact ⟨hS.1, hx, St.fx hS (by decide +kernel), v, rfl, rfl, rfl⟩
  · refine Tr.imp (Tr.deep (by decide) (sp_X11_run_0_w1 hI e04 a1 (by omega) hy)) ?_
    rintro M' _ ⟨hS, v, rfl, hv⟩
    rcases hv.2.2 with hz | hz
    · exact ⟨hS.1, XI.rn27 e04 e05 hy hS (by decide +kernel) (by decide +kernel) hz.1 hz.2.1 hz.2.2, St.fx hS (by decide +kernel), v, rfl, St.kp hS (by decide) (by decide +kernel) (by decide +kernel), St.kp hS (by decide) (by decide +kernel) (by decide +kernel)⟩
    · subst hz
      exact ⟨hS.1, hx, St.fx hS (by decide +kernel), v, rfl, rfl, rfl⟩

set_option maxRecDepth 100000 in
set_option maxHeartbeats 4000000 in
theorem xu_ran {l : Launch} {K : EC} {xq : Int} {M0 : Mem} (hE : e_all K xq) (hI : In Tru M0) (hx : XI M0) (a1 : Int) (ha1 : (-2147483648) ≤ a1 ∧ a1 ≤ 2147483647) : Tr l K 59 mX11_ran 0 [(0, (2, 0)), (1, (0, a1))] [] M0 (fun M' r => In Tru M' ∧ XI M' ∧ FrX M0 M' ∧ ∃ v : Int, r = some (0, v) ∧ rd M' 0 1 = rd M0 0 1 ∧ rd M' 113 0 = rd M0 113 0) := by
  rcases id hx.2 with ⟨e04, e05, hy, e56⟩ | ⟨e04, e05, hy, e56⟩
  · rcases (show rd M0 0 9 = 0 ∨ rd M0 0 9 = 1 by have := ir_0_9 hI.2.1; omega) with e09 | e09
    · refine Tr.imp (Tr.deep (by decide) (sp_X11_ran_0 hI e09 a1 (by omega))) ?_
      rintro M' _ ⟨hS, v, rfl, hv⟩
      exact ⟨hS.1, XI.st hx hS (by decide +kernel) (by decide +kernel), St.fx hS (by decide +kernel), v, rfl, St.kp hS (by decide) (by decide +kernel) (by decide +kernel), St.kp hS (by decide) (by decide +kernel) (by decide +kernel)⟩
    · refine Tr.imp (Tr.deep (by decide) (sp_X11_ran_0_w1 hI e09 a1 (by omega))) ?_
      rintro M' _ ⟨hS, v, rfl, hv⟩
      exact ⟨hS.1, XI.st hx hS (by decide +kernel) (by decide +kernel), St.fx hS (by decide +kernel), v, rfl, St.kp hS (by decide) (by decide +kernel) (by decide +kernel), St.kp hS (by decide) (by decide +kernel) (by decide +kernel)⟩
  · rcases (show rd M0 0 9 = 0 ∨ rd M0 0 9 = 1 by have := ir_0_9 hI.2.1; omega) with e09 | e09
    · refine Tr.imp (Tr.deep (by decide) (sp_X11_ran_0 hI e09 a1 (by omega))) ?_
      rintro M' _ ⟨hS, v, rfl, hv⟩
      exact ⟨hS.1, XI.st hx hS (by decide +kernel) (by decide +kernel), St.fx hS (by decide +kernel), v, rfl, St.kp hS (by decide) (by decide +kernel) (by decide +kernel), St.kp hS (by decide) (by decide +kernel) (by decide +kernel)⟩
    · refine Tr.imp (Tr.deep (by decide) (sp_X11_ran_0_w1 hI e09 a1 (by omega))) ?_
      rintro M' _ ⟨hS, v, rfl, hv⟩
      exact ⟨hS.1, XI.st hx hS (by decide +kernel) (by decide +kernel), St.fx hS (by decide +kernel), v, rfl, St.kp hS (by decide) (by decide +kernel) (by decide +kernel), St.kp hS (by decide) (by decide +kernel) (by decide +kernel)⟩

set_option maxRecDepth 100000 in
set_option maxHeartbeats 4000000 in
theorem xu_value {l : Launch} {K : EC} {xq : Int} {M0 : Mem} (hE : e_all K xq) (hI : In Tru M0) (hx : XI M0) (a1 : Int) (ha1 : (-2147483648) ≤ a1 ∧ a1 ≤ 2147483647) : Tr l K 59 mX11_value 0 [(0, (2, 0)), (1, (0, a1))] [] M0 (fun M' r => In Tru M' ∧ XI M' ∧ FrX M0 M' ∧ ∃ v : Int, r = some (0, v) ∧ rd M' 0 1 = rd M0 0 1 ∧ rd M' 113 0 = rd M0 113 0) := by
  rcases id hx.2 with ⟨e04, e05, hy, e56⟩ | ⟨e04, e05, hy, e56⟩
  · rcases (show rd M0 0 9 = 0 ∨ rd M0 0 9 = 1 by have := ir_0_9 hI.2.1; omega) with e09 | e09
    · refine Tr.imp (Tr.deep (by decide) (sp_X11_value_0 hI e09 a1 (by omega))) ?_
      rintro M' _ ⟨hS, v, rfl, hv⟩
      exact ⟨hS.1, XI.st hx hS (by decide +kernel) (by decide +kernel), St.fx hS (by decide +kernel), v, rfl, St.kp hS (by decide) (by decide +kernel) (by decide +kernel), St.kp hS (by decide) (by decide +kernel) (by decide +kernel)⟩
    · refine Tr.imp (Tr.deep (by decide) (sp_X11_value_0_w1 hI e04 e09 a1 (by omega))) ?_
      rintro M' _ ⟨hS, v, rfl, hv⟩
      exact ⟨hS.1, XI.st hx hS (by decide +kernel) (by decide +kernel), St.fx hS (by decide +kernel), v, rfl, St.kp hS (by decide) (by decide +kernel) (by decide +kernel), St.kp hS (by decide) (by decide +kernel) (by decide +kernel)⟩
  · rcases (show rd M0 0 9 = 0 ∨ rd M0 0 9 = 1 by have := ir_0_9 hI.2.1; omega) with e09 | e09
    · refine Tr.imp (Tr.deep (by decide) (sp_X11_value_0 hI e09 a1 (by omega))) ?_
      rintro M' _ ⟨hS, v, rfl, hv⟩
      exact ⟨hS.1, XI.st hx hS (by decide +kernel) (by decide +kernel), St.fx hS (by decide +kernel), v, rfl, St.kp hS (by decide) (by decide +kernel) (by decide +kernel), St.kp hS (by decide) (by decide +kernel) (by decide +kernel)⟩
    · refine Tr.imp (Tr.deep (by decide) (sp_X11_value_0_w2 hI e04 e09 a1 (by omega))) ?_
      rintro M' _ ⟨hS, v, rfl, hv⟩
      exact ⟨hS.1, XI.st hx hS (by decide +kernel) (by decide +kernel), St.fx hS (by decide +kernel), v, rfl, St.kp hS (by decide) (by decide +kernel) (by decide +kernel), St.kp hS (by decide) (by decide +kernel) (by decide +kernel)⟩

set_option maxRecDepth 100000 in
set_option maxHeartbeats 4000000 in
theorem xu_spent {l : Launch} {K : EC} {xq : Int} {M0 : Mem} (hE : e_all K xq) (hI : In Tru M0) (hx : XI M0) (a1 : Int) (ha1 : (-2147483648) ≤ a1 ∧ a1 ≤ 2147483647) (a2 : Int) (ha2 : (-2147483648) ≤ a2 ∧ a2 ≤ 2147483647) : Tr l K 59 mX11_spent 0 [(0, (2, 0)), (1, (0, a1)), (2, (0, a2))] [] M0 (fun M' r => In Tru M' ∧ XI M' ∧ FrX M0 M' ∧ ∃ v : Int, r = some (0, v) ∧ rd M' 0 1 = rd M0 0 1 ∧ rd M' 113 0 = rd M0 113 0) := by
  rcases id hx.2 with ⟨e04, e05, hy, e56⟩ | ⟨e04, e05, hy, e56⟩
  · rcases (show rd M0 0 9 = 0 ∨ rd M0 0 9 = 1 by have := ir_0_9 hI.2.1; omega) with e09 | e09
    · refine Tr.imp (Tr.deep (by decide) (sp_X11_spent_0 hI e09 a1 (by omega) a2 (by omega))) ?_
      rintro M' _ ⟨hS, v, rfl, hv⟩
      exact ⟨hS.1, XI.st hx hS (by decide +kernel) (by decide +kernel), St.fx hS (by decide +kernel), v, rfl, St.kp hS (by decide) (by decide +kernel) (by decide +kernel), St.kp hS (by decide) (by decide +kernel) (by decide +kernel)⟩
    · refine Tr.imp (Tr.deep (by decide) (sp_X11_spent_0_w1 hI e04 e09 a1 (by omega) a2 (by omega))) ?_
      rintro M' _ ⟨hS, v, rfl, hv⟩
      exact ⟨hS.1, XI.st hx hS (by decide +kernel) (by decide +kernel), St.fx hS (by decide +kernel), v, rfl, St.kp hS (by decide) (by decide +kernel) (by decide +kernel), St.kp hS (by decide) (by decide +kernel) (by decide +kernel)⟩
  · rcases (show rd M0 0 9 = 0 ∨ rd M0 0 9 = 1 by have := ir_0_9 hI.2.1; omega) with e09 | e09
    · refine Tr.imp (Tr.deep (by decide) (sp_X11_spent_0 hI e09 a1 (by omega) a2 (by omega))) ?_
      rintro M' _ ⟨hS, v, rfl, hv⟩
      exact ⟨hS.1, XI.st hx hS (by decide +kernel) (by decide +kernel), St.fx hS (by decide +kernel), v, rfl, St.kp hS (by decide) (by decide +kernel) (by decide +kernel), St.kp hS (by decide) (by decide +kernel) (by decide +kernel)⟩
    · refine Tr.imp (Tr.deep (by decide) (sp_X11_spent_0_w2 hI e04 e09 a1 (by omega) a2 (by omega))) ?_
      rintro M' _ ⟨hS, v, rfl, hv⟩
      exact ⟨hS.1, XI.st hx hS (by decide +kernel) (by decide +kernel), St.fx hS (by decide +kernel), v, rfl, St.kp hS (by decide) (by decide +kernel) (by decide +kernel), St.kp hS (by decide) (by decide +kernel) (by decide +kernel)⟩

set_option maxRecDepth 100000 in
set_option maxHeartbeats 4000000 in
theorem xu_pays {l : Launch} {K : EC} {xq : Int} {M0 : Mem} (hE : e_all K xq) (hI : In Tru M0) (hx : XI M0) (a1 : Int) (ha1 : (-2147483648) ≤ a1 ∧ a1 ≤ 2147483647) (a2 : Int) (ha2 : (-2147483648) ≤ a2 ∧ a2 ≤ 2147483647) : Tr l K 59 mX11_pays 0 [(0, (2, 0)), (1, (0, a1)), (2, (0, a2))] [] M0 (fun M' r => In Tru M' ∧ XI M' ∧ FrX M0 M' ∧ ∃ v : Int, r = some (0, v) ∧ rd M' 0 1 = rd M0 0 1 ∧ rd M' 113 0 = rd M0 113 0) := by
  rcases id hx.2 with ⟨e04, e05, hy, e56⟩ | ⟨e04, e05, hy, e56⟩
  · rcases (show rd M0 0 9 = 0 ∨ rd M0 0 9 = 1 by have := ir_0_9 hI.2.1; omega) with e09 | e09
    · refine Tr.imp (Tr.deep (by decide) (sp_X11_pays_0 hI e09 a1 (by omega) a2 (by omega))) ?_
      rintro M' _ ⟨hS, v, rfl, hv⟩
      exact ⟨hS.1, XI.st hx hS (by decide +kernel) (by decide +kernel), St.fx hS (by decide +kernel), v, rfl, St.kp hS (by decide) (by decide +kernel) (by decide +kernel), St.kp hS (by decide) (by decide +kernel) (by decide +kernel)⟩
    · refine Tr.imp (Tr.deep (by decide) (sp_X11_pays_0_w1 hI e04 e09 (e56 e09) a1 (by omega) a2 (by omega))) ?_
      rintro M' _ ⟨hS, v, rfl, hv⟩
      exact ⟨hS.1, XI.st hx hS (by decide +kernel) (by decide +kernel), St.fx hS (by decide +kernel), v, rfl, St.kp hS (by decide) (by decide +kernel) (by decide +kernel), St.kp hS (by decide) (by decide +kernel) (by decide +kernel)⟩
  · rcases (show rd M0 0 9 = 0 ∨ rd M0 0 9 = 1 by have := ir_0_9 hI.2.1; omega) with e09 | e09
    · refine Tr.imp (Tr.deep (by decide) (sp_X11_pays_0 hI e09 a1 (by omega) a2 (by omega))) ?_
      rintro M' _ ⟨hS, v, rfl, hv⟩
      exact ⟨hS.1, XI.st hx hS (by decide +kernel) (by decide +kernel), St.fx hS (by decide +kernel), v, rfl, St.kp hS (by decide) (by decide +kernel) (by decide +kernel), St.kp hS (by decide) (by decide +kernel) (by decide +kernel)⟩
    · refine Tr.imp (Tr.deep (by decide) (sp_X11_pays_0_w2 hI e04 e09 (e56 e09) a1 (by omega) a2 (by omega))) ?_
      rintro M' _ ⟨hS, v, rfl, hv⟩
      exact ⟨hS.1, XI.st hx hS (by decide +kernel) (by decide +kernel), St.fx hS (by decide +kernel), v, rfl, St.kp hS (by decide) (by decide +kernel) (by decide +kernel), St.kp hS (by decide) (by decide +kernel) (by decide +kernel)⟩

set_option maxRecDepth 100000 in
set_option maxHeartbeats 4000000 in
theorem xu_stretches {l : Launch} {K : EC} {xq : Int} {M0 : Mem} (hE : e_all K xq) (hI : In Tru M0) (hx : XI M0) (a1 : Int) (ha1 : (-2147483648) ≤ a1 ∧ a1 ≤ 2147483647) : Tr l K 59 mX11_stretches 0 [(0, (2, 0)), (1, (0, a1))] [] M0 (fun M' r => In Tru M' ∧ XI M' ∧ FrX M0 M' ∧ ∃ v : Int, r = some (0, v) ∧ rd M' 0 1 = rd M0 0 1 ∧ rd M' 113 0 = rd M0 113 0) := by
  rcases id hx.2 with ⟨e04, e05, hy, e56⟩ | ⟨e04, e05, hy, e56⟩
  · rcases (show rd M0 0 9 = 0 ∨ rd M0 0 9 = 1 by have := ir_0_9 hI.2.1; omega) with e09 | e09
    · refine Tr.imp (Tr.deep (by decide) (sp_X11_stretches_0 hI e09 a1 (by omega))) ?_
      rintro M' _ ⟨hS, v, rfl, hv⟩
      exact ⟨hS.1, XI.st hx hS (by decide +kernel) (by decide +kernel), St.fx hS (by decide +kernel), v, rfl, St.kp hS (by decide) (by decide +kernel) (by decide +kernel), St.kp hS (by decide) (by decide +kernel) (by decide +kernel)⟩
    · refine Tr.imp (Tr.deep (by decide) (sp_X11_stretches_0_w1 hI e04 e09 a1 (by omega))) ?_
      rintro M' _ ⟨hS, v, rfl, hv⟩
      exact ⟨hS.1, XI.st hx hS (by decide +kernel) (by decide +kernel), St.fx hS (by decide +kernel), v, rfl, St.kp hS (by decide) (by decide +kernel) (by decide +kernel), St.kp hS (by decide) (by decide +kernel) (by decide +kernel)⟩
  · rcases (show rd M0 0 9 = 0 ∨ rd M0 0 9 = 1 by have := ir_0_9 hI.2.1; omega) with e09 | e09
    · refine Tr.imp (Tr.deep (by decide) (sp_X11_stretches_0 hI e09 a1 (by omega))) ?_
      rintro M' _ ⟨hS, v, rfl, hv⟩
      exact ⟨hS.1, XI.st hx hS (by decide +kernel) (by decide +kernel), St.fx hS (by decide +kernel), v, rfl, St.kp hS (by decide) (by decide +kernel) (by decide +kernel), St.kp hS (by decide) (by decide +kernel) (by decide +kernel)⟩
    · refine Tr.imp (Tr.deep (by decide) (sp_X11_stretches_0_w2 hI e04 e09 a1 (by omega))) ?_
      rintro M' _ ⟨hS, v, rfl, hv⟩
      exact ⟨hS.1, XI.st hx hS (by decide +kernel) (by decide +kernel), St.fx hS (by decide +kernel), v, rfl, St.kp hS (by decide) (by decide +kernel) (by decide +kernel), St.kp hS (by decide) (by decide +kernel) (by decide +kernel)⟩

set_option maxRecDepth 100000 in
set_option maxHeartbeats 4000000 in
theorem xu_stretch {l : Launch} {K : EC} {xq : Int} {M0 : Mem} (hE : e_all K xq) (hI : In Tru M0) (hx : XI M0) (a1 : Int) (ha1 : (-2147483648) ≤ a1 ∧ a1 ≤ 2147483647) (a2 : Int) (ha2 : (-2147483648) ≤ a2 ∧ a2 ≤ 2147483647) (a3 : Int) (ha3 : (-2147483648) ≤ a3 ∧ a3 ≤ 2147483647) : Tr l K 59 mX11_stretch 0 [(0, (2, 0)), (1, (0, a1)), (2, (0, a2)), (3, (0, a3))] [] M0 (fun M' r => In Tru M' ∧ XI M' ∧ FrX M0 M' ∧ ∃ v : Int, r = some (0, v) ∧ rd M' 0 1 = rd M0 0 1 ∧ rd M' 113 0 = rd M0 113 0) := by
  rcases id hx.2 with ⟨e04, e05, hy, e56⟩ | ⟨e04, e05, hy, e56⟩
  · rcases (show rd M0 0 9 = 0 ∨ rd M0 0 9 = 1 by have := ir_0_9 hI.2.1; omega) with e09 | e09
    · refine Tr.imp (Tr.deep (by decide) (sp_X11_stretch_0 hI e09 a1 (by omega) a2 (by omega) a3 (by omega))) ?_
      rintro M' _ ⟨hS, v, rfl, hv⟩
      exact ⟨hS.1, XI.st hx hS (by decide +kernel) (by decide +kernel), St.fx hS (by decide +kernel), v, rfl, St.kp hS (by decide) (by decide +kernel) (by decide +kernel), St.kp hS (by decide) (by decide +kernel) (by decide +kernel)⟩
    · refine Tr.imp (Tr.deep (by decide) (sp_X11_stretch_0_w1 hI e04 e09 a1 (by omega) a2 (by omega) a3 (by omega))) ?_
      rintro M' _ ⟨hS, v, rfl, hv⟩
      exact ⟨hS.1, XI.st hx hS (by decide +kernel) (by decide +kernel), St.fx hS (by decide +kernel), v, rfl, St.kp hS (by decide) (by decide +kernel) (by decide +kernel), St.kp hS (by decide) (by decide +kernel) (by decide +kernel)⟩
  · rcases (show rd M0 0 9 = 0 ∨ rd M0 0 9 = 1 by have := ir_0_9 hI.2.1; omega) with e09 | e09
    · refine Tr.imp (Tr.deep (by decide) (sp_X11_stretch_0 hI e09 a1 (by omega) a2 (by omega) a3 (by omega))) ?_
      rintro M' _ ⟨hS, v, rfl, hv⟩
      exact ⟨hS.1, XI.st hx hS (by decide +kernel) (by decide +kernel), St.fx hS (by decide +kernel), v, rfl, St.kp hS (by decide) (by decide +kernel) (by decide +kernel), St.kp hS (by decide) (by decide +kernel) (by decide +kernel)⟩
    · refine Tr.imp (Tr.deep (by decide) (sp_X11_stretch_0_w2 hI e04 e09 a1 (by omega) a2 (by omega) a3 (by omega))) ?_
      rintro M' _ ⟨hS, v, rfl, hv⟩
      exact ⟨hS.1, XI.st hx hS (by decide +kernel) (by decide +kernel), St.fx hS (by decide +kernel), v, rfl, St.kp hS (by decide) (by decide +kernel) (by decide +kernel), St.kp hS (by decide) (by decide +kernel) (by decide +kernel)⟩

set_option maxRecDepth 100000 in
set_option maxHeartbeats 4000000 in
theorem xu_lines {l : Launch} {K : EC} {xq : Int} {M0 : Mem} (hE : e_all K xq) (hI : In Tru M0) (hx : XI M0) (a1 : Int) (ha1 : (-2147483648) ≤ a1 ∧ a1 ≤ 2147483647) (a2 : Int) (ha2 : (-2147483648) ≤ a2 ∧ a2 ≤ 2147483647) : Tr l K 59 mX11_lines 0 [(0, (2, 0)), (1, (0, a1)), (2, (0, a2))] [] M0 (fun M' r => In Tru M' ∧ XI M' ∧ FrX M0 M' ∧ ∃ v : Int, r = some (1, v) ∧ rd M' 0 1 = rd M0 0 1 ∧ rd M' 113 0 = rd M0 113 0) := by
  rcases id hx.2 with ⟨e04, e05, hy, e56⟩ | ⟨e04, e05, hy, e56⟩
  · rcases (show rd M0 0 9 = 0 ∨ rd M0 0 9 = 1 by have := ir_0_9 hI.2.1; omega) with e09 | e09
    · refine Tr.imp (Tr.deep (by decide) (sp_X11_lines_0 hI e09 a1 (by omega) a2 (by omega))) ?_
      rintro M' _ ⟨hS, v, rfl, hv⟩
      exact ⟨hS.1, XI.st hx hS (by decide +kernel) (by decide +kernel), St.fx hS (by decide +kernel), v, rfl, St.kp hS (by decide) (by decide +kernel) (by decide +kernel), St.kp hS (by decide) (by decide +kernel) (by decide +kernel)⟩
    · refine Tr.imp (Tr.deep (by decide) (sp_X11_lines_0_w1 hI e04 e09 a1 (by omega) a2 (by omega))) ?_
      rintro M' _ ⟨hS, v, rfl, hv⟩
      exact ⟨hS.1, XI.st hx hS (by decide +kernel) (by decide +kernel), St.fx hS (by decide +kernel), v, rfl, St.kp hS (by decide) (by decide +kernel) (by decide +kernel), St.kp hS (by decide) (by decide +kernel) (by decide +kernel)⟩
  · rcases (show rd M0 0 9 = 0 ∨ rd M0 0 9 = 1 by have := ir_0_9 hI.2.1; omega) with e09 | e09
    · refine Tr.imp (Tr.deep (by decide) (sp_X11_lines_0 hI e09 a1 (by omega) a2 (by omega))) ?_
      rintro M' _ ⟨hS, v, rfl, hv⟩
      exact ⟨hS.1, XI.st hx hS (by decide +kernel) (by decide +kernel), St.fx hS (by decide +kernel), v, rfl, St.kp hS (by decide) (by decide +kernel) (by decide +kernel), St.kp hS (by decide) (by decide +kernel) (by decide +kernel)⟩
    · refine Tr.imp (Tr.deep (by decide) (sp_X11_lines_0_w2 hI e04 e09 a1 (by omega) a2 (by omega))) ?_
      rintro M' _ ⟨hS, v, rfl, hv⟩
      exact ⟨hS.1, XI.st hx hS (by decide +kernel) (by decide +kernel), St.fx hS (by decide +kernel), v, rfl, St.kp hS (by decide) (by decide +kernel) (by decide +kernel), St.kp hS (by decide) (by decide +kernel) (by decide +kernel)⟩

set_option maxRecDepth 100000 in
set_option maxHeartbeats 4000000 in
theorem xu_byTurns {l : Launch} {K : EC} {xq : Int} {M0 : Mem} (hE : e_all K xq) (hI : In Tru M0) (hx : XI M0) (a1 : Int) (ha1 : (-2147483648) ≤ a1 ∧ a1 ≤ 2147483647) (a2 : Int) (ha2 : (-2147483648) ≤ a2 ∧ a2 ≤ 2147483647) (a3 : Int) (ha3 : (-2147483648) ≤ a3 ∧ a3 ≤ 2147483647) (a4 : Int) (ha4 : 0 ≤ a4 ∧ a4 ≤ 1) : Tr l K 59 mX11_byTurns 0 [(0, (2, 0)), (1, (0, a1)), (2, (0, a2)), (3, (0, a3)), (4, (0, a4))] [] M0 (fun M' r => In Tru M' ∧ XI M' ∧ FrX M0 M' ∧ ∃ v : Int, r = some (1, v) ∧ rd M' 0 1 = rd M0 0 1 ∧ rd M' 113 0 = rd M0 113 0) := by
  rcases id hx.2 with ⟨e04, e05, hy, e56⟩ | ⟨e04, e05, hy, e56⟩
  · rcases (show rd M0 0 9 = 0 ∨ rd M0 0 9 = 1 by have := ir_0_9 hI.2.1; omega) with e09 | e09
    · refine Tr.imp (Tr.deep (by decide) (sp_X11_byTurns_0 hI e09 a1 (by omega) a2 (by omega) a3 (by omega) a4 (by omega))) ?_
      rintro M' _ ⟨hS, v, rfl, hv⟩
      exact ⟨hS.1, XI.st hx hS (by decide +kernel) (by decide +kernel), St.fx hS (by decide +kernel), v, rfl, St.kp hS (by decide) (by decide +kernel) (by decide +kernel), St.kp hS (by decide) (by decide +kernel) (by decide +kernel)⟩
    · refine Tr.imp (Tr.deep (by decide) (sp_X11_byTurns_0_w1 hI hE e04 e09 a1 (by omega) a2 (by omega) a3 (by omega) a4 (by omega) hx.1)) ?_
      rintro M' _ ⟨hS, v, rfl, hv⟩
      exact ⟨hS.1, XI.st2 hx hS (by decide +kernel) hv.2.2, St.fx hS (by decide +kernel), v, rfl, St.kp hS (by decide) (by decide +kernel) (by decide +kernel), St.kp hS (by decide) (by decide +kernel) (by decide +kernel)⟩
  · rcases (show rd M0 0 9 = 0 ∨ rd M0 0 9 = 1 by have := ir_0_9 hI.2.1; omega) with e09 | e09
    · refine Tr.imp (Tr.deep (by decide) (sp_X11_byTurns_0 hI e09 a1 (by omega) a2 (by omega) a3 (by omega) a4 (by omega))) ?_
      rintro M' _ ⟨hS, v, rfl, hv⟩
      exact ⟨hS.1, XI.st hx hS (by decide +kernel) (by decide +kernel), St.fx hS (by decide +kernel), v, rfl, St.kp hS (by decide) (by decide +kernel) (by decide +kernel), St.kp hS (by decide) (by decide +kernel) (by decide +kernel)⟩
    · refine Tr.imp (Tr.deep (by decide) (sp_X11_byTurns_0_w2 hI hE e04 e09 a1 (by omega) a2 (by omega) a3 (by omega) a4 (by omega) hx.1)) ?_
      rintro M' _ ⟨hS, v, rfl, hv⟩
      exact ⟨hS.1, XI.st2 hx hS (by decide +kernel) hv.2.2, St.fx hS (by decide +kernel), v, rfl, St.kp hS (by decide) (by decide +kernel) (by decide +kernel), St.kp hS (by decide) (by decide +kernel) (by decide +kernel)⟩

set_option maxRecDepth 100000 in
set_option maxHeartbeats 4000000 in
theorem xu_wasted {l : Launch} {K : EC} {xq : Int} {M0 : Mem} (hE : e_all K xq) (hI : In Tru M0) (hx : XI M0) (a1 : Int) (ha1 : (-2147483648) ≤ a1 ∧ a1 ≤ 2147483647) : Tr l K 59 mX11_wasted 0 [(0, (2, 0)), (1, (0, a1))] [] M0 (fun M' r => In Tru M' ∧ XI M' ∧ FrX M0 M' ∧ ∃ v : Int, r = some (0, v) ∧ rd M' 0 1 = rd M0 0 1 ∧ rd M' 113 0 = rd M0 113 0) := by
  rcases id hx.2 with ⟨e04, e05, hy, e56⟩ | ⟨e04, e05, hy, e56⟩
  · rcases (show rd M0 0 9 = 0 ∨ rd M0 0 9 = 1 by have := ir_0_9 hI.2.1; omega) with e09 | e09
    · refine Tr.imp (Tr.deep (by decide) (sp_X11_wasted_0 hI e09 a1 (by omega))) ?_
      rintro M' _ ⟨hS, v, rfl, hv⟩
      exact ⟨hS.1, XI.st hx hS (by decide +kernel) (by decide +kernel), St.fx hS (by decide +kernel), v, rfl, St.kp hS (by decide) (by decide +kernel) (by decide +kernel), St.kp hS (by decide) (by decide +kernel) (by decide +kernel)⟩
    · refine Tr.imp (Tr.deep (by decide) (sp_X11_wasted_0_w1 hI e04 e09 a1 (by omega))) ?_
      rintro M' _ ⟨hS, v, rfl, hv⟩
      exact ⟨hS.1, XI.st hx hS (by decide +kernel) (by decide +kernel), St.fx hS (by decide +kernel), v, rfl, St.kp hS (by decide) (by decide +kernel) (by decide +kernel), St.kp hS (by decide) (by decide +kernel) (by decide +kernel)⟩
  · rcases (show rd M0 0 9 = 0 ∨ rd M0 0 9 = 1 by have := ir_0_9 hI.2.1; omega) with e09 | e09
    · refine Tr.imp (Tr.deep (by decide) (sp_X11_wasted_0 hI e09 a1 (by omega))) ?_
      rintro M' _ ⟨hS, v, rfl, hv⟩
      exact ⟨hS.1, XI.st hx hS (by decide +kernel) (by decide +kernel), St.fx hS (by decide +kernel), v, rfl, St.kp hS (by decide) (by decide +kernel) (by decide +kernel), St.kp hS (by decide) (by decide +kernel) (by decide +kernel)⟩
    · refine Tr.imp (Tr.deep (by decide) (sp_X11_wasted_0_w2 hI e04 e09 a1 (by omega))) ?_
      rintro M' _ ⟨hS, v, rfl, hv⟩
      exact ⟨hS.1, XI.st hx hS (by decide +kernel) (by decide +kernel), St.fx hS (by decide +kernel), v, rfl, St.kp hS (by decide) (by decide +kernel) (by decide +kernel), St.kp hS (by decide) (by decide +kernel) (by decide +kernel)⟩

set_option maxRecDepth 100000 in
set_option maxHeartbeats 4000000 in
theorem xu_over {l : Launch} {K : EC} {xq : Int} {M0 : Mem} (hE : e_all K xq) (hI : In Tru M0) (hx : XI M0) (a1 : Int) (ha1 : 0 ≤ a1 ∧ a1 ≤ 1) : Tr l K 59 mX11_over 0 [(0, (2, 0)), (1, (0, a1))] [] M0 (fun M' r => In Tru M' ∧ XI M' ∧ FrX M0 M' ∧ ∃ v : Int, r = some (0, v) ∧ rd M' 0 1 = rd M0 0 1 ∧ rd M' 113 0 = rd M0 113 0) := by
  rcases id hx.2 with ⟨e04, e05, hy, e56⟩ | ⟨e04, e05, hy, e56⟩
  · refine Tr.imp (Tr.deep (by decide) (sp_X11_over_0 hI e04 a1 (by omega) hy)) ?_
    rintro M' _ ⟨hS, v, rfl, hv⟩
    exact ⟨hS.1, XI.st hx hS (by decide +kernel) (by decide +kernel), St.fx hS (by decide +kernel), v, rfl, St.kp hS (by decide) (by decide +kernel) (by decide +kernel), St.kp hS (by decide) (by decide +kernel) (by decide +kernel)⟩
  · refine Tr.imp (Tr.deep (by decide) (sp_X11_over_0_w1 hI e04 a1 (by omega) hy)) ?_
    rintro M' _ ⟨hS, v, rfl, hv⟩
    exact ⟨hS.1, XI.st hx hS (by decide +kernel) (by decide +kernel), St.fx hS (by decide +kernel), v, rfl, St.kp hS (by decide) (by decide +kernel) (by decide +kernel), St.kp hS (by decide) (by decide +kernel) (by decide +kernel)⟩

set_option maxRecDepth 100000 in
set_option maxHeartbeats 4000000 in
theorem xu_where {l : Launch} {K : EC} {xq : Int} {M0 : Mem} (hE : e_all K xq) (hI : In Tru M0) (hx : XI M0) (a1 : Int) (ha1 : (-2147483648) ≤ a1 ∧ a1 ≤ 2147483647) : Tr l K 59 mX11_where 0 [(0, (2, 0)), (1, (0, a1))] [] M0 (fun M' r => In Tru M' ∧ XI M' ∧ FrX M0 M' ∧ ∃ v : Int, r = some (0, v) ∧ rd M' 0 1 = rd M0 0 1 ∧ rd M' 113 0 = rd M0 113 0) := by
  rcases id hx.2 with ⟨e04, e05, hy, e56⟩ | ⟨e04, e05, hy, e56⟩
  · refine Tr.imp (Tr.deep (by decide) (sp_X11_where_0 hI e04 a1 (by omega))) ?_
    rintro M' _ ⟨hS, v, rfl, hv⟩
    exact ⟨hS.1, XI.st hx hS (by decide +kernel) (by decide +kernel), St.fx hS (by decide +kernel), v, rfl, St.kp hS (by decide) (by decide +kernel) (by decide +kernel), St.kp hS (by decide) (by decide +kernel) (by decide +kernel)⟩
  · refine Tr.imp (Tr.deep (by decide) (sp_X11_where_0_w1 hI e04 a1 (by omega))) ?_
    rintro M' _ ⟨hS, v, rfl, hv⟩
    exact ⟨hS.1, XI.st hx hS (by decide +kernel) (by decide +kernel), St.fx hS (by decide +kernel), v, rfl, St.kp hS (by decide) (by decide +kernel) (by decide +kernel), St.kp hS (by decide) (by decide +kernel) (by decide +kernel)⟩

set_option maxRecDepth 100000 in
set_option maxHeartbeats 4000000 in
theorem xu_measure {l : Launch} {K : EC} {xq : Int} {M0 : Mem} (hE : e_all K xq) (hI : In Tru M0) (hx : XI M0) (a1 : Int) (ha1 : (-2147483648) ≤ a1 ∧ a1 ≤ 2147483647) : Tr l K 59 mX11_measure 0 [(0, (2, 0)), (1, (0, a1))] [] M0 (fun M' r => In Tru M' ∧ XI M' ∧ FrX M0 M' ∧ ∃ v : Int, r = some (0, v) ∧ rd M' 0 1 = rd M0 0 1 ∧ rd M' 113 0 = rd M0 113 0) := by
  rcases id hx.2 with ⟨e04, e05, hy, e56⟩ | ⟨e04, e05, hy, e56⟩
  · refine Tr.imp (Tr.deep (by decide) (sp_X11_measure_0 hI e04 a1 (by omega) hy)) ?_
    rintro M' _ ⟨hS, v, rfl, hv⟩
    exact ⟨hS.1, XI.st hx hS (by decide +kernel) (by decide +kernel), St.fx hS (by decide +kernel), v, rfl, St.kp hS (by decide) (by decide +kernel) (by decide +kernel), St.kp hS (by decide) (by decide +kernel) (by decide +kernel)⟩
  · refine Tr.imp (Tr.deep (by decide) (sp_X11_measure_0_w1 hI e04 a1 (by omega) hy)) ?_
    rintro M' _ ⟨hS, v, rfl, hv⟩
    exact ⟨hS.1, XI.st hx hS (by decide +kernel) (by decide +kernel), St.fx hS (by decide +kernel), v, rfl, St.kp hS (by decide) (by decide +kernel) (by decide +kernel), St.kp hS (by decide) (by decide +kernel) (by decide +kernel)⟩

set_option maxRecDepth 100000 in
set_option maxHeartbeats 4000000 in
theorem xu_fit {l : Launch} {K : EC} {xq : Int} {M0 : Mem} (hE : e_all K xq) (hI : In Tru M0) (hx : XI M0) (a1 : Int) (ha1 : (-2147483648) ≤ a1 ∧ a1 ≤ 2147483647) : Tr l K 59 mX11_fit 0 [(0, (2, 0)), (1, (0, a1))] [] M0 (fun M' r => In Tru M' ∧ XI M' ∧ FrX M0 M' ∧ ∃ v : Int, r = some (0, v) ∧ rd M' 0 1 = rd M0 0 1 ∧ rd M' 113 0 = rd M0 113 0) := by
  rcases id hx.2 with ⟨e04, e05, hy, e56⟩ | ⟨e04, e05, hy, e56⟩
  · refine Tr.imp (Tr.deep (by decide) (sp_X11_fit_0 hI e04 a1 (by omega))) ?_
    rintro M' _ ⟨hS, v, rfl, hv⟩
    exact ⟨hS.1, XI.st hx hS (by decide +kernel) (by decide +kernel), St.fx hS (by decide +kernel), v, rfl, St.kp hS (by decide) (by decide +kernel) (by decide +kernel), St.kp hS (by decide) (by decide +kernel) (by decide +kernel)⟩
  · refine Tr.imp (Tr.deep (by decide) (sp_X11_fit_0_w1 hI e04 a1 (by omega))) ?_
    rintro M' _ ⟨hS, v, rfl, hv⟩
    exact ⟨hS.1, XI.st hx hS (by decide +kernel) (by decide +kernel), St.fx hS (by decide +kernel), v, rfl, St.kp hS (by decide) (by decide +kernel) (by decide +kernel), St.kp hS (by decide) (by decide +kernel) (by decide +kernel)⟩

set_option maxRecDepth 100000 in
set_option maxHeartbeats 4000000 in
theorem xu_fitted {l : Launch} {K : EC} {xq : Int} {M0 : Mem} (hE : e_all K xq) (hI : In Tru M0) (hx : XI M0) (a1 : Int) (ha1 : (-2147483648) ≤ a1 ∧ a1 ≤ 2147483647) : Tr l K 59 mX11_fitted 0 [(0, (2, 0)), (1, (0, a1))] [] M0 (fun M' r => In Tru M' ∧ XI M' ∧ FrX M0 M' ∧ ∃ v : Int, r = some (0, v) ∧ rd M' 0 1 = rd M0 0 1 ∧ rd M' 113 0 = rd M0 113 0) := by
  rcases id hx.2 with ⟨e04, e05, hy, e56⟩ | ⟨e04, e05, hy, e56⟩
  · refine Tr.imp (Tr.deep (by decide) (sp_X11_fitted_0 hI a1 (by omega))) ?_
    rintro M' _ ⟨hS, v, rfl, hv⟩
    exact ⟨hS.1, XI.st hx hS (by decide +kernel) (by decide +kernel), St.fx hS (by decide +kernel), v, rfl, St.kp hS (by decide) (by decide +kernel) (by decide +kernel), St.kp hS (by decide) (by decide +kernel) (by decide +kernel)⟩
  · refine Tr.imp (Tr.deep (by decide) (sp_X11_fitted_0 hI a1 (by omega))) ?_
    rintro M' _ ⟨hS, v, rfl, hv⟩
    exact ⟨hS.1, XI.st hx hS (by decide +kernel) (by decide +kernel), St.fx hS (by decide +kernel), v, rfl, St.kp hS (by decide) (by decide +kernel) (by decide +kernel), St.kp hS (by decide) (by decide +kernel) (by decide +kernel)⟩

set_option maxRecDepth 100000 in
set_option maxHeartbeats 4000000 in
theorem xu_ask {l : Launch} {K : EC} {xq : Int} {M0 : Mem} (hE : e_all K xq) (hI : In Tru M0) (hx : XI M0) (a1 : Int) (ha1 : (-2147483648) ≤ a1 ∧ a1 ≤ 2147483647) (a2 : Int) (ha2 : (-2147483648) ≤ a2 ∧ a2 ≤ 2147483647) (a3 : Int) (ha3 : (-2147483648) ≤ a3 ∧ a3 ≤ 2147483647) : Tr l K 59 mX11_ask 0 [(0, (2, 0)), (1, (0, a1)), (2, (0, a2)), (3, (0, a3))] [] M0 (fun M' r => In Tru M' ∧ XI M' ∧ FrX M0 M' ∧ ∃ v : Int, r = some (0, v) ∧ ((v = rd M' 113 0 ∧ rd M' 113 0 = rd M0 113 0 + 1 ∧ 0 ≤ a1 ∧ a1 ≤ 200 ∧ 1 ≤ a2 ∧ a2 ≤ 20 ∧ 0 ≤ a3 ∧ a3 ≤ 5 ∧ rd M0 113 0 ≤ 5) ∨ (v = -1 ∧ rd M' 113 0 = rd M0 113 0 ∧ (a1 < 0 ∨ 200 < a1 ∨ a2 < 1 ∨ 20 < a2 ∨ a3 < 0 ∨ 5 < a3 ∨ 6 ≤ rd M0 113 0))) ∧ rd M' 0 1 = rd M0 0 1) := by
  rcases id hx.2 with ⟨e04, e05, hy, e56⟩ | ⟨e04, e05, hy, e56⟩
  · refine Tr.imp (Tr.deep (by decide) (sp_X11_ask_0 hI a1 (by omega) a2 (by omega) a3 (by omega))) ?_
    rintro M' _ ⟨hS, v, rfl, hv⟩
    exact ⟨hS.1, XI.st hx hS (by decide +kernel) (by decide +kernel), St.fx hS (by decide +kernel), v, rfl, hv.2.2, St.kp hS (by decide) (by decide +kernel) (by decide +kernel)⟩
  · refine Tr.imp (Tr.deep (by decide) (sp_X11_ask_0 hI a1 (by omega) a2 (by omega) a3 (by omega))) ?_
    rintro M' _ ⟨hS, v, rfl, hv⟩
    exact ⟨hS.1, XI.st hx hS (by decide +kernel) (by decide +kernel), St.fx hS (by decide +kernel), v, rfl, hv.2.2, St.kp hS (by decide) (by decide +kernel) (by decide +kernel)⟩

set_option maxRecDepth 100000 in
set_option maxHeartbeats 4000000 in
theorem xu_forget {l : Launch} {K : EC} {xq : Int} {M0 : Mem} (hE : e_all K xq) (hI : In Tru M0) (hx : XI M0) : Tr l K 59 mX11_forget 0 [(0, (2, 0))] [] M0 (fun M' r => In Tru M' ∧ XI M' ∧ FrX M0 M' ∧ ∃ v : Int, r = some (0, v) ∧ (v = rd M0 113 0 ∧ rd M' 113 0 = 0) ∧ rd M' 0 1 = rd M0 0 1) := by
  rcases id hx.2 with ⟨e04, e05, hy, e56⟩ | ⟨e04, e05, hy, e56⟩
  · refine Tr.imp (Tr.deep (by decide) (sp_X11_forget_0 hI)) ?_
    rintro M' _ ⟨hS, v, rfl, hv⟩
    exact ⟨hS.1, XI.st hx hS (by decide +kernel) (by decide +kernel), St.fx hS (by decide +kernel), v, rfl, hv.2.2, St.kp hS (by decide) (by decide +kernel) (by decide +kernel)⟩
  · refine Tr.imp (Tr.deep (by decide) (sp_X11_forget_0 hI)) ?_
    rintro M' _ ⟨hS, v, rfl, hv⟩
    exact ⟨hS.1, XI.st hx hS (by decide +kernel) (by decide +kernel), St.fx hS (by decide +kernel), v, rfl, hv.2.2, St.kp hS (by decide) (by decide +kernel) (by decide +kernel)⟩

set_option maxRecDepth 100000 in
set_option maxHeartbeats 4000000 in
theorem xu_together {l : Launch} {K : EC} {xq : Int} {M0 : Mem} (hE : e_all K xq) (hI : In Tru M0) (hx : XI M0) (a1 : Int) (ha1 : (-2147483648) ≤ a1 ∧ a1 ≤ 2147483647) : Tr l K 59 mX11_together 0 [(0, (2, 0)), (1, (0, a1))] [] M0 (fun M' r => In Tru M' ∧ XI M' ∧ FrX M0 M' ∧ ∃ v : Int, r = some (0, v) ∧ rd M' 0 1 = rd M0 0 1 ∧ rd M' 113 0 = rd M0 113 0) := by
  rcases id hx.2 with ⟨e04, e05, hy, e56⟩ | ⟨e04, e05, hy, e56⟩
  · refine Tr.imp (Tr.deep (by decide) (sp_X11_together_0 hI e04 a1 (by omega))) ?_
    rintro M' _ ⟨hS, v, rfl, hv⟩
    exact ⟨hS.1, XI.st hx hS (by decide +kernel) (by decide +kernel), St.fx hS (by decide +kernel), v, rfl, St.kp hS (by decide) (by decide +kernel) (by decide +kernel), St.kp hS (by decide) (by decide +kernel) (by decide +kernel)⟩
  · refine Tr.imp (Tr.deep (by decide) (sp_X11_together_0_w1 hI e04 a1 (by omega))) ?_
    rintro M' _ ⟨hS, v, rfl, hv⟩
    exact ⟨hS.1, XI.st hx hS (by decide +kernel) (by decide +kernel), St.fx hS (by decide +kernel), v, rfl, St.kp hS (by decide) (by decide +kernel) (by decide +kernel), St.kp hS (by decide) (by decide +kernel) (by decide +kernel)⟩

set_option maxRecDepth 100000 in
set_option maxHeartbeats 4000000 in
theorem xu_later {l : Launch} {K : EC} {xq : Int} {M0 : Mem} (hE : e_all K xq) (hI : In Tru M0) (hx : XI M0) (a1 : Int) (ha1 : (-2147483648) ≤ a1 ∧ a1 ≤ 2147483647) : Tr l K 59 mX11_later 0 [(0, (2, 0)), (1, (0, a1))] [] M0 (fun M' r => In Tru M' ∧ XI M' ∧ FrX M0 M' ∧ ∃ v : Int, r = some (0, v) ∧ rd M' 0 1 = rd M0 0 1 ∧ rd M' 113 0 = rd M0 113 0) := by
  rcases id hx.2 with ⟨e04, e05, hy, e56⟩ | ⟨e04, e05, hy, e56⟩
  · refine Tr.imp (Tr.deep (by decide) (sp_X11_later_0 hI a1 (by omega))) ?_
    rintro M' _ ⟨hS, v, rfl, hv⟩
    exact ⟨hS.1, XI.st hx hS (by decide +kernel) (by decide +kernel), St.fx hS (by decide +kernel), v, rfl, St.kp hS (by decide) (by decide +kernel) (by decide +kernel), St.kp hS (by decide) (by decide +kernel) (by decide +kernel)⟩
  · refine Tr.imp (Tr.deep (by decide) (sp_X11_later_0 hI a1 (by omega))) ?_
    rintro M' _ ⟨hS, v, rfl, hv⟩
    exact ⟨hS.1, XI.st hx hS (by decide +kernel) (by decide +kernel), St.fx hS (by decide +kernel), v, rfl, St.kp hS (by decide) (by decide +kernel) (by decide +kernel), St.kp hS (by decide) (by decide +kernel) (by decide +kernel)⟩

set_option maxRecDepth 100000 in
set_option maxHeartbeats 4000000 in
theorem xu_never {l : Launch} {K : EC} {xq : Int} {M0 : Mem} (hE : e_all K xq) (hI : In Tru M0) (hx : XI M0) : Tr l K 59 mX11_never 0 [(0, (2, 0))] [] M0 (fun M' r => In Tru M' ∧ XI M' ∧ FrX M0 M' ∧ ∃ v : Int, r = some (0, v) ∧ rd M' 0 1 = rd M0 0 1 ∧ rd M' 113 0 = rd M0 113 0) := by
  rcases id hx.2 with ⟨e04, e05, hy, e56⟩ | ⟨e04, e05, hy, e56⟩
  · refine Tr.imp (Tr.deep (by decide) (sp_X11_never_0 hI e04)) ?_
    rintro M' _ ⟨hS, v, rfl, hv⟩
    exact ⟨hS.1, XI.st hx hS (by decide +kernel) (by decide +kernel), St.fx hS (by decide +kernel), v, rfl, St.kp hS (by decide) (by decide +kernel) (by decide +kernel), St.kp hS (by decide) (by decide +kernel) (by decide +kernel)⟩
  · refine Tr.imp (Tr.deep (by decide) (sp_X11_never_0_w1 hI e04)) ?_
    rintro M' _ ⟨hS, v, rfl, hv⟩
    exact ⟨hS.1, XI.st hx hS (by decide +kernel) (by decide +kernel), St.fx hS (by decide +kernel), v, rfl, St.kp hS (by decide) (by decide +kernel) (by decide +kernel), St.kp hS (by decide) (by decide +kernel) (by decide +kernel)⟩

set_option maxRecDepth 100000 in
set_option maxHeartbeats 4000000 in
theorem xu_lasts {l : Launch} {K : EC} {xq : Int} {M0 : Mem} (hE : e_all K xq) (hI : In Tru M0) (hx : XI M0) (a1 : Int) (ha1 : (-2147483648) ≤ a1 ∧ a1 ≤ 2147483647) (a2 : Int) (ha2 : (-2147483648) ≤ a2 ∧ a2 ≤ 2147483647) (a3 : Int) (ha3 : (-2147483648) ≤ a3 ∧ a3 ≤ 2147483647) : Tr l K 59 mX11_lasts 0 [(0, (2, 0)), (1, (0, a1)), (2, (0, a2)), (3, (0, a3))] [] M0 (fun M' r => In Tru M' ∧ XI M' ∧ FrX M0 M' ∧ ∃ v : Int, r = some (0, v) ∧ rd M' 0 1 = rd M0 0 1 ∧ rd M' 113 0 = rd M0 113 0) := by
  rcases id hx.2 with ⟨e04, e05, hy, e56⟩ | ⟨e04, e05, hy, e56⟩
  · rcases (show rd M0 0 9 = 0 ∨ rd M0 0 9 = 1 by have := ir_0_9 hI.2.1; omega) with e09 | e09
    · refine Tr.imp (Tr.deep (by decide) (sp_X11_lasts_0 hI e09 a1 (by omega) a2 (by omega) a3 (by omega))) ?_
      rintro M' _ ⟨hS, v, rfl, hv⟩
      exact ⟨hS.1, XI.st hx hS (by decide +kernel) (by decide +kernel), St.fx hS (by decide +kernel), v, rfl, St.kp hS (by decide) (by decide +kernel) (by decide +kernel), St.kp hS (by decide) (by decide +kernel) (by decide +kernel)⟩
    · refine Tr.imp (Tr.deep (by decide) (sp_X11_lasts_0_w1 hI e04 e09 a1 (by omega) a2 (by omega) a3 (by omega))) ?_
      rintro M' _ ⟨hS, v, rfl, hv⟩
      exact ⟨hS.1, XI.st hx hS (by decide +kernel) (by decide +kernel), St.fx hS (by decide +kernel), v, rfl, St.kp hS (by decide) (by decide +kernel) (by decide +kernel), St.kp hS (by decide) (by decide +kernel) (by decide +kernel)⟩
  · rcases (show rd M0 0 9 = 0 ∨ rd M0 0 9 = 1 by have := ir_0_9 hI.2.1; omega) with e09 | e09
    · refine Tr.imp (Tr.deep (by decide) (sp_X11_lasts_0 hI e09 a1 (by omega) a2 (by omega) a3 (by omega))) ?_
      rintro M' _ ⟨hS, v, rfl, hv⟩
      exact ⟨hS.1, XI.st hx hS (by decide +kernel) (by decide +kernel), St.fx hS (by decide +kernel), v, rfl, St.kp hS (by decide) (by decide +kernel) (by decide +kernel), St.kp hS (by decide) (by decide +kernel) (by decide +kernel)⟩
    · refine Tr.imp (Tr.deep (by decide) (sp_X11_lasts_0_w2 hI e04 e09 a1 (by omega) a2 (by omega) a3 (by omega))) ?_
      rintro M' _ ⟨hS, v, rfl, hv⟩
      exact ⟨hS.1, XI.st hx hS (by decide +kernel) (by decide +kernel), St.fx hS (by decide +kernel), v, rfl, St.kp hS (by decide) (by decide +kernel) (by decide +kernel), St.kp hS (by decide) (by decide +kernel) (by decide +kernel)⟩


set_option maxRecDepth 100000 in
set_option maxHeartbeats 4000000 in
theorem mu_feed {l : Launch} {K : EC} {M0 : Mem} (hI : In Tru M0) (hm : MI M0) (a1 : Int) (ha1 : (-2147483648) ≤ a1 ∧ a1 ≤ 2147483647) (a2 : Int) (ha2 : (-2147483648) ≤ a2 ∧ a2 ≤ 2147483647) (a3 : Int) (ha3 : (-2147483648) ≤ a3 ∧ a3 ≤ 2147483647) (a4 : Int) (ha4 : (-2147483648) ≤ a4 ∧ a4 ≤ 2147483647) (a5 : Int) (ha5 : (-2147483648) ≤ a5 ∧ a5 ≤ 2147483647) : Tr l K 59 mX12_feed 0 [(0, (2, 120)), (1, (0, a1)), (2, (0, a2)), (3, (0, a3)), (4, (0, a4)), (5, (0, a5))] [] M0 (fun M' r => In Tru M' ∧ MI M' ∧ FrM M0 M' ∧ ∃ v : Int, r = some (0, v) ∧ ((v = -1 ∧ rd M' 120 1 = rd M0 120 1 ∧ 880 < rd M0 120 1) ∨ (v = rd M' 120 1 ∧ rd M' 120 1 = rd M0 120 1 + 20 ∧ rd M0 120 1 ≤ 880)) ∧ rd M' 120 113 = rd M0 120 113) := by
  refine Tr.imp (Tr.deep (by decide) (sp_X12_feed_120 hI a1 (by omega) a2 (by omega) a3 (by omega) a4 (by omega) a5 (by omega))) ?_
  rintro M' _ ⟨hS, v, rfl, hv⟩
  exact ⟨hS.1, MI.st hm hS (by decide +kernel) ((St.kp hS (by decide) (by decide +kernel) (by decide +kernel)).trans hm.1), St.fm hS (by decide +kernel), v, rfl, hv.2.2, St.kp hS (by decide) (by decide +kernel) (by decide +kernel)⟩

set_option maxRecDepth 100000 in
set_option maxHeartbeats 4000000 in
theorem mu_end {l : Launch} {K : EC} {M0 : Mem} (hI : In Tru M0) (hm : MI M0) (a1 : Int) (ha1 : (-2147483648) ≤ a1 ∧ a1 ≤ 2147483647) : Tr l K 59 mX12_end 0 [(0, (2, 120)), (1, (0, a1))] [] M0 (fun M' r => In Tru M' ∧ MI M' ∧ FrM M0 M' ∧ ∃ v : Int, r = some (0, v) ∧ ((v = 1 ∧ rd M' 120 1 = a1 ∧ 0 ≤ a1 ∧ a1 ≤ rd M0 120 1) ∨ (v = 0 ∧ rd M' 120 1 = rd M0 120 1 ∧ (a1 < 0 ∨ rd M0 120 1 < a1))) ∧ rd M' 120 113 = rd M0 120 113) := by
  refine Tr.imp (Tr.deep (by decide) (sp_X12_end_120 hI a1 (by omega))) ?_
  rintro M' _ ⟨hS, v, rfl, hv⟩
  exact ⟨hS.1, MI.st hm hS (by decide +kernel) ((St.kp hS (by decide) (by decide +kernel) (by decide +kernel)).trans hm.1), St.fm hS (by decide +kernel), v, rfl, hv.2.2, St.kp hS (by decide) (by decide +kernel) (by decide +kernel)⟩

set_option maxRecDepth 100000 in
set_option maxHeartbeats 4000000 in
theorem mu_text {l : Launch} {K : EC} {M0 : Mem} (hI : In Tru M0) (hm : MI M0) : Tr l K 59 mX12_text 0 [(0, (2, 120))] [] M0 (fun M' r => In Tru M' ∧ MI M' ∧ FrM M0 M' ∧ ∃ v : Int, r = some (0, v) ∧ rd M' 120 1 = 0 ∧ rd M' 120 113 = rd M0 120 113) := by
  rcases id hm.2 with ⟨en, hB⟩ | ⟨en, hB⟩
  · refine Tr.imp (Tr.deep (by decide) (sp_X12_text_120 hI en hB)) ?_
    rintro M' _ ⟨hS, v, rfl, hv⟩
    exact ⟨hS.1, MI.tx0 ((St.kp hS (by decide) (by decide +kernel) (by decide +kernel)).trans hm.1) hv.2.2.2, St.fm hS (by decide +kernel), v, rfl, hv.2.2.1, St.kp hS (by decide) (by decide +kernel) (by decide +kernel)⟩
  · refine Tr.imp (Tr.deep (by decide) (sp_X12_text_120_w1 hI en hB)) ?_
    rintro M' _ ⟨hS, v, rfl, hv⟩
    exact ⟨hS.1, MI.tx1 ((St.kp hS (by decide) (by decide +kernel) (by decide +kernel)).trans hm.1) hv.2.2.2, St.fm hS (by decide +kernel), v, rfl, hv.2.2.1, St.kp hS (by decide) (by decide +kernel) (by decide +kernel)⟩

set_option maxRecDepth 100000 in
set_option maxHeartbeats 4000000 in
theorem mu_fault {l : Launch} {K : EC} {M0 : Mem} (hI : In Tru M0) (hm : MI M0) (a1 : Int) (ha1 : (-2147483648) ≤ a1 ∧ a1 ≤ 2147483647) : Tr l K 59 mX12_fault 0 [(0, (2, 120)), (1, (0, a1))] [] M0 (fun M' r => In Tru M' ∧ MI M' ∧ FrM M0 M' ∧ ∃ v : Int, r = some (0, v) ∧ rd M' 120 1 = rd M0 120 1 ∧ rd M' 120 113 = rd M0 120 113) := by
  refine Tr.imp (Tr.deep (by decide) (sp_X12_fault_120 hI a1 (by omega))) ?_
  rintro M' _ ⟨hS, v, rfl, hv⟩
  exact ⟨hS.1, MI.st hm hS (by decide +kernel) ((St.kp hS (by decide) (by decide +kernel) (by decide +kernel)).trans hm.1), St.fm hS (by decide +kernel), v, rfl, St.kp hS (by decide) (by decide +kernel) (by decide +kernel), St.kp hS (by decide) (by decide +kernel) (by decide +kernel)⟩

set_option maxRecDepth 100000 in
set_option maxHeartbeats 4000000 in
theorem mu_has {l : Launch} {K : EC} {M0 : Mem} (hI : In Tru M0) (hm : MI M0) (a1 : Int) (ha1 : (-2147483648) ≤ a1 ∧ a1 ≤ 2147483647) : Tr l K 59 mX12_has 0 [(0, (2, 120)), (1, (0, a1))] [] M0 (fun M' r => In Tru M' ∧ MI M' ∧ FrM M0 M' ∧ ∃ v : Int, r = some (0, v) ∧ rd M' 120 1 = rd M0 120 1 ∧ rd M' 120 113 = rd M0 120 113) := by
  rcases id hm.2 with ⟨en, hB⟩ | ⟨en, hB⟩
  · refine Tr.imp (Tr.deep (by decide) (sp_X12_has_120 hI en a1 (by omega))) ?_
    rintro M' _ ⟨hS, v, rfl, hv⟩
    exact ⟨hS.1, MI.st hm hS (by decide +kernel) ((St.kp hS (by decide) (by decide +kernel) (by decide +kernel)).trans hm.1), St.fm hS (by decide +kernel), v, rfl, St.kp hS (by decide) (by decide +kernel) (by decide +kernel), St.kp hS (by decide) (by decide +kernel) (by decide +kernel)⟩
  · refine Tr.imp (Tr.deep (by decide) (sp_X12_has_120_w1 hI en a1 (by omega))) ?_
    rintro M' _ ⟨hS, v, rfl, hv⟩
    exact ⟨hS.1, MI.st hm hS (by decide +kernel) ((St.kp hS (by decide) (by decide +kernel) (by decide +kernel)).trans hm.1), St.fm hS (by decide +kernel), v, rfl, St.kp hS (by decide) (by decide +kernel) (by decide +kernel), St.kp hS (by decide) (by decide +kernel) (by decide +kernel)⟩

set_option maxRecDepth 100000 in
set_option maxHeartbeats 4000000 in
theorem mu_letter {l : Launch} {K : EC} {M0 : Mem} (hI : In Tru M0) (hm : MI M0) (a1 : Int) (ha1 : (-2147483648) ≤ a1 ∧ a1 ≤ 2147483647) (a2 : Int) (ha2 : (-2147483648) ≤ a2 ∧ a2 ≤ 2147483647) (a3 : Int) (ha3 : (-2147483648) ≤ a3 ∧ a3 ≤ 2147483647) : Tr l K 59 mX12_letter 0 [(0, (2, 120)), (1, (0, a1)), (2, (0, a2)), (3, (0, a3))] [] M0 (fun M' r => In Tru M' ∧ MI M' ∧ FrM M0 M' ∧ ∃ v : Int, r = some (0, v) ∧ rd M' 120 1 = rd M0 120 1 ∧ rd M' 120 113 = rd M0 120 113) := by
  rcases id hm.2 with ⟨en, hB⟩ | ⟨en, hB⟩
  · refine Tr.imp (Tr.deep (by decide) (sp_X12_letter_120 hI en a1 (by omega) a2 (by omega) a3 (by omega))) ?_
    rintro M' _ ⟨hS, v, rfl, hv⟩
    exact ⟨hS.1, MI.st hm hS (by decide +kernel) ((St.kp hS (by decide) (by decide +kernel) (by decide +kernel)).trans hm.1), St.fm hS (by decide +kernel), v, rfl, St.kp hS (by decide) (by decide +kernel) (by decide +kernel), St.kp hS (by decide) (by decide +kernel) (by decide +kernel)⟩
  · refine Tr.imp (Tr.deep (by decide) (sp_X12_letter_120_w1 hI en a1 (by omega) a2 (by omega) a3 (by omega))) ?_
    rintro M' _ ⟨hS, v, rfl, hv⟩
    exact ⟨hS.1, MI.st hm hS (by decide +kernel) ((St.kp hS (by decide) (by decide +kernel) (by decide +kernel)).trans hm.1), St.fm hS (by decide +kernel), v, rfl, St.kp hS (by decide) (by decide +kernel) (by decide +kernel), St.kp hS (by decide) (by decide +kernel) (by decide +kernel)⟩

set_option maxRecDepth 100000 in
set_option maxHeartbeats 4000000 in
theorem mu_put {l : Launch} {K : EC} {M0 : Mem} (hI : In Tru M0) (hm : MI M0) (a1 : Int) (ha1 : (-2147483648) ≤ a1 ∧ a1 ≤ 2147483647) (a2 : Int) (ha2 : (-2147483648) ≤ a2 ∧ a2 ≤ 2147483647) : Tr l K 59 mX12_put_ 0 [(0, (2, 120)), (1, (0, a1)), (2, (0, a2))] [] M0 (fun M' r => In Tru M' ∧ MI M' ∧ FrM M0 M' ∧ ∃ v : Int, r = some (0, v) ∧ rd M' 120 1 = rd M0 120 1 ∧ rd M' 120 113 = rd M0 120 113) := by
  rcases id hm.2 with ⟨en, hB⟩ | ⟨en, hB⟩
  · refine Tr.imp (Tr.deep (by decide) (sp_X12_put__120 hI en a1 (by omega) a2 (by omega))) ?_
    rintro M' _ ⟨hS, v, rfl, hv⟩
    exact ⟨hS.1, MI.st hm hS (by decide +kernel) ((St.kp hS (by decide) (by decide +kernel) (by decide +kernel)).trans hm.1), St.fm hS (by decide +kernel), v, rfl, St.kp hS (by decide) (by decide +kernel) (by decide +kernel), St.kp hS (by decide) (by decide +kernel) (by decide +kernel)⟩
  · refine Tr.imp (Tr.deep (by decide) (sp_X12_put__120_w1 hI en a1 (by omega) a2 (by omega))) ?_
    rintro M' _ ⟨hS, v, rfl, hv⟩
    exact ⟨hS.1, MI.st hm hS (by decide +kernel) ((St.kp hS (by decide) (by decide +kernel) (by decide +kernel)).trans hm.1), St.fm hS (by decide +kernel), v, rfl, St.kp hS (by decide) (by decide +kernel) (by decide +kernel), St.kp hS (by decide) (by decide +kernel) (by decide +kernel)⟩

set_option maxRecDepth 100000 in
set_option maxHeartbeats 4000000 in
theorem mu_run {l : Launch} {K : EC} {M0 : Mem} (hI : In Tru M0) (hm : MI M0) (a1 : Int) (ha1 : (-2147483648) ≤ a1 ∧ a1 ≤ 2147483647) : Tr l K 59 mX12_run 0 [(0, (2, 120)), (1, (0, a1))] [] M0 (fun M' r => In Tru M' ∧ MI M' ∧ FrM M0 M' ∧ ∃ v : Int, r = some (0, v) ∧ rd M' 120 1 = rd M0 120 1 ∧ rd M' 120 113 = rd M0 120 113) := by
  rcases id hm.2 with ⟨en, hB⟩ | ⟨en, hB⟩
  · refine Tr.imp (Tr.deep (by decide) (sp_X12_run_120 hI en a1 (by omega) hm.1 hB)) ?_
    rintro M' _ ⟨hS, v, rfl, hv⟩
    exact ⟨hS.1, MI.st hm hS (by decide +kernel) hv.2.2, St.fm hS (by decide +kernel), v, rfl, St.kp hS (by decide) (by decide +kernel) (by decide +kernel), St.kp hS (by decide) (by decide +kernel) (by decide +kernel)⟩
  · refine Tr.imp (Tr.deep (by decide) (sp_X12_run_120_w1 hI en a1 (by omega) hm.1 hB)) ?_
    rintro M' _ ⟨hS, v, rfl, hv⟩
    exact ⟨hS.1, MI.st hm hS (by decide +kernel) hv.2.2, St.fm hS (by decide +kernel), v, rfl, St.kp hS (by decide) (by decide +kernel) (by decide +kernel), St.kp hS (by decide) (by decide +kernel) (by decide +kernel)⟩

set_option maxRecDepth 100000 in
set_option maxHeartbeats 4000000 in
theorem mu_ran {l : Launch} {K : EC} {M0 : Mem} (hI : In Tru M0) (hm : MI M0) (a1 : Int) (ha1 : (-2147483648) ≤ a1 ∧ a1 ≤ 2147483647) : Tr l K 59 mX12_ran 0 [(0, (2, 120)), (1, (0, a1))] [] M0 (fun M' r => In Tru M' ∧ MI M' ∧ FrM M0 M' ∧ ∃ v : Int, r = some (0, v) ∧ rd M' 120 1 = rd M0 120 1 ∧ rd M' 120 113 = rd M0 120 113) := by
  refine Tr.imp (Tr.deep (by decide) (sp_X12_ran_120 hI a1 (by omega))) ?_
  rintro M' _ ⟨hS, v, rfl, hv⟩
  exact ⟨hS.1, MI.st hm hS (by decide +kernel) ((St.kp hS (by decide) (by decide +kernel) (by decide +kernel)).trans hm.1), St.fm hS (by decide +kernel), v, rfl, St.kp hS (by decide) (by decide +kernel) (by decide +kernel), St.kp hS (by decide) (by decide +kernel) (by decide +kernel)⟩

set_option maxRecDepth 100000 in
set_option maxHeartbeats 4000000 in
theorem mu_value {l : Launch} {K : EC} {M0 : Mem} (hI : In Tru M0) (hm : MI M0) (a1 : Int) (ha1 : (-2147483648) ≤ a1 ∧ a1 ≤ 2147483647) : Tr l K 59 mX12_value 0 [(0, (2, 120)), (1, (0, a1))] [] M0 (fun M' r => In Tru M' ∧ MI M' ∧ FrM M0 M' ∧ ∃ v : Int, r = some (0, v) ∧ rd M' 120 1 = rd M0 120 1 ∧ rd M' 120 113 = rd M0 120 113) := by
  rcases id hm.2 with ⟨en, hB⟩ | ⟨en, hB⟩
  · refine Tr.imp (Tr.deep (by decide) (sp_X12_value_120 hI en a1 (by omega))) ?_
    rintro M' _ ⟨hS, v, rfl, hv⟩
    exact ⟨hS.1, MI.st hm hS (by decide +kernel) ((St.kp hS (by decide) (by decide +kernel) (by decide +kernel)).trans hm.1), St.fm hS (by decide +kernel), v, rfl, St.kp hS (by decide) (by decide +kernel) (by decide +kernel), St.kp hS (by decide) (by decide +kernel) (by decide +kernel)⟩
  · refine Tr.imp (Tr.deep (by decide) (sp_X12_value_120_w1 hI en a1 (by omega))) ?_
    rintro M' _ ⟨hS, v, rfl, hv⟩
    exact ⟨hS.1, MI.st hm hS (by decide +kernel) ((St.kp hS (by decide) (by decide +kernel) (by decide +kernel)).trans hm.1), St.fm hS (by decide +kernel), v, rfl, St.kp hS (by decide) (by decide +kernel) (by decide +kernel), St.kp hS (by decide) (by decide +kernel) (by decide +kernel)⟩

set_option maxRecDepth 100000 in
set_option maxHeartbeats 4000000 in
theorem mu_spent {l : Launch} {K : EC} {M0 : Mem} (hI : In Tru M0) (hm : MI M0) (a1 : Int) (ha1 : (-2147483648) ≤ a1 ∧ a1 ≤ 2147483647) (a2 : Int) (ha2 : (-2147483648) ≤ a2 ∧ a2 ≤ 2147483647) : Tr l K 59 mX12_spent 0 [(0, (2, 120)), (1, (0, a1)), (2, (0, a2))] [] M0 (fun M' r => In Tru M' ∧ MI M' ∧ FrM M0 M' ∧ ∃ v : Int, r = some (0, v) ∧ rd M' 120 1 = rd M0 120 1 ∧ rd M' 120 113 = rd M0 120 113) := by
  rcases id hm.2 with ⟨en, hB⟩ | ⟨en, hB⟩
  · refine Tr.imp (Tr.deep (by decide) (sp_X12_spent_120 hI en a1 (by omega) a2 (by omega))) ?_
    rintro M' _ ⟨hS, v, rfl, hv⟩
    exact ⟨hS.1, MI.st hm hS (by decide +kernel) ((St.kp hS (by decide) (by decide +kernel) (by decide +kernel)).trans hm.1), St.fm hS (by decide +kernel), v, rfl, St.kp hS (by decide) (by decide +kernel) (by decide +kernel), St.kp hS (by decide) (by decide +kernel) (by decide +kernel)⟩
  · refine Tr.imp (Tr.deep (by decide) (sp_X12_spent_120_w1 hI en a1 (by omega) a2 (by omega))) ?_
    rintro M' _ ⟨hS, v, rfl, hv⟩
    exact ⟨hS.1, MI.st hm hS (by decide +kernel) ((St.kp hS (by decide) (by decide +kernel) (by decide +kernel)).trans hm.1), St.fm hS (by decide +kernel), v, rfl, St.kp hS (by decide) (by decide +kernel) (by decide +kernel), St.kp hS (by decide) (by decide +kernel) (by decide +kernel)⟩

set_option maxRecDepth 100000 in
set_option maxHeartbeats 4000000 in
theorem mu_pays {l : Launch} {K : EC} {M0 : Mem} (hI : In Tru M0) (hm : MI M0) (a1 : Int) (ha1 : (-2147483648) ≤ a1 ∧ a1 ≤ 2147483647) (a2 : Int) (ha2 : (-2147483648) ≤ a2 ∧ a2 ≤ 2147483647) : Tr l K 59 mX12_pays 0 [(0, (2, 120)), (1, (0, a1)), (2, (0, a2))] [] M0 (fun M' r => In Tru M' ∧ MI M' ∧ FrM M0 M' ∧ ∃ v : Int, r = some (0, v) ∧ rd M' 120 1 = rd M0 120 1 ∧ rd M' 120 113 = rd M0 120 113) := by
  rcases id hm.2 with ⟨en, hB⟩ | ⟨en, hB⟩
  · refine Tr.imp (Tr.deep (by decide) (sp_X12_pays_120 hI en a1 (by omega) a2 (by omega) hB)) ?_
    rintro M' _ ⟨hS, v, rfl, hv⟩
    exact ⟨hS.1, MI.st hm hS (by decide +kernel) ((St.kp hS (by decide) (by decide +kernel) (by decide +kernel)).trans hm.1), St.fm hS (by decide +kernel), v, rfl, St.kp hS (by decide) (by decide +kernel) (by decide +kernel), St.kp hS (by decide) (by decide +kernel) (by decide +kernel)⟩
  · refine Tr.imp (Tr.deep (by decide) (sp_X12_pays_120_w1 hI en a1 (by omega) a2 (by omega) hB)) ?_
    rintro M' _ ⟨hS, v, rfl, hv⟩
    exact ⟨hS.1, MI.st hm hS (by decide +kernel) ((St.kp hS (by decide) (by decide +kernel) (by decide +kernel)).trans hm.1), St.fm hS (by decide +kernel), v, rfl, St.kp hS (by decide) (by decide +kernel) (by decide +kernel), St.kp hS (by decide) (by decide +kernel) (by decide +kernel)⟩

set_option maxRecDepth 100000 in
set_option maxHeartbeats 4000000 in
theorem mu_stretches {l : Launch} {K : EC} {M0 : Mem} (hI : In Tru M0) (hm : MI M0) (a1 : Int) (ha1 : (-2147483648) ≤ a1 ∧ a1 ≤ 2147483647) : Tr l K 59 mX12_stretches 0 [(0, (2, 120)), (1, (0, a1))] [] M0 (fun M' r => In Tru M' ∧ MI M' ∧ FrM M0 M' ∧ ∃ v : Int, r = some (0, v) ∧ rd M' 120 1 = rd M0 120 1 ∧ rd M' 120 113 = rd M0 120 113) := by
  rcases id hm.2 with ⟨en, hB⟩ | ⟨en, hB⟩
  · refine Tr.imp (Tr.deep (by decide) (sp_X12_stretches_120 hI en a1 (by omega))) ?_
    rintro M' _ ⟨hS, v, rfl, hv⟩
    exact ⟨hS.1, MI.st hm hS (by decide +kernel) ((St.kp hS (by decide) (by decide +kernel) (by decide +kernel)).trans hm.1), St.fm hS (by decide +kernel), v, rfl, St.kp hS (by decide) (by decide +kernel) (by decide +kernel), St.kp hS (by decide) (by decide +kernel) (by decide +kernel)⟩
  · refine Tr.imp (Tr.deep (by decide) (sp_X12_stretches_120_w1 hI en a1 (by omega))) ?_
    rintro M' _ ⟨hS, v, rfl, hv⟩
    exact ⟨hS.1, MI.st hm hS (by decide +kernel) ((St.kp hS (by decide) (by decide +kernel) (by decide +kernel)).trans hm.1), St.fm hS (by decide +kernel), v, rfl, St.kp hS (by decide) (by decide +kernel) (by decide +kernel), St.kp hS (by decide) (by decide +kernel) (by decide +kernel)⟩

set_option maxRecDepth 100000 in
set_option maxHeartbeats 4000000 in
theorem mu_stretch {l : Launch} {K : EC} {M0 : Mem} (hI : In Tru M0) (hm : MI M0) (a1 : Int) (ha1 : (-2147483648) ≤ a1 ∧ a1 ≤ 2147483647) (a2 : Int) (ha2 : (-2147483648) ≤ a2 ∧ a2 ≤ 2147483647) (a3 : Int) (ha3 : (-2147483648) ≤ a3 ∧ a3 ≤ 2147483647) : Tr l K 59 mX12_stretch 0 [(0, (2, 120)), (1, (0, a1)), (2, (0, a2)), (3, (0, a3))] [] M0 (fun M' r => In Tru M' ∧ MI M' ∧ FrM M0 M' ∧ ∃ v : Int, r = some (0, v) ∧ rd M' 120 1 = rd M0 120 1 ∧ rd M' 120 113 = rd M0 120 113) := by
  rcases id hm.2 with ⟨en, hB⟩ | ⟨en, hB⟩
  · refine Tr.imp (Tr.deep (by decide) (sp_X12_stretch_120 hI en a1 (by omega) a2 (by omega) a3 (by omega))) ?_
    rintro M' _ ⟨hS, v, rfl, hv⟩
    exact ⟨hS.1, MI.st hm hS (by decide +kernel) ((St.kp hS (by decide) (by decide +kernel) (by decide +kernel)).trans hm.1), St.fm hS (by decide +kernel), v, rfl, St.kp hS (by decide) (by decide +kernel) (by decide +kernel), St.kp hS (by decide) (by decide +kernel) (by decide +kernel)⟩
  · refine Tr.imp (Tr.deep (by decide) (sp_X12_stretch_120_w1 hI en a1 (by omega) a2 (by omega) a3 (by omega))) ?_
    rintro M' _ ⟨hS, v, rfl, hv⟩
    exact ⟨hS.1, MI.st hm hS (by decide +kernel) ((St.kp hS (by decide) (by decide +kernel) (by decide +kernel)).trans hm.1), St.fm hS (by decide +kernel), v, rfl, St.kp hS (by decide) (by decide +kernel) (by decide +kernel), St.kp hS (by decide) (by decide +kernel) (by decide +kernel)⟩

set_option maxRecDepth 100000 in
set_option maxHeartbeats 4000000 in
theorem mu_lines {l : Launch} {K : EC} {M0 : Mem} (hI : In Tru M0) (hm : MI M0) (a1 : Int) (ha1 : (-2147483648) ≤ a1 ∧ a1 ≤ 2147483647) (a2 : Int) (ha2 : (-2147483648) ≤ a2 ∧ a2 ≤ 2147483647) : Tr l K 59 mX12_lines 0 [(0, (2, 120)), (1, (0, a1)), (2, (0, a2))] [] M0 (fun M' r => In Tru M' ∧ MI M' ∧ FrM M0 M' ∧ ∃ v : Int, r = some (1, v) ∧ rd M' 120 1 = rd M0 120 1 ∧ rd M' 120 113 = rd M0 120 113) := by
  rcases id hm.2 with ⟨en, hB⟩ | ⟨en, hB⟩
  · refine Tr.imp (Tr.deep (by decide) (sp_X12_lines_120 hI en a1 (by omega) a2 (by omega))) ?_
    rintro M' _ ⟨hS, v, rfl, hv⟩
    exact ⟨hS.1, MI.st hm hS (by decide +kernel) ((St.kp hS (by decide) (by decide +kernel) (by decide +kernel)).trans hm.1), St.fm hS (by decide +kernel), v, rfl, St.kp hS (by decide) (by decide +kernel) (by decide +kernel), St.kp hS (by decide) (by decide +kernel) (by decide +kernel)⟩
  · refine Tr.imp (Tr.deep (by decide) (sp_X12_lines_120_w1 hI en a1 (by omega) a2 (by omega))) ?_
    rintro M' _ ⟨hS, v, rfl, hv⟩
    exact ⟨hS.1, MI.st hm hS (by decide +kernel) ((St.kp hS (by decide) (by decide +kernel) (by decide +kernel)).trans hm.1), St.fm hS (by decide +kernel), v, rfl, St.kp hS (by decide) (by decide +kernel) (by decide +kernel), St.kp hS (by decide) (by decide +kernel) (by decide +kernel)⟩

set_option maxRecDepth 100000 in
set_option maxHeartbeats 4000000 in
theorem mu_byTurns {l : Launch} {K : EC} {M0 : Mem} (hI : In Tru M0) (hm : MI M0) (a1 : Int) (ha1 : (-2147483648) ≤ a1 ∧ a1 ≤ 2147483647) (a2 : Int) (ha2 : (-2147483648) ≤ a2 ∧ a2 ≤ 2147483647) (a3 : Int) (ha3 : (-2147483648) ≤ a3 ∧ a3 ≤ 2147483647) (a4 : Int) (ha4 : 0 ≤ a4 ∧ a4 ≤ 1) : Tr l K 59 mX12_byTurns 0 [(0, (2, 120)), (1, (0, a1)), (2, (0, a2)), (3, (0, a3)), (4, (0, a4))] [] M0 (fun M' r => In Tru M' ∧ MI M' ∧ FrM M0 M' ∧ ∃ v : Int, r = some (1, v) ∧ rd M' 120 1 = rd M0 120 1 ∧ rd M' 120 113 = rd M0 120 113) := by
  rcases id hm.2 with ⟨en, hB⟩ | ⟨en, hB⟩
  · refine Tr.imp (Tr.deep (by decide) (sp_X12_byTurns_120 hI en a1 (by omega) a2 (by omega) a3 (by omega) a4 (by omega) hB)) ?_
    rintro M' _ ⟨hS, v, rfl, hv⟩
    exact ⟨hS.1, MI.st hm hS (by decide +kernel) ((St.kp hS (by decide) (by decide +kernel) (by decide +kernel)).trans hm.1), St.fm hS (by decide +kernel), v, rfl, St.kp hS (by decide) (by decide +kernel) (by decide +kernel), St.kp hS (by decide) (by decide +kernel) (by decide +kernel)⟩
  · refine Tr.imp (Tr.deep (by decide) (sp_X12_byTurns_120_w1 hI en a1 (by omega) a2 (by omega) a3 (by omega) a4 (by omega) hB)) ?_
    rintro M' _ ⟨hS, v, rfl, hv⟩
    exact ⟨hS.1, MI.st hm hS (by decide +kernel) ((St.kp hS (by decide) (by decide +kernel) (by decide +kernel)).trans hm.1), St.fm hS (by decide +kernel), v, rfl, St.kp hS (by decide) (by decide +kernel) (by decide +kernel), St.kp hS (by decide) (by decide +kernel) (by decide +kernel)⟩

set_option maxRecDepth 100000 in
set_option maxHeartbeats 4000000 in
theorem mu_wasted {l : Launch} {K : EC} {M0 : Mem} (hI : In Tru M0) (hm : MI M0) (a1 : Int) (ha1 : (-2147483648) ≤ a1 ∧ a1 ≤ 2147483647) : Tr l K 59 mX12_wasted 0 [(0, (2, 120)), (1, (0, a1))] [] M0 (fun M' r => In Tru M' ∧ MI M' ∧ FrM M0 M' ∧ ∃ v : Int, r = some (0, v) ∧ rd M' 120 1 = rd M0 120 1 ∧ rd M' 120 113 = rd M0 120 113) := by
  rcases id hm.2 with ⟨en, hB⟩ | ⟨en, hB⟩
  · refine Tr.imp (Tr.deep (by decide) (sp_X12_wasted_120 hI en a1 (by omega) hB)) ?_
    rintro M' _ ⟨hS, v, rfl, hv⟩
    exact ⟨hS.1, MI.st hm hS (by decide +kernel) ((St.kp hS (by decide) (by decide +kernel) (by decide +kernel)).trans hm.1), St.fm hS (by decide +kernel), v, rfl, St.kp hS (by decide) (by decide +kernel) (by decide +kernel), St.kp hS (by decide) (by decide +kernel) (by decide +kernel)⟩
  · refine Tr.imp (Tr.deep (by decide) (sp_X12_wasted_120_w1 hI en a1 (by omega) hB)) ?_
    rintro M' _ ⟨hS, v, rfl, hv⟩
    exact ⟨hS.1, MI.st hm hS (by decide +kernel) ((St.kp hS (by decide) (by decide +kernel) (by decide +kernel)).trans hm.1), St.fm hS (by decide +kernel), v, rfl, St.kp hS (by decide) (by decide +kernel) (by decide +kernel), St.kp hS (by decide) (by decide +kernel) (by decide +kernel)⟩

set_option maxRecDepth 100000 in
set_option maxHeartbeats 4000000 in
theorem mu_over {l : Launch} {K : EC} {M0 : Mem} (hI : In Tru M0) (hm : MI M0) (a1 : Int) (ha1 : 0 ≤ a1 ∧ a1 ≤ 1) : Tr l K 59 mX12_over 0 [(0, (2, 120)), (1, (0, a1))] [] M0 (fun M' r => In Tru M' ∧ MI M' ∧ FrM M0 M' ∧ ∃ v : Int, r = some (0, v) ∧ rd M' 120 1 = rd M0 120 1 ∧ rd M' 120 113 = rd M0 120 113) := by
  rcases id hm.2 with ⟨en, hB⟩ | ⟨en, hB⟩
  · refine Tr.imp (Tr.deep (by decide) (sp_X12_over_120 hI en a1 (by omega) hm.1 hB)) ?_
    rintro M' _ ⟨hS, v, rfl, hv⟩
    exact ⟨hS.1, MI.st hm hS (by decide +kernel) hv.2.2, St.fm hS (by decide +kernel), v, rfl, St.kp hS (by decide) (by decide +kernel) (by decide +kernel), St.kp hS (by decide) (by decide +kernel) (by decide +kernel)⟩
  · refine Tr.imp (Tr.deep (by decide) (sp_X12_over_120_w1 hI en a1 (by omega) hm.1 hB)) ?_
    rintro M' _ ⟨hS, v, rfl, hv⟩
    exact ⟨hS.1, MI.st hm hS (by decide +kernel) hv.2.2, St.fm hS (by decide +kernel), v, rfl, St.kp hS (by decide) (by decide +kernel) (by decide +kernel), St.kp hS (by decide) (by decide +kernel) (by decide +kernel)⟩

set_option maxRecDepth 100000 in
set_option maxHeartbeats 4000000 in
theorem mu_where {l : Launch} {K : EC} {M0 : Mem} (hI : In Tru M0) (hm : MI M0) (a1 : Int) (ha1 : (-2147483648) ≤ a1 ∧ a1 ≤ 2147483647) : Tr l K 59 mX12_where 0 [(0, (2, 120)), (1, (0, a1))] [] M0 (fun M' r => In Tru M' ∧ MI M' ∧ FrM M0 M' ∧ ∃ v : Int, r = some (0, v) ∧ rd M' 120 1 = rd M0 120 1 ∧ rd M' 120 113 = rd M0 120 113) := by
  rcases id hm.2 with ⟨en, hB⟩ | ⟨en, hB⟩
  · refine Tr.imp (Tr.deep (by decide) (sp_X12_where_120 hI en a1 (by omega))) ?_
    rintro M' _ ⟨hS, v, rfl, hv⟩
    exact ⟨hS.1, MI.st hm hS (by decide +kernel) ((St.kp hS (by decide) (by decide +kernel) (by decide +kernel)).trans hm.1), St.fm hS (by decide +kernel), v, rfl, St.kp hS (by decide) (by decide +kernel) (by decide +kernel), St.kp hS (by decide) (by decide +kernel) (by decide +kernel)⟩
  · refine Tr.imp (Tr.deep (by decide) (sp_X12_where_120_w1 hI en a1 (by omega))) ?_
    rintro M' _ ⟨hS, v, rfl, hv⟩
    exact ⟨hS.1, MI.st hm hS (by decide +kernel) ((St.kp hS (by decide) (by decide +kernel) (by decide +kernel)).trans hm.1), St.fm hS (by decide +kernel), v, rfl, St.kp hS (by decide) (by decide +kernel) (by decide +kernel), St.kp hS (by decide) (by decide +kernel) (by decide +kernel)⟩

set_option maxRecDepth 100000 in
set_option maxHeartbeats 4000000 in
theorem mu_measure {l : Launch} {K : EC} {M0 : Mem} (hI : In Tru M0) (hm : MI M0) (a1 : Int) (ha1 : (-2147483648) ≤ a1 ∧ a1 ≤ 2147483647) : Tr l K 59 mX12_measure 0 [(0, (2, 120)), (1, (0, a1))] [] M0 (fun M' r => In Tru M' ∧ MI M' ∧ FrM M0 M' ∧ ∃ v : Int, r = some (0, v) ∧ rd M' 120 1 = rd M0 120 1 ∧ rd M' 120 113 = rd M0 120 113) := by
  refine Tr.imp (Tr.deep (by decide) (sp_X12_measure_120 hI a1 (by omega))) ?_
  rintro M' _ ⟨hS, v, rfl, hv⟩
  exact ⟨hS.1, MI.st hm hS (by decide +kernel) ((St.kp hS (by decide) (by decide +kernel) (by decide +kernel)).trans hm.1), St.fm hS (by decide +kernel), v, rfl, St.kp hS (by decide) (by decide +kernel) (by decide +kernel), St.kp hS (by decide) (by decide +kernel) (by decide +kernel)⟩

set_option maxRecDepth 100000 in
set_option maxHeartbeats 4000000 in
theorem mu_fit {l : Launch} {K : EC} {M0 : Mem} (hI : In Tru M0) (hm : MI M0) (a1 : Int) (ha1 : (-2147483648) ≤ a1 ∧ a1 ≤ 2147483647) : Tr l K 59 mX12_fit 0 [(0, (2, 120)), (1, (0, a1))] [] M0 (fun M' r => In Tru M' ∧ MI M' ∧ FrM M0 M' ∧ ∃ v : Int, r = some (0, v) ∧ rd M' 120 1 = rd M0 120 1 ∧ rd M' 120 113 = rd M0 120 113) := by
  rcases id hm.2 with ⟨en, hB⟩ | ⟨en, hB⟩
  · refine Tr.imp (Tr.deep (by decide) (sp_X12_fit_120 hI en a1 (by omega) hm.1 hB)) ?_
    rintro M' _ ⟨hS, v, rfl, hv⟩
    exact ⟨hS.1, MI.st hm hS (by decide +kernel) hv.2.2, St.fm hS (by decide +kernel), v, rfl, St.kp hS (by decide) (by decide +kernel) (by decide +kernel), St.kp hS (by decide) (by decide +kernel) (by decide +kernel)⟩
  · refine Tr.imp (Tr.deep (by decide) (sp_X12_fit_120_w1 hI en a1 (by omega) hm.1 hB)) ?_
    rintro M' _ ⟨hS, v, rfl, hv⟩
    exact ⟨hS.1, MI.st hm hS (by decide +kernel) hv.2.2, St.fm hS (by decide +kernel), v, rfl, St.kp hS (by decide) (by decide +kernel) (by decide +kernel), St.kp hS (by decide) (by decide +kernel) (by decide +kernel)⟩

set_option maxRecDepth 100000 in
set_option maxHeartbeats 4000000 in
theorem mu_fitted {l : Launch} {K : EC} {M0 : Mem} (hI : In Tru M0) (hm : MI M0) (a1 : Int) (ha1 : (-2147483648) ≤ a1 ∧ a1 ≤ 2147483647) : Tr l K 59 mX12_fitted 0 [(0, (2, 120)), (1, (0, a1))] [] M0 (fun M' r => In Tru M' ∧ MI M' ∧ FrM M0 M' ∧ ∃ v : Int, r = some (0, v) ∧ rd M' 120 1 = rd M0 120 1 ∧ rd M' 120 113 = rd M0 120 113) := by
  refine Tr.imp (Tr.deep (by decide) (sp_X12_fitted_120 hI a1 (by omega))) ?_
  rintro M' _ ⟨hS, v, rfl, hv⟩
  exact ⟨hS.1, MI.st hm hS (by decide +kernel) ((St.kp hS (by decide) (by decide +kernel) (by decide +kernel)).trans hm.1), St.fm hS (by decide +kernel), v, rfl, St.kp hS (by decide) (by decide +kernel) (by decide +kernel), St.kp hS (by decide) (by decide +kernel) (by decide +kernel)⟩

set_option maxRecDepth 100000 in
set_option maxHeartbeats 4000000 in
theorem mu_ask {l : Launch} {K : EC} {M0 : Mem} (hI : In Tru M0) (hm : MI M0) (a1 : Int) (ha1 : (-2147483648) ≤ a1 ∧ a1 ≤ 2147483647) (a2 : Int) (ha2 : (-2147483648) ≤ a2 ∧ a2 ≤ 2147483647) (a3 : Int) (ha3 : (-2147483648) ≤ a3 ∧ a3 ≤ 2147483647) : Tr l K 59 mX12_ask 0 [(0, (2, 120)), (1, (0, a1)), (2, (0, a2)), (3, (0, a3))] [] M0 (fun M' r => In Tru M' ∧ MI M' ∧ FrM M0 M' ∧ ∃ v : Int, r = some (0, v) ∧ ((v = rd M' 120 113 ∧ rd M' 120 113 = rd M0 120 113 + 1 ∧ 0 ≤ a1 ∧ a1 ≤ 200 ∧ 1 ≤ a2 ∧ a2 ≤ 20 ∧ 0 ≤ a3 ∧ a3 ≤ 5 ∧ rd M0 120 113 ≤ 5) ∨ (v = -1 ∧ rd M' 120 113 = rd M0 120 113 ∧ (a1 < 0 ∨ 200 < a1 ∨ a2 < 1 ∨ 20 < a2 ∨ a3 < 0 ∨ 5 < a3 ∨ 6 ≤ rd M0 120 113))) ∧ rd M' 120 1 = rd M0 120 1) := by
  refine Tr.imp (Tr.deep (by decide) (sp_X12_ask_120 hI a1 (by omega) a2 (by omega) a3 (by omega))) ?_
  rintro M' _ ⟨hS, v, rfl, hv⟩
  exact ⟨hS.1, MI.st hm hS (by decide +kernel) ((St.kp hS (by decide) (by decide +kernel) (by decide +kernel)).trans hm.1), St.fm hS (by decide +kernel), v, rfl, hv.2.2, St.kp hS (by decide) (by decide +kernel) (by decide +kernel)⟩

set_option maxRecDepth 100000 in
set_option maxHeartbeats 4000000 in
theorem mu_forget {l : Launch} {K : EC} {M0 : Mem} (hI : In Tru M0) (hm : MI M0) : Tr l K 59 mX12_forget 0 [(0, (2, 120))] [] M0 (fun M' r => In Tru M' ∧ MI M' ∧ FrM M0 M' ∧ ∃ v : Int, r = some (0, v) ∧ (v = rd M0 120 113 ∧ rd M' 120 113 = 0) ∧ rd M' 120 1 = rd M0 120 1) := by
  refine Tr.imp (Tr.deep (by decide) (sp_X12_forget_120 hI)) ?_
  rintro M' _ ⟨hS, v, rfl, hv⟩
  exact ⟨hS.1, MI.st hm hS (by decide +kernel) ((St.kp hS (by decide) (by decide +kernel) (by decide +kernel)).trans hm.1), St.fm hS (by decide +kernel), v, rfl, hv.2.2, St.kp hS (by decide) (by decide +kernel) (by decide +kernel)⟩

set_option maxRecDepth 100000 in
set_option maxHeartbeats 4000000 in
theorem mu_together {l : Launch} {K : EC} {M0 : Mem} (hI : In Tru M0) (hm : MI M0) (a1 : Int) (ha1 : (-2147483648) ≤ a1 ∧ a1 ≤ 2147483647) : Tr l K 59 mX12_together 0 [(0, (2, 120)), (1, (0, a1))] [] M0 (fun M' r => In Tru M' ∧ MI M' ∧ FrM M0 M' ∧ ∃ v : Int, r = some (0, v) ∧ rd M' 120 1 = rd M0 120 1 ∧ rd M' 120 113 = rd M0 120 113) := by
  rcases id hm.2 with ⟨en, hB⟩ | ⟨en, hB⟩
  · refine Tr.imp (Tr.deep (by decide) (sp_X12_together_120 hI en a1 (by omega) hB)) ?_
    rintro M' _ ⟨hS, v, rfl, hv⟩
    exact ⟨hS.1, MI.st hm hS (by decide +kernel) ((St.kp hS (by decide) (by decide +kernel) (by decide +kernel)).trans hm.1), St.fm hS (by decide +kernel), v, rfl, St.kp hS (by decide) (by decide +kernel) (by decide +kernel), St.kp hS (by decide) (by decide +kernel) (by decide +kernel)⟩
  · refine Tr.imp (Tr.deep (by decide) (sp_X12_together_120_w1 hI en a1 (by omega) hB)) ?_
    rintro M' _ ⟨hS, v, rfl, hv⟩
    exact ⟨hS.1, MI.st hm hS (by decide +kernel) ((St.kp hS (by decide) (by decide +kernel) (by decide +kernel)).trans hm.1), St.fm hS (by decide +kernel), v, rfl, St.kp hS (by decide) (by decide +kernel) (by decide +kernel), St.kp hS (by decide) (by decide +kernel) (by decide +kernel)⟩

set_option maxRecDepth 100000 in
set_option maxHeartbeats 4000000 in
theorem mu_later {l : Launch} {K : EC} {M0 : Mem} (hI : In Tru M0) (hm : MI M0) (a1 : Int) (ha1 : (-2147483648) ≤ a1 ∧ a1 ≤ 2147483647) : Tr l K 59 mX12_later 0 [(0, (2, 120)), (1, (0, a1))] [] M0 (fun M' r => In Tru M' ∧ MI M' ∧ FrM M0 M' ∧ ∃ v : Int, r = some (0, v) ∧ rd M' 120 1 = rd M0 120 1 ∧ rd M' 120 113 = rd M0 120 113) := by
  refine Tr.imp (Tr.deep (by decide) (sp_X12_later_120 hI a1 (by omega))) ?_
  rintro M' _ ⟨hS, v, rfl, hv⟩
  exact ⟨hS.1, MI.st hm hS (by decide +kernel) ((St.kp hS (by decide) (by decide +kernel) (by decide +kernel)).trans hm.1), St.fm hS (by decide +kernel), v, rfl, St.kp hS (by decide) (by decide +kernel) (by decide +kernel), St.kp hS (by decide) (by decide +kernel) (by decide +kernel)⟩

set_option maxRecDepth 100000 in
set_option maxHeartbeats 4000000 in
theorem mu_never {l : Launch} {K : EC} {M0 : Mem} (hI : In Tru M0) (hm : MI M0) : Tr l K 59 mX12_never 0 [(0, (2, 120))] [] M0 (fun M' r => In Tru M' ∧ MI M' ∧ FrM M0 M' ∧ ∃ v : Int, r = some (0, v) ∧ rd M' 120 1 = rd M0 120 1 ∧ rd M' 120 113 = rd M0 120 113) := by
  rcases id hm.2 with ⟨en, hB⟩ | ⟨en, hB⟩
  · refine Tr.imp (Tr.deep (by decide) (sp_X12_never_120 hI en)) ?_
    rintro M' _ ⟨hS, v, rfl, hv⟩
    exact ⟨hS.1, MI.st hm hS (by decide +kernel) ((St.kp hS (by decide) (by decide +kernel) (by decide +kernel)).trans hm.1), St.fm hS (by decide +kernel), v, rfl, St.kp hS (by decide) (by decide +kernel) (by decide +kernel), St.kp hS (by decide) (by decide +kernel) (by decide +kernel)⟩
  · refine Tr.imp (Tr.deep (by decide) (sp_X12_never_120_w1 hI en)) ?_
    rintro M' _ ⟨hS, v, rfl, hv⟩
    exact ⟨hS.1, MI.st hm hS (by decide +kernel) ((St.kp hS (by decide) (by decide +kernel) (by decide +kernel)).trans hm.1), St.fm hS (by decide +kernel), v, rfl, St.kp hS (by decide) (by decide +kernel) (by decide +kernel), St.kp hS (by decide) (by decide +kernel) (by decide +kernel)⟩

set_option maxRecDepth 100000 in
set_option maxHeartbeats 4000000 in
theorem mu_lasts {l : Launch} {K : EC} {M0 : Mem} (hI : In Tru M0) (hm : MI M0) (a1 : Int) (ha1 : (-2147483648) ≤ a1 ∧ a1 ≤ 2147483647) (a2 : Int) (ha2 : (-2147483648) ≤ a2 ∧ a2 ≤ 2147483647) (a3 : Int) (ha3 : (-2147483648) ≤ a3 ∧ a3 ≤ 2147483647) : Tr l K 59 mX12_lasts 0 [(0, (2, 120)), (1, (0, a1)), (2, (0, a2)), (3, (0, a3))] [] M0 (fun M' r => In Tru M' ∧ MI M' ∧ FrM M0 M' ∧ ∃ v : Int, r = some (0, v) ∧ rd M' 120 1 = rd M0 120 1 ∧ rd M' 120 113 = rd M0 120 113) := by
  rcases id hm.2 with ⟨en, hB⟩ | ⟨en, hB⟩
  · refine Tr.imp (Tr.deep (by decide) (sp_X12_lasts_120 hI en a1 (by omega) a2 (by omega) a3 (by omega) hB)) ?_
    rintro M' _ ⟨hS, v, rfl, hv⟩
    exact ⟨hS.1, MI.st hm hS (by decide +kernel) ((St.kp hS (by decide) (by decide +kernel) (by decide +kernel)).trans hm.1), St.fm hS (by decide +kernel), v, rfl, St.kp hS (by decide) (by decide +kernel) (by decide +kernel), St.kp hS (by decide) (by decide +kernel) (by decide +kernel)⟩
  · refine Tr.imp (Tr.deep (by decide) (sp_X12_lasts_120_w1 hI en a1 (by omega) a2 (by omega) a3 (by omega) hB)) ?_
    rintro M' _ ⟨hS, v, rfl, hv⟩
    exact ⟨hS.1, MI.st hm hS (by decide +kernel) ((St.kp hS (by decide) (by decide +kernel) (by decide +kernel)).trans hm.1), St.fm hS (by decide +kernel), v, rfl, St.kp hS (by decide) (by decide +kernel) (by decide +kernel), St.kp hS (by decide) (by decide +kernel) (by decide +kernel)⟩

