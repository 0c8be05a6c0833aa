def ws_X2_clear_107 : List (Int × Int) := [(107, 0), (107, 1)]
def as_X2_clear_107 : List Int := []
def q_X2_clear_107 (M0 M' : Mem) (r : Option PV) : Prop := St Tru ws_X2_clear_107 as_X2_clear_107 M0 M' ∧ r = none
set_option maxRecDepth 100000 in
set_option maxHeartbeats 4000000 in
theorem sp_X2_clear_107 {l : Launch} {K : EC} {M0 : Mem} (hI : In Tru M0)    : Tr l K 0 mX2_clear 0 [(0, (2, 107))] [] M0 (q_X2_clear_107 M0) := by
  have hS : St Tru ws_X2_clear_107 as_X2_clear_107 M0 M0 := St.rf hI
  refine Tr.aload_n (pc := 0) (i := 0) d_X2_clear_0 rfl rfl ?_
  refine Tr.iconst (pc := 1) d_X2_clear_1 (by decide) ?_
  refine Tr.putfS (pc := 2) (P := St Tru ws_X2_clear_107 as_X2_clear_107 M0) d_X2_clear_2 f_2_27 (by decide) (by decide) (ty_107 hS.1.1) (st_107_0 hS (by decide) (by omega) trivial) (fun M2 hS w2 => ?_)
  refine Tr.aload_n (pc := 5) (i := 0) d_X2_clear_5 rfl rfl ?_
  refine Tr.iconst (pc := 6) d_X2_clear_6 (by decide) ?_
  refine Tr.putzS (pc := 7) (P := St Tru ws_X2_clear_107 as_X2_clear_107 M0) d_X2_clear_7 f_2_31 (by decide) (ty_107 hS.1.1) (by omega) (st_107_1 hS (by decide) (by omega) trivial) (fun M7 hS w7 => ?_)
  exact Tr.vret (pc := 10) d_X2_clear_10 rfl ⟨hS, rfl⟩

