def ws_X0_shiftSum_113 : List (Int × Int) := []
def as_X0_shiftSum_113 : List Int := []
def q_X0_shiftSum_113 (M0 M' : Mem) (r : Option PV) : Prop := St Tru ws_X0_shiftSum_113 as_X0_shiftSum_113 M0 M' ∧ ∃ v : Int, r = some (0, v) ∧ (-2147483648) ≤ v ∧ v ≤ 2147483647
set_option maxRecDepth 100000 in
set_option maxHeartbeats 4000000 in
theorem sp_X0_shiftSum_113 {l : Launch} {K : EC} {M0 : Mem} (hI : In Tru M0)    : Tr l K 0 mX0_shiftSum 0 [(0, (2, 113))] [] M0 (q_X0_shiftSum_113 M0) := by
  have hS : St Tru ws_X0_shiftSum_113 as_X0_shiftSum_113 M0 M0 := St.rf hI
  refine Tr.iconst (pc := 0) d_X0_shiftSum_0 (by decide) ?_
  refine Tr.istore_n (pc := 1) (i := 1) (ls2 := [(1, (0, 0)), (0, (2, 113))]) d_X0_shiftSum_1 rfl (by decide) rfl ?_
  refine Tr.iconst (pc := 2) d_X0_shiftSum_2 (by decide) ?_
  refine Tr.istore_n (pc := 3) (i := 2) (ls2 := [(2, (0, 0)), (1, (0, 0)), (0, (2, 113))]) d_X0_shiftSum_3 rfl (by decide) rfl ?_
  have J4 : ∀ (n4 : Nat) (M : Mem) (p4_1 p4_2 : Int), St Tru ws_X0_shiftSum_113 as_X0_shiftSum_113 M0 M → ((-2147483648) ≤ p4_1 ∧ p4_1 ≤ 2147483647) → (0 ≤ p4_2 ∧ p4_2 ≤ 6) → (6 - p4_2).toNat < n4 → Tr l K 0 mX0_shiftSum 4 [(0, (2, 113)), (1, (0, p4_1)), (2, (0, p4_2))] [] M (q_X0_shiftSum_113 M0) := by
    intro n4
    induction n4 with
    | zero => intro M p4_1 p4_2 hS bp4_1 bp4_2  hm4; exact absurd hm4 (Nat.not_lt_zero _)
    | succ n4 J4 =>
      intro M p4_1 p4_2 hS bp4_1 bp4_2  hm4
      refine Tr.iload_n (pc := 4) (i := 2) d_X0_shiftSum_4 rfl rfl ?_
      refine Tr.aload_n (pc := 5) (i := 0) d_X0_shiftSum_5 rfl rfl ?_
      refine Tr.getf (pc := 6) d_X0_shiftSum_6 f_0_30 (by decide) (by decide) (ty_113 hS.1.1) ?_
      refine Tr.gen (P := fun v => 0 ≤ v ∧ v ≤ 6) (ir_113_0 hS.1.2.1) (fun r6 er6 br6 => ?_)
      refine Tr.icmp_ge (pc := 9) (tgt := 27) d_X0_shiftSum_9 rfl (fun c9 => ?_) (fun c9 => ?_)
      · refine Tr.iload_n (pc := 27) (i := 1) d_X0_shiftSum_27 rfl rfl ?_
        exact Tr.iret (pc := 28) d_X0_shiftSum_28 rfl ⟨hS, _, rfl, by omega, by omega⟩
      · refine Tr.iload_n (pc := 12) (i := 1) d_X0_shiftSum_12 rfl rfl ?_
        refine Tr.aload_n (pc := 13) (i := 0) d_X0_shiftSum_13 rfl rfl ?_
        refine Tr.getf (pc := 14) d_X0_shiftSum_14 f_0_21 (by decide) (by decide) (ty_113 hS.1.1) ?_
        refine Tr.tp 117 (fx_113_4 hS.1.1) ?_
        refine Tr.iload_n (pc := 17) (i := 2) d_X0_shiftSum_17 rfl rfl ?_
        refine Tr.iald (pc := 18) d_X0_shiftSum_18 (ty_117 hS.1.1) (by omega) (by omega) ?_
        refine Tr.gen (P := fun v => 0 ≤ v ∧ v ≤ 5) (ar_117 hS.1.2.1 _) (fun r18 er18 br18 => ?_)
        refine Tr.iadd (pc := 19) d_X0_shiftSum_19 ?_
        refine Tr.gen (P := fun v => (-2147483648) ≤ v ∧ v ≤ 2147483647) (w32_b _) (fun r19 er19 br19 => ?_)
        refine Tr.istore_n (pc := 20) (i := 1) (ls2 := [(1, (0, r19)), (0, (2, 113)), (2, (0, p4_2))]) d_X0_shiftSum_20 rfl (by decide) rfl ?_
        refine Tr.iincV (pc := 21) (n2 := (p4_2 + 1)) (ls2 := [(2, (0, (p4_2 + 1))), (1, (0, r19)), (0, (2, 113))]) d_X0_shiftSum_21 rfl (by decide) ((w32_id (by omega)).trans (by omega)) rfl ?_
        refine Tr.goto (pc := 24) (tgt := 4) d_X0_shiftSum_24 rfl ?_
        refine Tr.pick [2, 1, 0] (ls2 := [(0, (2, 113)), (1, (0, r19)), (2, (0, (p4_2 + 1)))]) rfl ?_
        exact J4 _ _ _ hS (by omega) (by omega) (by omega)
  refine Tr.pick [2, 1, 0] (ls2 := [(0, (2, 113)), (1, (0, 0)), (2, (0, 0))]) rfl ?_
  exact J4 _ _ _ _ hS (by omega) (by omega) (Nat.lt_succ_self _)

def ws_X0_turnOn_113 : List (Int × Int) := []
def as_X0_turnOn_113 : List Int := [117]
def q_X0_turnOn_113 (M0 M' : Mem) (r : Option PV) : Prop := St Tru ws_X0_turnOn_113 as_X0_turnOn_113 M0 M' ∧ ∃ v : Int, r = some (0, v) ∧ 0 ≤ v ∧ v ≤ 1
set_option maxRecDepth 100000 in
set_option maxHeartbeats 4000000 in
theorem sp_X0_turnOn_113 {l : Launch} {K : EC} {M0 : Mem} (hI : In Tru M0)    : Tr l K 0 mX0_turnOn 0 [(0, (2, 113))] [] M0 (q_X0_turnOn_113 M0) := by
  have hS : St Tru ws_X0_turnOn_113 as_X0_turnOn_113 M0 M0 := St.rf hI
  refine Tr.aload_n (pc := 0) (i := 0) d_X0_turnOn_0 rfl rfl ?_
  refine Tr.getf (pc := 1) d_X0_turnOn_1 f_0_30 (by decide) (by decide) (ty_113 hS.1.1) ?_
  refine Tr.gen (P := fun v => 0 ≤ v ∧ v ≤ 6) (ir_113_0 hS.1.2.1) (fun r1 er1 br1 => ?_)
  refine Tr.iconst (pc := 4) d_X0_turnOn_4 (by decide) ?_
  refine Tr.isub (pc := 5) d_X0_turnOn_5 ?_
  refine Tr.tp (r1 - 1) ((w32_id (by omega)).trans (by omega)) ?_
  refine Tr.istore_n (pc := 6) (i := 1) (ls2 := [(1, (0, (r1 - 1))), (0, (2, 113))]) d_X0_turnOn_6 rfl (by decide) rfl ?_
  have J7 : ∀ (n7 : Nat) (M : Mem) (p7_1 : Int), St Tru ws_X0_turnOn_113 as_X0_turnOn_113 M0 M → ((-1) ≤ p7_1 ∧ p7_1 ≤ 5) → rd M 113 0 = r1 → (p7_1 - (-1)).toNat < n7 → Tr l K 0 mX0_turnOn 7 [(0, (2, 113)), (1, (0, p7_1))] [] M (q_X0_turnOn_113 M0) := by
    intro n7
    induction n7 with
    | zero => intro M p7_1 hS bp7_1 k7_113_0 hm7; exact absurd hm7 (Nat.not_lt_zero _)
    | succ n7 J7 =>
      intro M p7_1 hS bp7_1 k7_113_0 hm7
      refine Tr.iload_n (pc := 7) (i := 1) d_X0_turnOn_7 rfl rfl ?_
      refine Tr.if_lt (pc := 8) (tgt := 51) d_X0_turnOn_8 rfl (fun c8 => ?_) (fun c8 => ?_)
      · refine Tr.iconst (pc := 51) d_X0_turnOn_51 (by decide) ?_
        exact Tr.zret (pc := 52) d_X0_turnOn_52 rfl (by omega) ⟨hS, _, rfl, by omega, by omega⟩
      · refine Tr.aload_n (pc := 11) (i := 0) d_X0_turnOn_11 rfl rfl ?_
        refine Tr.getf (pc := 12) d_X0_turnOn_12 f_0_21 (by decide) (by decide) (ty_113 hS.1.1) ?_
        refine Tr.tp 117 (fx_113_4 hS.1.1) ?_
        refine Tr.iload_n (pc := 15) (i := 1) d_X0_turnOn_15 rfl rfl ?_
        refine Tr.iald (pc := 16) d_X0_turnOn_16 (ty_117 hS.1.1) (by omega) (by omega) ?_
        refine Tr.gen (P := fun v => 0 ≤ v ∧ v ≤ 5) (ar_117 hS.1.2.1 _) (fun r16 er16 br16 => ?_)
        refine Tr.aload_n (pc := 17) (i := 0) d_X0_turnOn_17 rfl rfl ?_
        refine Tr.getf (pc := 18) d_X0_turnOn_18 f_0_18 (by decide) (by decide) (ty_113 hS.1.1) ?_
        refine Tr.tp 116 (fx_113_3 hS.1.1) ?_
        refine Tr.iload_n (pc := 21) (i := 1) d_X0_turnOn_21 rfl rfl ?_
        refine Tr.iald (pc := 22) d_X0_turnOn_22 (ty_116 hS.1.1) (by omega) (by omega) ?_
        refine Tr.gen (P := fun v => 0 ≤ v ∧ v ≤ 5) (ar_116 hS.1.2.1 _) (fun r22 er22 br22 => ?_)
        refine Tr.icmp_ge (pc := 23) (tgt := 38) d_X0_turnOn_23 rfl (fun c23 => ?_) (fun c23 => ?_)
        · refine Tr.aload_n (pc := 38) (i := 0) d_X0_turnOn_38 rfl rfl ?_
          refine Tr.getf (pc := 39) d_X0_turnOn_39 f_0_21 (by decide) (by decide) (ty_113 hS.1.1) ?_
          refine Tr.tp 117 (fx_113_4 hS.1.1) ?_
          refine Tr.iload_n (pc := 42) (i := 1) d_X0_turnOn_42 rfl rfl ?_
          refine Tr.iconst (pc := 43) d_X0_turnOn_43 (by decide) ?_
          refine Tr.iastS (pc := 44) (P := St Tru ws_X0_turnOn_113 as_X0_turnOn_113 M0) d_X0_turnOn_44 (ty_117 hS.1.1) (by omega) (by omega) (sa_117 hS (by decide) (by omega) trivial) (fun M44 hS w44 => ?_)
          refine Tr.iincV (pc := 45) (n2 := (p7_1 - 1)) (ls2 := [(1, (0, (p7_1 - 1))), (0, (2, 113))]) d_X0_turnOn_45 rfl (by decide) ((w32_id (by omega)).trans (by omega)) rfl ?_
          refine Tr.goto (pc := 48) (tgt := 7) d_X0_turnOn_48 rfl ?_
          refine Tr.pick [1, 0] (ls2 := [(0, (2, 113)), (1, (0, (p7_1 - 1)))]) rfl ?_
          exact J7 _ _ hS (by omega) ((Wr.b w44 rfl).trans k7_113_0) (by omega)
        · refine Tr.aload_n (pc := 26) (i := 0) d_X0_turnOn_26 rfl rfl ?_
          refine Tr.getf (pc := 27) d_X0_turnOn_27 f_0_21 (by decide) (by decide) (ty_113 hS.1.1) ?_
          refine Tr.tp 117 (fx_113_4 hS.1.1) ?_
          refine Tr.iload_n (pc := 30) (i := 1) d_X0_turnOn_30 rfl rfl ?_
          refine Tr.dup2 (pc := 31) d_X0_turnOn_31 ne01 ne21 ?_
          refine Tr.iald (pc := 32) d_X0_turnOn_32 (ty_117 hS.1.1) (by omega) (by omega) ?_
          refine Tr.tp r16 er16 ?_
          refine Tr.iconst (pc := 33) d_X0_turnOn_33 (by decide) ?_
          refine Tr.iadd (pc := 34) d_X0_turnOn_34 ?_
          refine Tr.tp (r16 + 1) ((w32_id (by omega)).trans (by omega)) ?_
          refine Tr.iastS (pc := 35) (P := St Tru ws_X0_turnOn_113 as_X0_turnOn_113 M0) d_X0_turnOn_35 (ty_117 hS.1.1) (by omega) (by omega) (sa_117 hS (by decide) (by omega) trivial) (fun M35 hS w35 => ?_)
          refine Tr.iconst (pc := 36) d_X0_turnOn_36 (by decide) ?_
          exact Tr.zret (pc := 37) d_X0_turnOn_37 rfl (by omega) ⟨hS, _, rfl, by omega, by omega⟩
  refine Tr.pick [1, 0] (ls2 := [(0, (2, 113)), (1, (0, (r1 - 1)))]) rfl ?_
  exact J7 _ _ _ hS (by omega) er1 (Nat.lt_succ_self _)

def ws_X0_arrange_113 : List (Int × Int) := [(113, 7)]
def as_X0_arrange_113 : List Int := [117, 118, 119]
def q_X0_arrange_113 (M0 M' : Mem) (r : Option PV) : Prop := St Tru ws_X0_arrange_113 as_X0_arrange_113 M0 M' ∧ ∃ v : Int, r = some (0, v) ∧ (-2147483648) ≤ v ∧ v ≤ 2147483647
set_option maxRecDepth 100000 in
set_option maxHeartbeats 4000000 in
theorem sp_X0_arrange_113 {l : Launch} {K : EC} {M0 : Mem} (hI : In Tru M0)  (a1 : Int) (ha1 : (-1) ≤ a1 ∧ a1 ≤ 999) (a2 : Int) (ha2 : (-2147483648) ≤ a2 ∧ a2 ≤ 2147483647) (a3 : Int) (ha3 : 0 ≤ a3 ∧ a3 ≤ 50)  : Tr l K 2 mX0_arrange 0 [(0, (2, 113)), (1, (0, a1)), (2, (0, a2)), (3, (0, a3))] [] M0 (q_X0_arrange_113 M0) := by
  have hS : St Tru ws_X0_arrange_113 as_X0_arrange_113 M0 M0 := St.rf hI
  refine Tr.iconst (pc := 0) d_X0_arrange_0 (by decide) ?_
  refine Tr.istore (pc := 1) (i := 4) (ls2 := [(4, (0, 0)), (0, (2, 113)), (1, (0, a1)), (2, (0, a2)), (3, (0, a3))]) d_X0_arrange_1 (by decide) rfl ?_
  have J3 : ∀ (n3 : Nat) (M : Mem) (p3_4 : Int), St Tru ws_X0_arrange_113 as_X0_arrange_113 M0 M → (0 ≤ p3_4 ∧ p3_4 ≤ 6) → (6 - p3_4).toNat < n3 → Tr l K 2 mX0_arrange 3 [(0, (2, 113)), (1, (0, a1)), (2, (0, a2)), (3, (0, a3)), (4, (0, p3_4))] [] M (q_X0_arrange_113 M0) := by
    intro n3
    induction n3 with
    | zero => intro M p3_4 hS bp3_4  hm3; exact absurd hm3 (Nat.not_lt_zero _)
    | succ n3 J3 =>
      intro M p3_4 hS bp3_4  hm3
      refine Tr.iload (pc := 3) (i := 4) d_X0_arrange_3 rfl ?_
      refine Tr.aload_n (pc := 5) (i := 0) d_X0_arrange_5 rfl rfl ?_
      refine Tr.getf (pc := 6) d_X0_arrange_6 f_0_30 (by decide) (by decide) (ty_113 hS.1.1) ?_
      refine Tr.gen (P := fun v => 0 ≤ v ∧ v ≤ 6) (ir_113_0 hS.1.2.1) (fun r6 er6 br6 => ?_)
      refine Tr.icmp_ge (pc := 9) (tgt := 35) d_X0_arrange_9 rfl (fun c9 => ?_) (fun c9 => ?_)
      · refine Tr.aload_n (pc := 35) (i := 0) d_X0_arrange_35 rfl rfl ?_
        refine Tr.aload_n (pc := 36) (i := 0) d_X0_arrange_36 rfl rfl ?_
        refine Tr.getf (pc := 37) d_X0_arrange_37 f_0_30 (by decide) (by decide) (ty_113 hS.1.1) ?_
        refine Tr.tp r6 er6 ?_
        refine Tr.putfS (pc := 40) (P := St Tru ws_X0_arrange_113 as_X0_arrange_113 M0) d_X0_arrange_40 f_0_34 (by decide) (by decide) (ty_113 hS.1.1) (st_113_7 hS (by decide) (by omega) trivial) (fun M40 hS w40 => ?_)
        refine Tr.iconst (pc := 43) d_X0_arrange_43 (by decide) ?_
        refine Tr.istore (pc := 44) (i := 4) (ls2 := [(4, (0, 0)), (0, (2, 113)), (1, (0, a1)), (2, (0, a2)), (3, (0, a3))]) d_X0_arrange_44 (by decide) rfl ?_
        refine Tr.iconst (pc := 46) d_X0_arrange_46 (by decide) ?_
        refine Tr.istore (pc := 47) (i := 5) (ls2 := [(5, (0, 0)), (4, (0, 0)), (0, (2, 113)), (1, (0, a1)), (2, (0, a2)), (3, (0, a3))]) d_X0_arrange_47 (by decide) rfl ?_
        refine Tr.iconst (pc := 49) d_X0_arrange_49 (by decide) ?_
        refine Tr.istore (pc := 50) (i := 6) (ls2 := [(6, (0, 1)), (5, (0, 0)), (4, (0, 0)), (0, (2, 113)), (1, (0, a1)), (2, (0, a2)), (3, (0, a3))]) d_X0_arrange_50 (by decide) rfl ?_
        refine Tr.iconst (pc := 52) d_X0_arrange_52 (by decide) ?_
        refine Tr.istore (pc := 53) (i := 7) (ls2 := [(7, (0, 0)), (6, (0, 1)), (5, (0, 0)), (4, (0, 0)), (0, (2, 113)), (1, (0, a1)), (2, (0, a2)), (3, (0, a3))]) d_X0_arrange_53 (by decide) rfl ?_
        have J55 : ∀ (n55 : Nat) (M : Mem) (p55_4 p55_5 p55_6 p55_7 : Int), St Tru ws_X0_arrange_113 as_X0_arrange_113 M0 M → ((-2147483648) ≤ p55_4 ∧ p55_4 ≤ 2147483647) → ((-2147483648) ≤ p55_5 ∧ p55_5 ≤ 2147483647) → (0 ≤ p55_6 ∧ p55_6 ≤ 1) → (0 ≤ p55_7 ∧ p55_7 ≤ 46656) → rd M 113 0 = r6 → rd M 113 7 = r6 → (46656 - p55_7).toNat < n55 → Tr l K 2 mX0_arrange 55 [(0, (2, 113)), (1, (0, a1)), (2, (0, a2)), (3, (0, a3)), (4, (0, p55_4)), (5, (0, p55_5)), (6, (0, p55_6)), (7, (0, p55_7))] [] M (q_X0_arrange_113 M0) := by
          intro n55
          induction n55 with
          | zero => intro M p55_4 p55_5 p55_6 p55_7 hS bp55_4 bp55_5 bp55_6 bp55_7 k55_113_0 k55_113_7 hm55; exact absurd hm55 (Nat.not_lt_zero _)
          | succ n55 J55 =>
            intro M p55_4 p55_5 p55_6 p55_7 hS bp55_4 bp55_5 bp55_6 bp55_7 k55_113_0 k55_113_7 hm55
            refine Tr.iload (pc := 55) (i := 7) d_X0_arrange_55 rfl ?_
            refine Tr.ldc (pc := 57) d_X0_arrange_57 k_0_37 (by decide) ?_
            refine Tr.icmp_ge (pc := 59) (tgt := 145) d_X0_arrange_59 rfl (fun c59 => ?_) (fun c59 => ?_)
            · refine Tr.iload (pc := 145) (i := 4) d_X0_arrange_145 rfl ?_
              exact Tr.iret (pc := 147) d_X0_arrange_147 rfl ⟨hS, _, rfl, by omega, by omega⟩
            · refine Tr.iload (pc := 62) (i := 6) d_X0_arrange_62 rfl ?_
              refine Tr.if_eq (pc := 64) (tgt := 145) d_X0_arrange_64 rfl (fun c64 => ?_) (fun c64 => ?_)
              · refine Tr.iload (pc := 145) (i := 4) d_X0_arrange_145 rfl ?_
                exact Tr.iret (pc := 147) d_X0_arrange_147 rfl ⟨hS, _, rfl, by omega, by omega⟩
              · refine Tr.aload_n (pc := 67) (i := 0) d_X0_arrange_67 rfl rfl ?_
                refine Tr.iload_n (pc := 68) (i := 1) d_X0_arrange_68 rfl rfl ?_
                refine Tr.iload_n (pc := 69) (i := 2) d_X0_arrange_69 rfl rfl ?_
                refine Tr.iload_n (pc := 70) (i := 3) d_X0_arrange_70 rfl rfl ?_
                refine Tr.callV (pc := 71) (as := [_, _, _]) d_X0_arrange_71 s_0_38 ok_X0_cost rfl rfl (Nat.le_of_ble_eq_true rfl) (Nat.le_of_ble_eq_true rfl) (by decide) (ty_113 hS.1.1) ?_
                refine Tr.imp (Tr.deep (by decide) (sp_X0_cost_113 hS.1 a1 (by omega) a2 (by omega) a3 (by omega))) ?_
                rintro M71 _ ⟨h71, r71, rfl, lr71, ur71⟩
                have hS := St.tr hS h71 (by decide) (by decide)
                refine Tr.sc [(0, r71)] rfl ?_
                refine Tr.istore (pc := 74) (i := 8) (ls2 := [(8, (0, r71)), (0, (2, 113)), (1, (0, a1)), (2, (0, a2)), (3, (0, a3)), (4, (0, p55_4)), (5, (0, p55_5)), (6, (0, p55_6)), (7, (0, p55_7))]) d_X0_arrange_74 (by decide) rfl ?_
                refine Tr.aload_n (pc := 76) (i := 0) d_X0_arrange_76 rfl rfl ?_
                refine Tr.callV (pc := 77) (as := []) d_X0_arrange_77 s_0_42 ok_X0_shiftSum rfl rfl (Nat.le_of_ble_eq_true rfl) (Nat.le_of_ble_eq_true rfl) (by decide) (ty_113 hS.1.1) ?_
                refine Tr.imp (Tr.deep (by decide) (sp_X0_shiftSum_113 hS.1 )) ?_
                rintro M77 _ ⟨h77, r77, rfl, lr77, ur77⟩
                have hS := St.tr hS h77 (by decide) (by decide)
                refine Tr.sc [(0, r77)] rfl ?_
                refine Tr.istore (pc := 80) (i := 9) (ls2 := [(9, (0, r77)), (8, (0, r71)), (0, (2, 113)), (1, (0, a1)), (2, (0, a2)), (3, (0, a3)), (4, (0, p55_4)), (5, (0, p55_5)), (6, (0, p55_6)), (7, (0, p55_7))]) d_X0_arrange_80 (by decide) rfl ?_
                refine Tr.iload (pc := 82) (i := 7) d_X0_arrange_82 rfl ?_
                have J133 : ∀ (M : Mem) (p133_4 p133_5 : Int), St Tru ws_X0_arrange_113 as_X0_arrange_113 M0 M → ((-2147483648) ≤ p133_4 ∧ p133_4 ≤ 2147483647) → ((-2147483648) ≤ p133_5 ∧ p133_5 ≤ 2147483647) → rd M 113 0 = r6 → rd M 113 7 = r6 → Tr l K 2 mX0_arrange 133 [(0, (2, 113)), (1, (0, a1)), (2, (0, a2)), (3, (0, a3)), (4, (0, p133_4)), (5, (0, p133_5)), (7, (0, p55_7))] [] M (q_X0_arrange_113 M0) := by
                  intro M p133_4 p133_5 hS bp133_4 bp133_5 k133_113_0 k133_113_7
                  refine Tr.aload_n (pc := 133) (i := 0) d_X0_arrange_133 rfl rfl ?_
                  refine Tr.callV (pc := 134) (as := []) d_X0_arrange_134 s_0_52 ok_X0_turnOn rfl rfl (Nat.le_of_ble_eq_true rfl) (Nat.le_of_ble_eq_true rfl) (by decide) (ty_113 hS.1.1) ?_
                  refine Tr.imp (Tr.deep (by decide) (sp_X0_turnOn_113 hS.1 )) ?_
                  rintro M134 _ ⟨h134, r134, rfl, lr134, ur134⟩
                  have hS := St.tr hS h134 (by decide) (by decide)
                  refine Tr.sc [(0, r134)] rfl ?_
                  refine Tr.istore (pc := 137) (i := 6) (ls2 := [(6, (0, r134)), (0, (2, 113)), (1, (0, a1)), (2, (0, a2)), (3, (0, a3)), (4, (0, p133_4)), (5, (0, p133_5)), (7, (0, p55_7))]) d_X0_arrange_137 (by decide) rfl ?_
                  refine Tr.iincV (pc := 139) (n2 := (p55_7 + 1)) (ls2 := [(7, (0, (p55_7 + 1))), (6, (0, r134)), (0, (2, 113)), (1, (0, a1)), (2, (0, a2)), (3, (0, a3)), (4, (0, p133_4)), (5, (0, p133_5))]) d_X0_arrange_139 rfl (by decide) ((w32_id (by omega)).trans (by omega)) rfl ?_
                  refine Tr.goto (pc := 142) (tgt := 55) d_X0_arrange_142 rfl ?_
                  refine Tr.pick [2, 3, 4, 5, 6, 7, 1, 0] (ls2 := [(0, (2, 113)), (1, (0, a1)), (2, (0, a2)), (3, (0, a3)), (4, (0, p133_4)), (5, (0, p133_5)), (6, (0, r134)), (7, (0, (p55_7 + 1)))]) rfl ?_
                  exact J55 _ _ _ _ _ hS (by omega) (by omega) (by omega) (by omega) ((St.kp h134 (by decide) (by decide) (by decide)).trans k133_113_0) ((St.kp h134 (by decide) (by decide) (by decide)).trans k133_113_7) (by omega)
                have J108 : ∀ (M : Mem), St Tru ws_X0_arrange_113 as_X0_arrange_113 M0 M → rd M 113 0 = r6 → rd M 113 7 = r6 → Tr l K 2 mX0_arrange 108 [(0, (2, 113)), (1, (0, a1)), (2, (0, a2)), (3, (0, a3)), (7, (0, p55_7)), (8, (0, r71)), (9, (0, r77))] [] M (q_X0_arrange_113 M0) := by
                  intro M  hS  k108_113_0 k108_113_7
                  refine Tr.iload (pc := 108) (i := 8) d_X0_arrange_108 rfl ?_
                  refine Tr.istore (pc := 110) (i := 4) (ls2 := [(4, (0, r71)), (0, (2, 113)), (1, (0, a1)), (2, (0, a2)), (3, (0, a3)), (7, (0, p55_7)), (8, (0, r71)), (9, (0, r77))]) d_X0_arrange_110 (by decide) rfl ?_
                  refine Tr.iload (pc := 112) (i := 9) d_X0_arrange_112 rfl ?_
                  refine Tr.istore (pc := 114) (i := 5) (ls2 := [(5, (0, r77)), (4, (0, r71)), (0, (2, 113)), (1, (0, a1)), (2, (0, a2)), (3, (0, a3)), (7, (0, p55_7)), (8, (0, r71)), (9, (0, r77))]) d_X0_arrange_114 (by decide) rfl ?_
                  refine Tr.aload_n (pc := 116) (i := 0) d_X0_arrange_116 rfl rfl ?_
                  refine Tr.getf (pc := 117) d_X0_arrange_117 f_0_21 (by decide) (by decide) (ty_113 hS.1.1) ?_
                  refine Tr.tp 117 (fx_113_4 hS.1.1) ?_
                  refine Tr.iconst (pc := 120) d_X0_arrange_120 (by decide) ?_
                  refine Tr.aload_n (pc := 121) (i := 0) d_X0_arrange_121 rfl rfl ?_
                  refine Tr.getf (pc := 122) d_X0_arrange_122 f_0_27 (by decide) (by decide) (ty_113 hS.1.1) ?_
                  refine Tr.tp 119 (fx_113_6 hS.1.1) ?_
                  refine Tr.iconst (pc := 125) d_X0_arrange_125 (by decide) ?_
                  refine Tr.aload_n (pc := 126) (i := 0) d_X0_arrange_126 rfl rfl ?_
                  refine Tr.getf (pc := 127) d_X0_arrange_127 f_0_30 (by decide) (by decide) (ty_113 hS.1.1) ?_
                  refine Tr.tp r6 k108_113_0 ?_
                  refine Tr.acopyS (pc := 130) (x := 117) (y := 119) (P := St Tru ws_X0_arrange_113 as_X0_arrange_113 M0) d_X0_arrange_130 ac_0_46 acw.1 acw.2.1 acw.2.2 (ty_117 hS.1.1) (ty_119 hS.1.1) (by omega) (by omega) (by omega) (by omega) (by omega) (Nat.le_of_ble_eq_true rfl) (sw_119 hS (by decide) rfl rfl rfl (fun z i hz => by rw [rd_cpy, if_neg (fun c => hz c.1)]) (fun i => by rw [rd_cpy]; split; exact And.intro (by have := ar_117 hS.1.2.1 (0 + (i - 0)); omega) (by have := ar_117 hS.1.2.1 (0 + (i - 0)); omega); exact ar_119 hS.1.2.1 i) trivial) (fun M130 hS w130 => ?_)
                  refine Tr.pick [2, 3, 4, 5, 1, 0, 6] (ls2 := [(0, (2, 113)), (1, (0, a1)), (2, (0, a2)), (3, (0, a3)), (4, (0, r71)), (5, (0, r77)), (7, (0, p55_7))]) rfl ?_
                  exact J133 _ _ _ hS (by omega) (by omega) ((Wa.b w130 rfl).trans k108_113_0) ((Wa.b w130 rfl).trans k108_113_7)
                refine Tr.if_eq (pc := 84) (tgt := 108) d_X0_arrange_84 rfl (fun c84 => ?_) (fun c84 => ?_)
                · refine Tr.pick [2, 3, 4, 5, 9, 1, 0] (ls2 := [(0, (2, 113)), (1, (0, a1)), (2, (0, a2)), (3, (0, a3)), (7, (0, p55_7)), (8, (0, r71)), (9, (0, r77))]) rfl ?_
                  exact J108 _ hS ((St.kp h77 (by decide) (by decide) (by decide)).trans ((St.kp h71 (by decide) (by decide) (by decide)).trans k55_113_0)) ((St.kp h77 (by decide) (by decide) (by decide)).trans ((St.kp h71 (by decide) (by decide) (by decide)).trans k55_113_7))
                · refine Tr.iload (pc := 87) (i := 8) d_X0_arrange_87 rfl ?_
                  refine Tr.iload (pc := 89) (i := 4) d_X0_arrange_89 rfl ?_
                  refine Tr.icmp_lt (pc := 91) (tgt := 108) d_X0_arrange_91 rfl (fun c91 => ?_) (fun c91 => ?_)
                  · refine Tr.pick [2, 3, 4, 5, 9, 1, 0] (ls2 := [(0, (2, 113)), (1, (0, a1)), (2, (0, a2)), (3, (0, a3)), (7, (0, p55_7)), (8, (0, r71)), (9, (0, r77))]) rfl ?_
                    exact J108 _ hS ((St.kp h77 (by decide) (by decide) (by decide)).trans ((St.kp h71 (by decide) (by decide) (by decide)).trans k55_113_0)) ((St.kp h77 (by decide) (by decide) (by decide)).trans ((St.kp h71 (by decide) (by decide) (by decide)).trans k55_113_7))
                  · refine Tr.iload (pc := 94) (i := 8) d_X0_arrange_94 rfl ?_
                    refine Tr.iload (pc := 96) (i := 4) d_X0_arrange_96 rfl ?_
                    refine Tr.icmp_ne (pc := 98) (tgt := 133) d_X0_arrange_98 rfl (fun c98 => ?_) (fun c98 => ?_)
                    · refine Tr.pick [2, 3, 4, 5, 6, 7, 9] (ls2 := [(0, (2, 113)), (1, (0, a1)), (2, (0, a2)), (3, (0, a3)), (4, (0, p55_4)), (5, (0, p55_5)), (7, (0, p55_7))]) rfl ?_
                      exact J133 _ _ _ hS (by omega) (by omega) ((St.kp h77 (by decide) (by decide) (by decide)).trans ((St.kp h71 (by decide) (by decide) (by decide)).trans k55_113_0)) ((St.kp h77 (by decide) (by decide) (by decide)).trans ((St.kp h71 (by decide) (by decide) (by decide)).trans k55_113_7))
                    · refine Tr.iload (pc := 101) (i := 9) d_X0_arrange_101 rfl ?_
                      refine Tr.iload (pc := 103) (i := 5) d_X0_arrange_103 rfl ?_
                      refine Tr.icmp_ge (pc := 105) (tgt := 133) d_X0_arrange_105 rfl (fun c105 => ?_) (fun c105 => ?_)
                      · refine Tr.pick [2, 3, 4, 5, 6, 7, 9] (ls2 := [(0, (2, 113)), (1, (0, a1)), (2, (0, a2)), (3, (0, a3)), (4, (0, p55_4)), (5, (0, p55_5)), (7, (0, p55_7))]) rfl ?_
                        exact J133 _ _ _ hS (by omega) (by omega) ((St.kp h77 (by decide) (by decide) (by decide)).trans ((St.kp h71 (by decide) (by decide) (by decide)).trans k55_113_0)) ((St.kp h77 (by decide) (by decide) (by decide)).trans ((St.kp h71 (by decide) (by decide) (by decide)).trans k55_113_7))
                      · refine Tr.pick [2, 3, 4, 5, 9, 1, 0] (ls2 := [(0, (2, 113)), (1, (0, a1)), (2, (0, a2)), (3, (0, a3)), (7, (0, p55_7)), (8, (0, r71)), (9, (0, r77))]) rfl ?_
                        exact J108 _ hS ((St.kp h77 (by decide) (by decide) (by decide)).trans ((St.kp h71 (by decide) (by decide) (by decide)).trans k55_113_0)) ((St.kp h77 (by decide) (by decide) (by decide)).trans ((St.kp h71 (by decide) (by decide) (by decide)).trans k55_113_7))
        refine Tr.pick [4, 5, 6, 7, 3, 2, 1, 0] (ls2 := [(0, (2, 113)), (1, (0, a1)), (2, (0, a2)), (3, (0, a3)), (4, (0, 0)), (5, (0, 0)), (6, (0, 1)), (7, (0, 0))]) rfl ?_
        exact J55 _ _ _ _ _ _ hS (by omega) (by omega) (by omega) (by omega) ((Wr.b w40 rfl).trans er6) w40.1 (Nat.lt_succ_self _)
      · refine Tr.aload_n (pc := 12) (i := 0) d_X0_arrange_12 rfl rfl ?_
        refine Tr.getf (pc := 13) d_X0_arrange_13 f_0_21 (by decide) (by decide) (ty_113 hS.1.1) ?_
        refine Tr.tp 117 (fx_113_4 hS.1.1) ?_
        refine Tr.iload (pc := 16) (i := 4) d_X0_arrange_16 rfl ?_
        refine Tr.iconst (pc := 18) d_X0_arrange_18 (by decide) ?_
        refine Tr.iastS (pc := 19) (P := St Tru ws_X0_arrange_113 as_X0_arrange_113 M0) d_X0_arrange_19 (ty_117 hS.1.1) (by omega) (by omega) (sa_117 hS (by decide) (by omega) trivial) (fun M19 hS w19 => ?_)
        refine Tr.aload_n (pc := 20) (i := 0) d_X0_arrange_20 rfl rfl ?_
        refine Tr.getf (pc := 21) d_X0_arrange_21 f_0_24 (by decide) (by decide) (ty_113 hS.1.1) ?_
        refine Tr.tp 118 (fx_113_5 hS.1.1) ?_
        refine Tr.iload (pc := 24) (i := 4) d_X0_arrange_24 rfl ?_
        refine Tr.iload (pc := 26) (i := 4) d_X0_arrange_26 rfl ?_
        refine Tr.iastS (pc := 28) (P := St Tru ws_X0_arrange_113 as_X0_arrange_113 M0) d_X0_arrange_28 (ty_118 hS.1.1) (by omega) (by omega) (sa_118 hS (by decide) (by omega) trivial) (fun M28 hS w28 => ?_)
        refine Tr.iincV (pc := 29) (n2 := (p3_4 + 1)) (ls2 := [(4, (0, (p3_4 + 1))), (0, (2, 113)), (1, (0, a1)), (2, (0, a2)), (3, (0, a3))]) d_X0_arrange_29 rfl (by decide) ((w32_id (by omega)).trans (by omega)) rfl ?_
        refine Tr.goto (pc := 32) (tgt := 3) d_X0_arrange_32 rfl ?_
        refine Tr.pick [1, 2, 3, 4, 0] (ls2 := [(0, (2, 113)), (1, (0, a1)), (2, (0, a2)), (3, (0, a3)), (4, (0, (p3_4 + 1)))]) rfl ?_
        exact J3 _ _ hS (by omega) (by omega)
  refine Tr.pick [1, 2, 3, 4, 0] (ls2 := [(0, (2, 113)), (1, (0, a1)), (2, (0, a2)), (3, (0, a3)), (4, (0, 0))]) rfl ?_
  exact J3 _ _ _ hS (by omega) (Nat.lt_succ_self _)

def ws_X11_together_0 : List (Int × Int) := [(113, 7)]
def as_X11_together_0 : List Int := [117, 118, 119]
def q_X11_together_0 (M0 M' : Mem) (r : Option PV) : Prop := St Tru ws_X11_together_0 as_X11_together_0 M0 M' ∧ ∃ v : Int, r = some (0, v) ∧ (-2147483648) ≤ v ∧ v ≤ 2147483647
set_option maxRecDepth 100000 in
set_option maxHeartbeats 4000000 in
theorem sp_X11_together_0 {l : Launch} {K : EC} {M0 : Mem} (hI : In Tru M0) (en_0_4 : rd M0 0 4 = 7) (a1 : Int) (ha1 : (-2147483648) ≤ a1 ∧ a1 ≤ 2147483647)  : Tr l K 3 mX11_together 0 [(0, (2, 0)), (1, (0, a1))] [] M0 (q_X11_together_0 M0) := by
  have hS : St Tru ws_X11_together_0 as_X11_together_0 M0 M0 := St.rf hI
  refine Tr.aload_n (pc := 0) (i := 0) d_X11_together_0 rfl rfl ?_
  refine Tr.iload_n (pc := 1) (i := 1) d_X11_together_1 rfl rfl ?_
  refine Tr.callV (pc := 2) (as := [_]) d_X11_together_2 s_11_174 ok_X11_isPart rfl rfl (Nat.le_of_ble_eq_true rfl) (Nat.le_of_ble_eq_true rfl) (by decide) (ty_0 hS.1.1) ?_
  refine Tr.imp (Tr.deep (by decide) (sp_X11_isPart_0 hS.1 ((St.kp hS (by decide) (by decide) (by decide)).trans en_0_4) a1 (by omega))) ?_
  rintro M2 _ ⟨h2, r2, rfl, lr2, ur2, wr2⟩
  have hS := St.tr hS h2 (by decide) (by decide)
  refine Tr.sc [(0, r2)] rfl ?_
  refine Tr.if_eq (pc := 5) (tgt := 18) d_X11_together_5 rfl (fun c5 => ?_) (fun c5 => ?_)
  · refine Tr.iconst (pc := 18) d_X11_together_18 (by decide) ?_
    exact Tr.iret (pc := 19) d_X11_together_19 rfl ⟨hS, _, rfl, by omega, by omega⟩
  · refine Tr.aload_n (pc := 8) (i := 0) d_X11_together_8 rfl rfl ?_
    refine Tr.getf (pc := 9) d_X11_together_9 f_11_77 (by decide) (by decide) (ty_0 hS.1.1) ?_
    refine Tr.tp 113 (fx_0_13 hS.1.1) ?_
    refine Tr.getf (pc := 12) d_X11_together_12 f_11_136 (by decide) (by decide) (ty_113 hS.1.1) ?_
    refine Tr.gen (P := fun v => 0 ≤ v ∧ v ≤ 6) (ir_113_0 hS.1.2.1) (fun r12 er12 br12 => ?_)
    refine Tr.if_ne (pc := 15) (tgt := 20) d_X11_together_15 rfl (fun c15 => ?_) (fun c15 => ?_)
    · refine Tr.aload_n (pc := 20) (i := 0) d_X11_together_20 rfl rfl ?_
      refine Tr.getf (pc := 21) d_X11_together_21 f_11_77 (by decide) (by decide) (ty_0 hS.1.1) ?_
      refine Tr.tp 113 (fx_0_13 hS.1.1) ?_
      refine Tr.aload_n (pc := 24) (i := 0) d_X11_together_24 rfl rfl ?_
      refine Tr.getf (pc := 25) d_X11_together_25 f_11_30 (by decide) (by decide) (ty_0 hS.1.1) ?_
      refine Tr.tp 7 ((St.kp hS (by decide) (by decide) (by decide)).trans en_0_4) ?_
      refine Tr.getf (pc := 28) d_X11_together_28 f_11_289 (by decide) (by decide) (ty_7 hS.1.1) ?_
      refine Tr.tp 9 (fx_7_5 hS.1.1) ?_
      refine Tr.iload_n (pc := 31) (i := 1) d_X11_together_31 rfl rfl ?_
      refine Tr.iconst (pc := 32) d_X11_together_32 (by decide) ?_
      refine Tr.imul (pc := 33) d_X11_together_33 ?_
      refine Tr.tp (4 * a1) ((w32_id (by omega)).trans (by omega)) ?_
      refine Tr.iconst (pc := 34) d_X11_together_34 (by decide) ?_
      refine Tr.iadd (pc := 35) d_X11_together_35 ?_
      refine Tr.tp (4 * a1 + 2) ((w32_id (by omega)).trans (by omega)) ?_
      refine Tr.iald (pc := 36) d_X11_together_36 (ty_9 hS.1.1) (by omega) (by omega) ?_
      refine Tr.gen (P := fun v => (-1) ≤ v ∧ v ≤ 999) (ar_9 hS.1.2.1 _) (fun r36 er36 br36 => ?_)
      refine Tr.aload_n (pc := 37) (i := 0) d_X11_together_37 rfl rfl ?_
      refine Tr.getf (pc := 38) d_X11_together_38 f_11_30 (by decide) (by decide) (ty_0 hS.1.1) ?_
      refine Tr.tp 7 ((St.kp hS (by decide) (by decide) (by decide)).trans en_0_4) ?_
      refine Tr.iload_n (pc := 41) (i := 1) d_X11_together_41 rfl rfl ?_
      refine Tr.callV (pc := 42) (as := [_]) d_X11_together_42 s_11_292 ok_X3_wakeCost rfl rfl (Nat.le_of_ble_eq_true rfl) (Nat.le_of_ble_eq_true rfl) (by decide) (ty_7 hS.1.1) ?_
      refine Tr.imp (Tr.deep (by decide) (sp_X3_wakeCost_7 hS.1 a1 (by omega))) ?_
      rintro M42 _ ⟨h42, r42, rfl, lr42, ur42⟩
      have hS := St.tr hS h42 (by decide) (by decide)
      refine Tr.sc [(0, r42), (0, r36), (2, 113)] rfl ?_
      refine Tr.aload_n (pc := 45) (i := 0) d_X11_together_45 rfl rfl ?_
      refine Tr.getf (pc := 46) d_X11_together_46 f_11_30 (by decide) (by decide) (ty_0 hS.1.1) ?_
      refine Tr.tp 7 ((St.kp hS (by decide) (by decide) (by decide)).trans en_0_4) ?_
      refine Tr.getf (pc := 49) d_X11_together_49 f_11_295 (by decide) (by decide) (ty_7 hS.1.1) ?_
      refine Tr.tp 11 (fx_7_7 hS.1.1) ?_
      refine Tr.iload_n (pc := 52) (i := 1) d_X11_together_52 rfl rfl ?_
      refine Tr.iald (pc := 53) d_X11_together_53 (ty_11 hS.1.1) (by omega) (by omega) ?_
      refine Tr.gen (P := fun v => 0 ≤ v ∧ v ≤ 50) (ar_11 hS.1.2.1 _) (fun r53 er53 br53 => ?_)
      refine Tr.callV (pc := 54) (as := [_, _, _]) d_X11_together_54 s_11_298 ok_X0_arrange rfl rfl (Nat.le_of_ble_eq_true rfl) (Nat.le_of_ble_eq_true rfl) (by decide) (ty_113 hS.1.1) ?_
      refine Tr.imp (Tr.deep (by decide) (sp_X0_arrange_113 hS.1 r36 (by omega) r42 (by omega) r53 (by omega))) ?_
      rintro M54 _ ⟨h54, r54, rfl, lr54, ur54⟩
      have hS := St.tr hS h54 (by decide) (by decide)
      refine Tr.sc [(0, r54)] rfl ?_
      exact Tr.iret (pc := 57) d_X11_together_57 rfl ⟨hS, _, rfl, by omega, by omega⟩
    · refine Tr.iconst (pc := 18) d_X11_together_18 (by decide) ?_
      exact Tr.iret (pc := 19) d_X11_together_19 rfl ⟨hS, _, rfl, by omega, by omega⟩

def ws_X11_later_0 : List (Int × Int) := []
def as_X11_later_0 : List Int := []
def q_X11_later_0 (M0 M' : Mem) (r : Option PV) : Prop := St Tru ws_X11_later_0 as_X11_later_0 M0 M' ∧ ∃ v : Int, r = some (0, v) ∧ (-1) ≤ v ∧ v ≤ 5
set_option maxRecDepth 100000 in
set_option maxHeartbeats 4000000 in
theorem sp_X11_later_0 {l : Launch} {K : EC} {M0 : Mem} (hI : In Tru M0)  (a1 : Int) (ha1 : (-2147483648) ≤ a1 ∧ a1 ≤ 2147483647)  : Tr l K 0 mX11_later 0 [(0, (2, 0)), (1, (0, a1))] [] M0 (q_X11_later_0 M0) := by
  have hS : St Tru ws_X11_later_0 as_X11_later_0 M0 M0 := St.rf hI
  refine Tr.iload_n (pc := 0) (i := 1) d_X11_later_0 rfl rfl ?_
  refine Tr.if_lt (pc := 1) (tgt := 15) d_X11_later_1 rfl (fun c1 => ?_) (fun c1 => ?_)
  · refine Tr.iconst (pc := 15) d_X11_later_15 (by decide) ?_
    exact Tr.iret (pc := 16) d_X11_later_16 rfl ⟨hS, _, rfl, by omega, by omega⟩
  · refine Tr.iload_n (pc := 4) (i := 1) d_X11_later_4 rfl rfl ?_
    refine Tr.aload_n (pc := 5) (i := 0) d_X11_later_5 rfl rfl ?_
    refine Tr.getf (pc := 6) d_X11_later_6 f_11_77 (by decide) (by decide) (ty_0 hS.1.1) ?_
    refine Tr.tp 113 (fx_0_13 hS.1.1) ?_
    refine Tr.getf (pc := 9) d_X11_later_9 f_11_301 (by decide) (by decide) (ty_113 hS.1.1) ?_
    refine Tr.gen (P := fun v => 0 ≤ v ∧ v ≤ 6) (ir_113_7 hS.1.2.1) (fun r9 er9 br9 => ?_)
    refine Tr.icmp_lt (pc := 12) (tgt := 17) d_X11_later_12 rfl (fun c12 => ?_) (fun c12 => ?_)
    · refine Tr.aload_n (pc := 17) (i := 0) d_X11_later_17 rfl rfl ?_
      refine Tr.getf (pc := 18) d_X11_later_18 f_11_77 (by decide) (by decide) (ty_0 hS.1.1) ?_
      refine Tr.tp 113 (fx_0_13 hS.1.1) ?_
      refine Tr.getf (pc := 21) d_X11_later_21 f_11_304 (by decide) (by decide) (ty_113 hS.1.1) ?_
      refine Tr.tp 119 (fx_113_6 hS.1.1) ?_
      refine Tr.iload_n (pc := 24) (i := 1) d_X11_later_24 rfl rfl ?_
      refine Tr.iald (pc := 25) d_X11_later_25 (ty_119 hS.1.1) (by omega) (by omega) ?_
      refine Tr.gen (P := fun v => 0 ≤ v ∧ v ≤ 5) (ar_119 hS.1.2.1 _) (fun r25 er25 br25 => ?_)
      exact Tr.iret (pc := 26) d_X11_later_26 rfl ⟨hS, _, rfl, by omega, by omega⟩
    · refine Tr.iconst (pc := 15) d_X11_later_15 (by decide) ?_
      exact Tr.iret (pc := 16) d_X11_later_16 rfl ⟨hS, _, rfl, by omega, by omega⟩

def ws_X4_spread_15 : List (Int × Int) := []
def as_X4_spread_15 : List Int := [26]
def q_X4_spread_15 (M0 M' : Mem) (r : Option PV) : Prop := St Tru ws_X4_spread_15 as_X4_spread_15 M0 M' ∧ ∃ v : Int, r = some (0, v) ∧ 0 ≤ v ∧ v ≤ 1
set_option maxRecDepth 100000 in
set_option maxHeartbeats 4000000 in
theorem sp_X4_spread_15 {l : Launch} {K : EC} {M0 : Mem} (hI : In Tru M0)  (a1 : Int) (ha1 : (-2147483648) ≤ a1 ∧ a1 ≤ 2147483647) (a2 : Int) (ha2 : (-2147483648) ≤ a2 ∧ a2 ≤ 2147483647)  : Tr l K 0 mX4_spread 0 [(0, (2, 15)), (1, (0, a1)), (2, (0, a2))] [] M0 (q_X4_spread_15 M0) := by
  have hS : St Tru ws_X4_spread_15 as_X4_spread_15 M0 M0 := St.rf hI
  refine Tr.iload_n (pc := 0) (i := 1) d_X4_spread_0 rfl rfl ?_
  refine Tr.if_lt (pc := 1) (tgt := 29) d_X4_spread_1 rfl (fun c1 => ?_) (fun c1 => ?_)
  · refine Tr.iconst (pc := 29) d_X4_spread_29 (by decide) ?_
    exact Tr.zret (pc := 30) d_X4_spread_30 rfl (by omega) ⟨hS, _, rfl, by omega, by omega⟩
  · refine Tr.iload_n (pc := 4) (i := 1) d_X4_spread_4 rfl rfl ?_
    refine Tr.aload_n (pc := 5) (i := 0) d_X4_spread_5 rfl rfl ?_
    refine Tr.getf (pc := 6) d_X4_spread_6 f_4_45 (by decide) (by decide) (ty_15 hS.1.1) ?_
    refine Tr.gen (P := fun v => 0 ≤ v ∧ v ≤ 60) (ir_15_0 hS.1.2.1) (fun r6 er6 br6 => ?_)
    refine Tr.icmp_gt (pc := 9) (tgt := 29) d_X4_spread_9 rfl (fun c9 => ?_) (fun c9 => ?_)
    · refine Tr.iconst (pc := 29) d_X4_spread_29 (by decide) ?_
      exact Tr.zret (pc := 30) d_X4_spread_30 rfl (by omega) ⟨hS, _, rfl, by omega, by omega⟩
    · refine Tr.aload_n (pc := 12) (i := 0) d_X4_spread_12 rfl rfl ?_
      refine Tr.getf (pc := 13) d_X4_spread_13 f_4_42 (by decide) (by decide) (ty_15 hS.1.1) ?_
      refine Tr.tp 26 (fx_15_12 hS.1.1) ?_
      refine Tr.iload_n (pc := 16) (i := 1) d_X4_spread_16 rfl rfl ?_
      refine Tr.iald (pc := 17) d_X4_spread_17 (ty_26 hS.1.1) (by omega) (by omega) ?_
      refine Tr.gen (P := fun v => (-2147483648) ≤ v ∧ v ≤ 2147483647) (ar_26 hS.1.2.1 _) (fun r17 er17 br17 => ?_)
      refine Tr.iload_n (pc := 18) (i := 2) d_X4_spread_18 rfl rfl ?_
      refine Tr.ior (pc := 19) d_X4_spread_19 ?_
      refine Tr.gen (P := fun v => (-2147483648) ≤ v ∧ v ≤ 2147483647) (i32_b _) (fun r19 er19 br19 => ?_)
      refine Tr.aload_n (pc := 20) (i := 0) d_X4_spread_20 rfl rfl ?_
      refine Tr.getf (pc := 21) d_X4_spread_21 f_4_42 (by decide) (by decide) (ty_15 hS.1.1) ?_
      refine Tr.tp 26 (fx_15_12 hS.1.1) ?_
      refine Tr.iload_n (pc := 24) (i := 1) d_X4_spread_24 rfl rfl ?_
      refine Tr.iald (pc := 25) d_X4_spread_25 (ty_26 hS.1.1) (by omega) (by omega) ?_
      refine Tr.tp r17 er17 ?_
      refine Tr.icmp_ne (pc := 26) (tgt := 31) d_X4_spread_26 rfl (fun c26 => ?_) (fun c26 => ?_)
      · refine Tr.aload_n (pc := 31) (i := 0) d_X4_spread_31 rfl rfl ?_
        refine Tr.getf (pc := 32) d_X4_spread_32 f_4_42 (by decide) (by decide) (ty_15 hS.1.1) ?_
        refine Tr.tp 26 (fx_15_12 hS.1.1) ?_
        refine Tr.iload_n (pc := 35) (i := 1) d_X4_spread_35 rfl rfl ?_
        refine Tr.dup2 (pc := 36) d_X4_spread_36 ne01 ne21 ?_
        refine Tr.iald (pc := 37) d_X4_spread_37 (ty_26 hS.1.1) (by omega) (by omega) ?_
        refine Tr.tp r17 er17 ?_
        refine Tr.iload_n (pc := 38) (i := 2) d_X4_spread_38 rfl rfl ?_
        refine Tr.ior (pc := 39) d_X4_spread_39 ?_
        refine Tr.gen (P := fun v => (-2147483648) ≤ v ∧ v ≤ 2147483647) (i32_b _) (fun r39 er39 br39 => ?_)
        refine Tr.iastS (pc := 40) (P := St Tru ws_X4_spread_15 as_X4_spread_15 M0) d_X4_spread_40 (ty_26 hS.1.1) (by omega) (by omega) (sa_26 hS (by decide) (by omega) trivial) (fun M40 hS w40 => ?_)
        refine Tr.iconst (pc := 41) d_X4_spread_41 (by decide) ?_
        exact Tr.zret (pc := 42) d_X4_spread_42 rfl (by omega) ⟨hS, _, rfl, by omega, by omega⟩
      · refine Tr.iconst (pc := 29) d_X4_spread_29 (by decide) ?_
        exact Tr.zret (pc := 30) d_X4_spread_30 rfl (by omega) ⟨hS, _, rfl, by omega, by omega⟩

def ws_X4_heldBehind_15_w13 : List (Int × Int) := []
def as_X4_heldBehind_15_w13 : List Int := []
def q_X4_heldBehind_15_w13 (M0 M' : Mem) (r : Option PV) : Prop := St Tru ws_X4_heldBehind_15_w13 as_X4_heldBehind_15_w13 M0 M' ∧ ∃ v : Int, r = some (0, v) ∧ (-2147483648) ≤ v ∧ v ≤ 2147483647
set_option maxRecDepth 100000 in
set_option maxHeartbeats 4000000 in
theorem sp_X4_heldBehind_15_w13 {l : Launch} {K : EC} {M0 : Mem} (hI : In Tru M0)  (a1 : Int) (ha1 : 0 ≤ a1 ∧ a1 ≤ 59)  : Tr l K 0 mX4_heldBehind 0 [(0, (2, 15)), (1, (0, a1))] [] M0 (q_X4_heldBehind_15_w13 M0) := by
  have hS : St Tru ws_X4_heldBehind_15_w13 as_X4_heldBehind_15_w13 M0 M0 := St.rf hI
  refine Tr.iconst (pc := 0) d_X4_heldBehind_0 (by decide) ?_
  refine Tr.aload_n (pc := 1) (i := 0) d_X4_heldBehind_1 rfl rfl ?_
  refine Tr.getf (pc := 2) d_X4_heldBehind_2 f_4_15 (by decide) (by decide) (ty_15 hS.1.1) ?_
  refine Tr.tp 17 (fx_15_2 hS.1.1) ?_
  refine Tr.iload_n (pc := 5) (i := 1) d_X4_heldBehind_5 rfl rfl ?_
  refine Tr.iald (pc := 6) d_X4_heldBehind_6 (ty_17 hS.1.1) (by omega) (by omega) ?_
  refine Tr.gen (P := fun v => 0 ≤ v ∧ v ≤ 5) (ar_17 hS.1.2.1 _) (fun r6 er6 br6 => ?_)
  refine Tr.ishl (pc := 7) d_X4_heldBehind_7 ?_
  refine Tr.gen (P := fun v => (-2147483648) ≤ v ∧ v ≤ 2147483647) (i32_b _) (fun r7 er7 br7 => ?_)
  refine Tr.istore_n (pc := 8) (i := 2) (ls2 := [(2, (0, r7)), (0, (2, 15)), (1, (0, a1))]) d_X4_heldBehind_8 rfl (by decide) rfl ?_
  refine Tr.aload_n (pc := 9) (i := 0) d_X4_heldBehind_9 rfl rfl ?_
  refine Tr.getf (pc := 10) d_X4_heldBehind_10 f_4_9 (by decide) (by decide) (ty_15 hS.1.1) ?_
  refine Tr.tp 16 (fx_15_1 hS.1.1) ?_
  refine Tr.iload_n (pc := 13) (i := 1) d_X4_heldBehind_13 rfl rfl ?_
  refine Tr.iald (pc := 14) d_X4_heldBehind_14 (ty_16 hS.1.1) (by omega) (by omega) ?_
  refine Tr.gen (P := fun v => (-2147483648) ≤ v ∧ v ≤ 2147483647) (ar_16 hS.1.2.1 _) (fun r14 er14 br14 => ?_)
  refine Tr.bipush (pc := 15) d_X4_heldBehind_15 rfl (by decide) ?_
  refine Tr.icmp_ne (pc := 17) (tgt := 29) d_X4_heldBehind_17 rfl (fun c17 => ?_) (fun c17 => ?_)
  · refine Tr.aload_n (pc := 29) (i := 0) d_X4_heldBehind_29 rfl rfl ?_
    refine Tr.getf (pc := 30) d_X4_heldBehind_30 f_4_9 (by decide) (by decide) (ty_15 hS.1.1) ?_
    refine Tr.tp 16 (fx_15_1 hS.1.1) ?_
    refine Tr.iload_n (pc := 33) (i := 1) d_X4_heldBehind_33 rfl rfl ?_
    refine Tr.iald (pc := 34) d_X4_heldBehind_34 (ty_16 hS.1.1) (by omega) (by omega) ?_
    refine Tr.tp r14 er14 ?_
    refine Tr.bipush (pc := 35) d_X4_heldBehind_35 rfl (by decide) ?_
    refine Tr.icmp_ne (pc := 37) (tgt := 53) d_X4_heldBehind_37 rfl (fun c37 => ?_) (fun c37 => ?_)
    · refine Tr.aload_n (pc := 53) (i := 0) d_X4_heldBehind_53 rfl rfl ?_
      refine Tr.getf (pc := 54) d_X4_heldBehind_54 f_4_42 (by decide) (by decide) (ty_15 hS.1.1) ?_
      refine Tr.tp 26 (fx_15_12 hS.1.1) ?_
      refine Tr.iload_n (pc := 57) (i := 1) d_X4_heldBehind_57 rfl rfl ?_
      refine Tr.iald (pc := 58) d_X4_heldBehind_58 (ty_26 hS.1.1) (by omega) (by omega) ?_
      refine Tr.gen (P := fun v => (-2147483648) ≤ v ∧ v ≤ 2147483647) (ar_26 hS.1.2.1 _) (fun r58 er58 br58 => ?_)
      exact Tr.iret (pc := 59) d_X4_heldBehind_59 rfl ⟨hS, _, rfl, by omega, by omega⟩
    · refine Tr.aload_n (pc := 40) (i := 0) d_X4_heldBehind_40 rfl rfl ?_
      refine Tr.getf (pc := 41) d_X4_heldBehind_41 f_4_42 (by decide) (by decide) (ty_15 hS.1.1) ?_
      refine Tr.tp 26 (fx_15_12 hS.1.1) ?_
      refine Tr.iload_n (pc := 44) (i := 1) d_X4_heldBehind_44 rfl rfl ?_
      refine Tr.iald (pc := 45) d_X4_heldBehind_45 (ty_26 hS.1.1) (by omega) (by omega) ?_
      refine Tr.gen (P := fun v => (-2147483648) ≤ v ∧ v ≤ 2147483647) (ar_26 hS.1.2.1 _) (fun r45 er45 br45 => ?_)
      refine Tr.iload_n (pc := 46) (i := 2) d_X4_heldBehind_46 rfl rfl ?_
      refine Tr.iconst (pc := 47) d_X4_heldBehind_47 (by decide) ?_
      refine Tr.ixor (pc := 48) d_X4_heldBehind_48 ?_
      refine Tr.gen (P := fun v => ((v < 0 ↔ ¬ (r7 < 0 ↔ (-1) < 0)) ∧ (-2147483648 ≤ v ∧ v ≤ 2147483647))) (f_ixor_s (by omega) (by omega)) (fun r48 er48 br48 => ?_)
      refine Tr.iand (pc := 49) d_X4_heldBehind_49 ?_
      refine Tr.gen (P := fun v => (-2147483648) ≤ v ∧ v ≤ 2147483647) (i32_b _) (fun r49 er49 br49 => ?_)
      refine Tr.goto (pc := 50) (tgt := 59) d_X4_heldBehind_50 rfl ?_
      exact Tr.iret (pc := 59) d_X4_heldBehind_59 rfl ⟨hS, _, rfl, by omega, by omega⟩
  · refine Tr.aload_n (pc := 20) (i := 0) d_X4_heldBehind_20 rfl rfl ?_
    refine Tr.getf (pc := 21) d_X4_heldBehind_21 f_4_42 (by decide) (by decide) (ty_15 hS.1.1) ?_
    refine Tr.tp 26 (fx_15_12 hS.1.1) ?_
    refine Tr.iload_n (pc := 24) (i := 1) d_X4_heldBehind_24 rfl rfl ?_
    refine Tr.iald (pc := 25) d_X4_heldBehind_25 (ty_26 hS.1.1) (by omega) (by omega) ?_
    refine Tr.gen (P := fun v => (-2147483648) ≤ v ∧ v ≤ 2147483647) (ar_26 hS.1.2.1 _) (fun r25 er25 br25 => ?_)
    refine Tr.iload_n (pc := 26) (i := 2) d_X4_heldBehind_26 rfl rfl ?_
    refine Tr.ior (pc := 27) d_X4_heldBehind_27 ?_
    refine Tr.gen (P := fun v => (-2147483648) ≤ v ∧ v ≤ 2147483647) (i32_b _) (fun r27 er27 br27 => ?_)
    exact Tr.iret (pc := 28) d_X4_heldBehind_28 rfl ⟨hS, _, rfl, by omega, by omega⟩

def ws_X4_heldAtEnd_15 : List (Int × Int) := []
def as_X4_heldAtEnd_15 : List Int := [26]
def q_X4_heldAtEnd_15 (M0 M' : Mem) (r : Option PV) : Prop := St Tru ws_X4_heldAtEnd_15 as_X4_heldAtEnd_15 M0 M' ∧ ∃ v : Int, r = some (0, v) ∧ (-2147483648) ≤ v ∧ v ≤ 2147483647
set_option maxRecDepth 100000 in
set_option maxHeartbeats 4000000 in
theorem sp_X4_heldAtEnd_15 {l : Launch} {K : EC} {M0 : Mem} (hI : In Tru M0)    : Tr l K 1 mX4_heldAtEnd 0 [(0, (2, 15))] [] M0 (q_X4_heldAtEnd_15 M0) := by
  have hS : St Tru ws_X4_heldAtEnd_15 as_X4_heldAtEnd_15 M0 M0 := St.rf hI
  refine Tr.aload_n (pc := 0) (i := 0) d_X4_heldAtEnd_0 rfl rfl ?_
  refine Tr.getf (pc := 1) d_X4_heldAtEnd_1 f_4_42 (by decide) (by decide) (ty_15 hS.1.1) ?_
  refine Tr.tp 26 (fx_15_12 hS.1.1) ?_
  refine Tr.iconst (pc := 4) d_X4_heldAtEnd_4 (by decide) ?_
  refine Tr.callS (pc := 5) (as := [_, _]) d_X4_heldAtEnd_5 s_4_58 ok_J7_fill_53178 rfl rfl (Nat.le_of_ble_eq_true rfl) (Nat.le_of_ble_eq_true rfl) ?_
  refine Tr.imp (sp_fill (N := 61) (ty_26 hS.1.1) (by decide)) ?_
  rintro _ _ ⟨rfl, rfl⟩
  refine Tr.nmA (P := St Tru ws_X4_heldAtEnd_15 as_X4_heldAtEnd_15 M0) (sf_26 (v := 0) 61 hS (by decide) (by omega) trivial) (fil_wa _ _ _ _) (fun M5 hS w5 => ?_)
  refine Tr.sc [] rfl ?_
  refine Tr.iconst (pc := 8) d_X4_heldAtEnd_8 (by decide) ?_
  refine Tr.istore_n (pc := 9) (i := 1) (ls2 := [(1, (0, 1)), (0, (2, 15))]) d_X4_heldAtEnd_9 rfl (by decide) rfl ?_
  refine Tr.iconst (pc := 10) d_X4_heldAtEnd_10 (by decide) ?_
  refine Tr.istore_n (pc := 11) (i := 2) (ls2 := [(2, (0, 0)), (1, (0, 1)), (0, (2, 15))]) d_X4_heldAtEnd_11 rfl (by decide) rfl ?_
  have J12 : ∀ (n12 : Nat) (M : Mem) (p12_1 p12_2 : Int), St Tru ws_X4_heldAtEnd_15 as_X4_heldAtEnd_15 M0 M → (0 ≤ p12_1 ∧ p12_1 ≤ 1) → (0 ≤ p12_2 ∧ p12_2 ≤ 400) → (400 - p12_2).toNat < n12 → Tr l K 1 mX4_heldAtEnd 12 [(0, (2, 15)), (1, (0, p12_1)), (2, (0, p12_2))] [] M (q_X4_heldAtEnd_15 M0) := by
    intro n12
    induction n12 with
    | zero => intro M p12_1 p12_2 hS bp12_1 bp12_2  hm12; exact absurd hm12 (Nat.not_lt_zero _)
    | succ n12 J12 =>
      intro M p12_1 p12_2 hS bp12_1 bp12_2  hm12
      refine Tr.iload_n (pc := 12) (i := 2) d_X4_heldAtEnd_12 rfl rfl ?_
      refine Tr.sipush (pc := 13) d_X4_heldAtEnd_13 rfl (by decide) ?_
      refine Tr.icmp_gt (pc := 16) (tgt := 102) d_X4_heldAtEnd_16 rfl (fun c16 => ?_) (fun c16 => ?_)
      · refine Tr.aload_n (pc := 102) (i := 0) d_X4_heldAtEnd_102 rfl rfl ?_
        refine Tr.getf (pc := 103) d_X4_heldAtEnd_103 f_4_42 (by decide) (by decide) (ty_15 hS.1.1) ?_
        refine Tr.tp 26 (fx_15_12 hS.1.1) ?_
        refine Tr.aload_n (pc := 106) (i := 0) d_X4_heldAtEnd_106 rfl rfl ?_
        refine Tr.getf (pc := 107) d_X4_heldAtEnd_107 f_4_45 (by decide) (by decide) (ty_15 hS.1.1) ?_
        refine Tr.gen (P := fun v => 0 ≤ v ∧ v ≤ 60) (ir_15_0 hS.1.2.1) (fun r107 er107 br107 => ?_)
        refine Tr.iald (pc := 110) d_X4_heldAtEnd_110 (ty_26 hS.1.1) (by omega) (by omega) ?_
        refine Tr.gen (P := fun v => (-2147483648) ≤ v ∧ v ≤ 2147483647) (ar_26 hS.1.2.1 _) (fun r110 er110 br110 => ?_)
        exact Tr.iret (pc := 111) d_X4_heldAtEnd_111 rfl ⟨hS, _, rfl, by omega, by omega⟩
      · refine Tr.iload_n (pc := 19) (i := 1) d_X4_heldAtEnd_19 rfl rfl ?_
        refine Tr.if_eq (pc := 20) (tgt := 102) d_X4_heldAtEnd_20 rfl (fun c20 => ?_) (fun c20 => ?_)
        · refine Tr.aload_n (pc := 102) (i := 0) d_X4_heldAtEnd_102 rfl rfl ?_
          refine Tr.getf (pc := 103) d_X4_heldAtEnd_103 f_4_42 (by decide) (by decide) (ty_15 hS.1.1) ?_
          refine Tr.tp 26 (fx_15_12 hS.1.1) ?_
          refine Tr.aload_n (pc := 106) (i := 0) d_X4_heldAtEnd_106 rfl rfl ?_
          refine Tr.getf (pc := 107) d_X4_heldAtEnd_107 f_4_45 (by decide) (by decide) (ty_15 hS.1.1) ?_
          refine Tr.gen (P := fun v => 0 ≤ v ∧ v ≤ 60) (ir_15_0 hS.1.2.1) (fun r107 er107 br107 => ?_)
          refine Tr.iald (pc := 110) d_X4_heldAtEnd_110 (ty_26 hS.1.1) (by omega) (by omega) ?_
          refine Tr.gen (P := fun v => (-2147483648) ≤ v ∧ v ≤ 2147483647) (ar_26 hS.1.2.1 _) (fun r110 er110 br110 => ?_)
          exact Tr.iret (pc := 111) d_X4_heldAtEnd_111 rfl ⟨hS, _, rfl, by omega, by omega⟩
        · refine Tr.iconst (pc := 23) d_X4_heldAtEnd_23 (by decide) ?_
          refine Tr.istore_n (pc := 24) (i := 1) (ls2 := [(1, (0, 0)), (0, (2, 15)), (2, (0, p12_2))]) d_X4_heldAtEnd_24 rfl (by decide) rfl ?_
          refine Tr.iconst (pc := 25) d_X4_heldAtEnd_25 (by decide) ?_
          refine Tr.istore_n (pc := 26) (i := 3) (ls2 := [(3, (0, 0)), (1, (0, 0)), (0, (2, 15)), (2, (0, p12_2))]) d_X4_heldAtEnd_26 rfl (by decide) rfl ?_
          have J27 : ∀ (n27 : Nat) (M : Mem) (p27_1 p27_3 : Int), St Tru ws_X4_heldAtEnd_15 as_X4_heldAtEnd_15 M0 M → (0 ≤ p27_1 ∧ p27_1 ≤ 1) → (0 ≤ p27_3 ∧ p27_3 ≤ 60) → (0 ≤ p12_2 ∧ p12_2 ≤ 399) → (60 - p27_3).toNat < n27 → Tr l K 1 mX4_heldAtEnd 27 [(0, (2, 15)), (1, (0, p27_1)), (2, (0, p12_2)), (3, (0, p27_3))] [] M (q_X4_heldAtEnd_15 M0) := by
            intro n27
            induction n27 with
            | zero => intro M p27_1 p27_3 hS bp27_1 bp27_3 z27p12_2  hm27; exact absurd hm27 (Nat.not_lt_zero _)
            | succ n27 J27 =>
              intro M p27_1 p27_3 hS bp27_1 bp27_3 z27p12_2  hm27
              refine Tr.iload_n (pc := 27) (i := 3) d_X4_heldAtEnd_27 rfl rfl ?_
              refine Tr.aload_n (pc := 28) (i := 0) d_X4_heldAtEnd_28 rfl rfl ?_
              refine Tr.getf (pc := 29) d_X4_heldAtEnd_29 f_4_45 (by decide) (by decide) (ty_15 hS.1.1) ?_
              refine Tr.gen (P := fun v => 0 ≤ v ∧ v ≤ 60) (ir_15_0 hS.1.2.1) (fun r29 er29 br29 => ?_)
              refine Tr.icmp_ge (pc := 32) (tgt := 96) d_X4_heldAtEnd_32 rfl (fun c32 => ?_) (fun c32 => ?_)
              · refine Tr.iincV (pc := 96) (n2 := (p12_2 + 1)) (ls2 := [(2, (0, (p12_2 + 1))), (0, (2, 15)), (1, (0, p27_1)), (3, (0, p27_3))]) d_X4_heldAtEnd_96 rfl (by decide) ((w32_id (by omega)).trans (by omega)) rfl ?_
                refine Tr.goto (pc := 99) (tgt := 12) d_X4_heldAtEnd_99 rfl ?_
                refine Tr.pick [1, 2, 0] (ls2 := [(0, (2, 15)), (1, (0, p27_1)), (2, (0, (p12_2 + 1)))]) rfl ?_
                exact J12 _ _ _ hS (by omega) (by omega) (by omega)
              · refine Tr.aload_n (pc := 35) (i := 0) d_X4_heldAtEnd_35 rfl rfl ?_
                refine Tr.iload_n (pc := 36) (i := 3) d_X4_heldAtEnd_36 rfl rfl ?_
                refine Tr.callV (pc := 37) (as := [_]) d_X4_heldAtEnd_37 s_4_64 ok_X4_heldBehind rfl rfl (Nat.le_of_ble_eq_true rfl) (Nat.le_of_ble_eq_true rfl) (by decide) (ty_15 hS.1.1) ?_
                refine Tr.imp (Tr.deep (by decide) (sp_X4_heldBehind_15_w13 hS.1 p27_3 (by omega))) ?_
                rintro M37 _ ⟨h37, r37, rfl, lr37, ur37⟩
                have hS := St.tr hS h37 (by decide) (by decide)
                refine Tr.sc [(0, r37)] rfl ?_
                refine Tr.istore (pc := 40) (i := 4) (ls2 := [(4, (0, r37)), (0, (2, 15)), (1, (0, p27_1)), (2, (0, p12_2)), (3, (0, p27_3))]) d_X4_heldAtEnd_40 (by decide) rfl ?_
                refine Tr.aload_n (pc := 42) (i := 0) d_X4_heldAtEnd_42 rfl rfl ?_
                refine Tr.aload_n (pc := 43) (i := 0) d_X4_heldAtEnd_43 rfl rfl ?_
                refine Tr.getf (pc := 44) d_X4_heldAtEnd_44 f_4_21 (by decide) (by decide) (ty_15 hS.1.1) ?_
                refine Tr.tp 19 (fx_15_4 hS.1.1) ?_
                refine Tr.iload_n (pc := 47) (i := 3) d_X4_heldAtEnd_47 rfl rfl ?_
                refine Tr.iald (pc := 48) d_X4_heldAtEnd_48 (ty_19 hS.1.1) (by omega) (by omega) ?_
                refine Tr.gen (P := fun v => (-2147483648) ≤ v ∧ v ≤ 2147483647) (ar_19 hS.1.2.1 _) (fun r48 er48 br48 => ?_)
                refine Tr.iload (pc := 49) (i := 4) d_X4_heldAtEnd_49 rfl ?_
                refine Tr.callV (pc := 51) (as := [_, _]) d_X4_heldAtEnd_51 s_4_67 ok_X4_spread rfl rfl (Nat.le_of_ble_eq_true rfl) (Nat.le_of_ble_eq_true rfl) (by decide) (ty_15 hS.1.1) ?_
                refine Tr.imp (Tr.deep (by decide) (sp_X4_spread_15 hS.1 r48 (by omega) r37 (by omega))) ?_
                rintro M51 _ ⟨h51, r51, rfl, lr51, ur51⟩
                have hS := St.tr hS h51 (by decide) (by decide)
                refine Tr.sc [(0, r51)] rfl ?_
                refine Tr.istore (pc := 54) (i := 5) (ls2 := [(5, (0, r51)), (4, (0, r37)), (0, (2, 15)), (1, (0, p27_1)), (2, (0, p12_2)), (3, (0, p27_3))]) d_X4_heldAtEnd_54 (by decide) rfl ?_
                refine Tr.aload_n (pc := 56) (i := 0) d_X4_heldAtEnd_56 rfl rfl ?_
                refine Tr.aload_n (pc := 57) (i := 0) d_X4_heldAtEnd_57 rfl rfl ?_
                refine Tr.getf (pc := 58) d_X4_heldAtEnd_58 f_4_24 (by decide) (by decide) (ty_15 hS.1.1) ?_
                refine Tr.tp 20 (fx_15_5 hS.1.1) ?_
                refine Tr.iload_n (pc := 61) (i := 3) d_X4_heldAtEnd_61 rfl rfl ?_
                refine Tr.iald (pc := 62) d_X4_heldAtEnd_62 (ty_20 hS.1.1) (by omega) (by omega) ?_
                refine Tr.gen (P := fun v => (-2147483648) ≤ v ∧ v ≤ 2147483647) (ar_20 hS.1.2.1 _) (fun r62 er62 br62 => ?_)
                refine Tr.iload (pc := 63) (i := 4) d_X4_heldAtEnd_63 rfl ?_
                refine Tr.callV (pc := 65) (as := [_, _]) d_X4_heldAtEnd_65 s_4_67 ok_X4_spread rfl rfl (Nat.le_of_ble_eq_true rfl) (Nat.le_of_ble_eq_true rfl) (by decide) (ty_15 hS.1.1) ?_
                refine Tr.imp (Tr.deep (by decide) (sp_X4_spread_15 hS.1 r62 (by omega) r37 (by omega))) ?_
                rintro M65 _ ⟨h65, r65, rfl, lr65, ur65⟩
                have hS := St.tr hS h65 (by decide) (by decide)
                refine Tr.sc [(0, r65)] rfl ?_
                refine Tr.istore (pc := 68) (i := 6) (ls2 := [(6, (0, r65)), (5, (0, r51)), (4, (0, r37)), (0, (2, 15)), (1, (0, p27_1)), (2, (0, p12_2)), (3, (0, p27_3))]) d_X4_heldAtEnd_68 (by decide) rfl ?_
                refine Tr.iload_n (pc := 70) (i := 1) d_X4_heldAtEnd_70 rfl rfl ?_
                have J89 : ∀ (M : Mem) (q89_0 : Int), St Tru ws_X4_heldAtEnd_15 as_X4_heldAtEnd_15 M0 M → (0 ≤ q89_0 ∧ q89_0 ≤ 1) → rd M 15 0 = r29 → rd M 19 p27_3 = r48 → rd M 20 p27_3 = r62 → Tr l K 1 mX4_heldAtEnd 89 [(0, (2, 15)), (2, (0, p12_2)), (3, (0, p27_3))] [(0, q89_0)] M (q_X4_heldAtEnd_15 M0) := by
                  intro M q89_0 hS bq89_0 k89_15_0 k89_19_p27_310 k89_20_p27_310
                  refine Tr.istore_n (pc := 89) (i := 1) (ls2 := [(1, (0, q89_0)), (0, (2, 15)), (2, (0, p12_2)), (3, (0, p27_3))]) d_X4_heldAtEnd_89 rfl (by decide) rfl ?_
                  refine Tr.iincV (pc := 90) (n2 := (p27_3 + 1)) (ls2 := [(3, (0, (p27_3 + 1))), (1, (0, q89_0)), (0, (2, 15)), (2, (0, p12_2))]) d_X4_heldAtEnd_90 rfl (by decide) ((w32_id (by omega)).trans (by omega)) rfl ?_
                  refine Tr.goto (pc := 93) (tgt := 27) d_X4_heldAtEnd_93 rfl ?_
                  refine Tr.pick [2, 1, 3, 0] (ls2 := [(0, (2, 15)), (1, (0, q89_0)), (2, (0, p12_2)), (3, (0, (p27_3 + 1)))]) rfl ?_
                  exact J27 _ _ _ hS (by omega) (by omega) (by omega) (by omega)
                have J84 : ∀ (M : Mem), St Tru ws_X4_heldAtEnd_15 as_X4_heldAtEnd_15 M0 M → rd M 15 0 = r29 → rd M 19 p27_3 = r48 → rd M 20 p27_3 = r62 → Tr l K 1 mX4_heldAtEnd 84 [(0, (2, 15)), (2, (0, p12_2)), (3, (0, p27_3))] [] M (q_X4_heldAtEnd_15 M0) := by
                  intro M  hS  k84_15_0 k84_19_p27_310 k84_20_p27_310
                  refine Tr.iconst (pc := 84) d_X4_heldAtEnd_84 (by decide) ?_
                  refine Tr.goto (pc := 85) (tgt := 89) d_X4_heldAtEnd_85 rfl ?_
                  refine Tr.pick [0, 1, 2] (ls2 := [(0, (2, 15)), (2, (0, p12_2)), (3, (0, p27_3))]) rfl ?_
                  exact J89 _ _ hS (by omega) k84_15_0 k84_19_p27_310 k84_20_p27_310
                refine Tr.if_ne (pc := 71) (tgt := 84) d_X4_heldAtEnd_71 rfl (fun c71 => ?_) (fun c71 => ?_)
                · refine Tr.pick [3, 5, 6] (ls2 := [(0, (2, 15)), (2, (0, p12_2)), (3, (0, p27_3))]) rfl ?_
                  exact J84 _ hS ((St.kp h65 (by decide) (by decide) (by decide)).trans ((St.kp h51 (by decide) (by decide) (by decide)).trans ((St.kp h37 (by decide) (by decide) (by decide)).trans er29))) ((St.ka h65 (by decide) (by decide) (by decide)).trans ((St.ka h51 (by decide) (by decide) (by decide)).trans er48)) ((St.ka h65 (by decide) (by decide) (by decide)).trans er62)
                · refine Tr.iload (pc := 74) (i := 5) d_X4_heldAtEnd_74 rfl ?_
                  refine Tr.if_ne (pc := 76) (tgt := 84) d_X4_heldAtEnd_76 rfl (fun c76 => ?_) (fun c76 => ?_)
                  · refine Tr.pick [3, 5, 6] (ls2 := [(0, (2, 15)), (2, (0, p12_2)), (3, (0, p27_3))]) rfl ?_
                    exact J84 _ hS ((St.kp h65 (by decide) (by decide) (by decide)).trans ((St.kp h51 (by decide) (by decide) (by decide)).trans ((St.kp h37 (by decide) (by decide) (by decide)).trans er29))) ((St.ka h65 (by decide) (by decide) (by decide)).trans ((St.ka h51 (by decide) (by decide) (by decide)).trans er48)) ((St.ka h65 (by decide) (by decide) (by decide)).trans er62)
                  · refine Tr.iload (pc := 79) (i := 6) d_X4_heldAtEnd_79 rfl ?_
                    refine Tr.if_eq (pc := 81) (tgt := 88) d_X4_heldAtEnd_81 rfl (fun c81 => ?_) (fun c81 => ?_)
                    · refine Tr.iconst (pc := 88) d_X4_heldAtEnd_88 (by decide) ?_
                      refine Tr.pick [3, 5, 6] (ls2 := [(0, (2, 15)), (2, (0, p12_2)), (3, (0, p27_3))]) rfl ?_
                      exact J89 _ _ hS (by omega) ((St.kp h65 (by decide) (by decide) (by decide)).trans ((St.kp h51 (by decide) (by decide) (by decide)).trans ((St.kp h37 (by decide) (by decide) (by decide)).trans er29))) ((St.ka h65 (by decide) (by decide) (by decide)).trans ((St.ka h51 (by decide) (by decide) (by decide)).trans er48)) ((St.ka h65 (by decide) (by decide) (by decide)).trans er62)
                    · refine Tr.pick [3, 5, 6] (ls2 := [(0, (2, 15)), (2, (0, p12_2)), (3, (0, p27_3))]) rfl ?_
                      exact J84 _ hS ((St.kp h65 (by decide) (by decide) (by decide)).trans ((St.kp h51 (by decide) (by decide) (by decide)).trans ((St.kp h37 (by decide) (by decide) (by decide)).trans er29))) ((St.ka h65 (by decide) (by decide) (by decide)).trans ((St.ka h51 (by decide) (by decide) (by decide)).trans er48)) ((St.ka h65 (by decide) (by decide) (by decide)).trans er62)
          refine Tr.pick [2, 1, 3, 0] (ls2 := [(0, (2, 15)), (1, (0, 0)), (2, (0, p12_2)), (3, (0, 0))]) rfl ?_
          exact J27 _ _ _ _ hS (by omega) (by omega) (by omega) (Nat.lt_succ_self _)
  refine Tr.pick [2, 1, 0] (ls2 := [(0, (2, 15)), (1, (0, 1)), (2, (0, 0))]) rfl ?_
  exact J12 _ _ _ _ hS (by omega) (by omega) (Nat.lt_succ_self _)

def ws_X11_never_0 : List (Int × Int) := []
def as_X11_never_0 : List Int := [26]
def q_X11_never_0 (M0 M' : Mem) (r : Option PV) : Prop := St Tru ws_X11_never_0 as_X11_never_0 M0 M' ∧ ∃ v : Int, r = some (0, v) ∧ (-2147483648) ≤ v ∧ v ≤ 2147483647
set_option maxRecDepth 100000 in
set_option maxHeartbeats 4000000 in
theorem sp_X11_never_0 {l : Launch} {K : EC} {M0 : Mem} (hI : In Tru M0) (en_0_4 : rd M0 0 4 = 7)   : Tr l K 2 mX11_never 0 [(0, (2, 0))] [] M0 (q_X11_never_0 M0) := by
  have hS : St Tru ws_X11_never_0 as_X11_never_0 M0 M0 := St.rf hI
  refine Tr.aload_n (pc := 0) (i := 0) d_X11_never_0 rfl rfl ?_
  refine Tr.getf (pc := 1) d_X11_never_1 f_11_30 (by decide) (by decide) (ty_0 hS.1.1) ?_
  refine Tr.tp 7 ((St.kp hS (by decide) (by decide) (by decide)).trans en_0_4) ?_
  refine Tr.getf (pc := 4) d_X11_never_4 f_11_115 (by decide) (by decide) (ty_7 hS.1.1) ?_
  refine Tr.tp 15 (fx_7_11 hS.1.1) ?_
  refine Tr.callV (pc := 7) (as := []) d_X11_never_7 s_11_307 ok_X4_heldAtEnd rfl rfl (Nat.le_of_ble_eq_true rfl) (Nat.le_of_ble_eq_true rfl) (by decide) (ty_15 hS.1.1) ?_
  refine Tr.imp (Tr.deep (by decide) (sp_X4_heldAtEnd_15 hS.1 )) ?_
  rintro M7 _ ⟨h7, r7, rfl, lr7, ur7⟩
  have hS := St.tr hS h7 (by decide) (by decide)
  refine Tr.sc [(0, r7)] rfl ?_
  exact Tr.iret (pc := 10) d_X11_never_10 rfl ⟨hS, _, rfl, by omega, by omega⟩

def ws_X11_lasts_0 : List (Int × Int) := []
def as_X11_lasts_0 : List Int := []
def q_X11_lasts_0 (M0 M' : Mem) (r : Option PV) : Prop := St Tru ws_X11_lasts_0 as_X11_lasts_0 M0 M' ∧ ∃ v : Int, r = some (0, v) ∧ (-1) ≤ v ∧ v ≤ (-1)
set_option maxRecDepth 100000 in
set_option maxHeartbeats 4000000 in
theorem sp_X11_lasts_0 {l : Launch} {K : EC} {M0 : Mem} (hI : In Tru M0) (en_0_9 : rd M0 0 9 = 0) (a1 : Int) (ha1 : (-2147483648) ≤ a1 ∧ a1 ≤ 2147483647) (a2 : Int) (ha2 : (-2147483648) ≤ a2 ∧ a2 ≤ 2147483647) (a3 : Int) (ha3 : (-2147483648) ≤ a3 ∧ a3 ≤ 2147483647)  : Tr l K 0 mX11_lasts 0 [(0, (2, 0)), (1, (0, a1)), (2, (0, a2)), (3, (0, a3))] [] M0 (q_X11_lasts_0 M0) := by
  have hS : St Tru ws_X11_lasts_0 as_X11_lasts_0 M0 M0 := St.rf hI
  refine Tr.aload_n (pc := 0) (i := 0) d_X11_lasts_0 rfl rfl ?_
  refine Tr.getz (pc := 1) d_X11_lasts_1 f_11_109 (by decide) (ty_0 hS.1.1) ?_
  refine Tr.tp 0 ((St.kp hS (by decide) (by decide) (by decide)).trans en_0_9) ?_
  refine Tr.if_eq (pc := 4) (tgt := 18) d_X11_lasts_4 rfl (fun _ => ?_) (fun hc => absurd (by omega) hc)
  refine Tr.iconst (pc := 18) d_X11_lasts_18 (by decide) ?_
  exact Tr.iret (pc := 19) d_X11_lasts_19 rfl ⟨hS, _, rfl, by omega, by omega⟩

def ws_X3_sleepOfAll_7 : List (Int × Int) := []
def as_X3_sleepOfAll_7 : List Int := []
def q_X3_sleepOfAll_7 (M0 M' : Mem) (r : Option PV) : Prop := St Tru ws_X3_sleepOfAll_7 as_X3_sleepOfAll_7 M0 M' ∧ ∃ v : Int, r = some (0, v) ∧ (-2147483648) ≤ v ∧ v ≤ 2147483647
set_option maxRecDepth 100000 in
set_option maxHeartbeats 4000000 in
theorem sp_X3_sleepOfAll_7 {l : Launch} {K : EC} {M0 : Mem} (hI : In Tru M0)    : Tr l K 0 mX3_sleepOfAll 0 [(0, (2, 7))] [] M0 (q_X3_sleepOfAll_7 M0) := by
  have hS : St Tru ws_X3_sleepOfAll_7 as_X3_sleepOfAll_7 M0 M0 := St.rf hI
  refine Tr.iconst (pc := 0) d_X3_sleepOfAll_0 (by decide) ?_
  refine Tr.istore_n (pc := 1) (i := 1) (ls2 := [(1, (0, 0)), (0, (2, 7))]) d_X3_sleepOfAll_1 rfl (by decide) rfl ?_
  refine Tr.iconst (pc := 2) d_X3_sleepOfAll_2 (by decide) ?_
  refine Tr.istore_n (pc := 3) (i := 2) (ls2 := [(2, (0, 0)), (1, (0, 0)), (0, (2, 7))]) d_X3_sleepOfAll_3 rfl (by decide) rfl ?_
  have J4 : ∀ (n4 : Nat) (M : Mem) (p4_1 p4_2 : Int), St Tru ws_X3_sleepOfAll_7 as_X3_sleepOfAll_7 M0 M → ((-2147483648) ≤ p4_1 ∧ p4_1 ≤ 2147483647) → (0 ≤ p4_2 ∧ p4_2 ≤ 6) → (6 - p4_2).toNat < n4 → Tr l K 0 mX3_sleepOfAll 4 [(0, (2, 7)), (1, (0, p4_1)), (2, (0, p4_2))] [] M (q_X3_sleepOfAll_7 M0) := by
    intro n4
    induction n4 with
    | zero => intro M p4_1 p4_2 hS bp4_1 bp4_2  hm4; exact absurd hm4 (Nat.not_lt_zero _)
    | succ n4 J4 =>
      intro M p4_1 p4_2 hS bp4_1 bp4_2  hm4
      refine Tr.iload_n (pc := 4) (i := 2) d_X3_sleepOfAll_4 rfl rfl ?_
      refine Tr.aload_n (pc := 5) (i := 0) d_X3_sleepOfAll_5 rfl rfl ?_
      refine Tr.getf (pc := 6) d_X3_sleepOfAll_6 f_3_11 (by decide) (by decide) (ty_7 hS.1.1) ?_
      refine Tr.tp 8 (fx_7_4 hS.1.1) ?_
      refine Tr.iconst (pc := 9) d_X3_sleepOfAll_9 (by decide) ?_
      refine Tr.iald (pc := 10) d_X3_sleepOfAll_10 (ty_8 hS.1.1) (by omega) (by omega) ?_
      refine Tr.gen (P := fun v => 0 ≤ v ∧ v ≤ 6) (ir_8_0 hS.1.2.1) (fun r10 er10 br10 => ?_)
      refine Tr.icmp_ge (pc := 11) (tgt := 33) d_X3_sleepOfAll_11 rfl (fun c11 => ?_) (fun c11 => ?_)
      · refine Tr.iload_n (pc := 33) (i := 1) d_X3_sleepOfAll_33 rfl rfl ?_
        exact Tr.iret (pc := 34) d_X3_sleepOfAll_34 rfl ⟨hS, _, rfl, by omega, by omega⟩
      · refine Tr.iload_n (pc := 14) (i := 1) d_X3_sleepOfAll_14 rfl rfl ?_
        refine Tr.aload_n (pc := 15) (i := 0) d_X3_sleepOfAll_15 rfl rfl ?_
        refine Tr.getf (pc := 16) d_X3_sleepOfAll_16 f_3_15 (by decide) (by decide) (ty_7 hS.1.1) ?_
        refine Tr.tp 9 (fx_7_5 hS.1.1) ?_
        refine Tr.iload_n (pc := 19) (i := 2) d_X3_sleepOfAll_19 rfl rfl ?_
        refine Tr.iconst (pc := 20) d_X3_sleepOfAll_20 (by decide) ?_
        refine Tr.imul (pc := 21) d_X3_sleepOfAll_21 ?_
        refine Tr.tp (4 * p4_2) ((w32_id (by omega)).trans (by omega)) ?_
        refine Tr.iconst (pc := 22) d_X3_sleepOfAll_22 (by decide) ?_
        refine Tr.iadd (pc := 23) d_X3_sleepOfAll_23 ?_
        refine Tr.tp (4 * p4_2) ((w32_id (by omega)).trans (by omega)) ?_
        refine Tr.iald (pc := 24) d_X3_sleepOfAll_24 (ty_9 hS.1.1) (by omega) (by omega) ?_
        refine Tr.gen (P := fun v => (-1) ≤ v ∧ v ≤ 999) (ar_9 hS.1.2.1 _) (fun r24 er24 br24 => ?_)
        refine Tr.iadd (pc := 25) d_X3_sleepOfAll_25 ?_
        refine Tr.gen (P := fun v => (-2147483648) ≤ v ∧ v ≤ 2147483647) (w32_b _) (fun r25 er25 br25 => ?_)
        refine Tr.istore_n (pc := 26) (i := 1) (ls2 := [(1, (0, r25)), (0, (2, 7)), (2, (0, p4_2))]) d_X3_sleepOfAll_26 rfl (by decide) rfl ?_
        refine Tr.iincV (pc := 27) (n2 := (p4_2 + 1)) (ls2 := [(2, (0, (p4_2 + 1))), (1, (0, r25)), (0, (2, 7))]) d_X3_sleepOfAll_27 rfl (by decide) ((w32_id (by omega)).trans (by omega)) rfl ?_
        refine Tr.goto (pc := 30) (tgt := 4) d_X3_sleepOfAll_30 rfl ?_
        refine Tr.pick [2, 1, 0] (ls2 := [(0, (2, 7)), (1, (0, r25)), (2, (0, (p4_2 + 1)))]) rfl ?_
        exact J4 _ _ _ hS (by omega) (by omega) (by omega)
  refine Tr.pick [2, 1, 0] (ls2 := [(0, (2, 7)), (1, (0, 0)), (2, (0, 0))]) rfl ?_
  exact J4 _ _ _ _ hS (by omega) (by omega) (Nat.lt_succ_self _)

def ws_X11_lasts_0_w1 : List (Int × Int) := []
def as_X11_lasts_0_w1 : List Int := []
def q_X11_lasts_0_w1 (M0 M' : Mem) (r : Option PV) : Prop := St Tru ws_X11_lasts_0_w1 as_X11_lasts_0_w1 M0 M' ∧ ∃ v : Int, r = some (0, v) ∧ (-2147483648) ≤ v ∧ v ≤ 2147483647
set_option maxRecDepth 100000 in
set_option maxHeartbeats 4000000 in
theorem sp_X11_lasts_0_w1 {l : Launch} {K : EC} {M0 : Mem} (hI : In Tru M0) (en_0_4 : rd M0 0 4 = 7) (en_0_9 : rd M0 0 9 = 1) (a1 : Int) (ha1 : (-2147483648) ≤ a1 ∧ a1 ≤ 2147483647) (a2 : Int) (ha2 : (-2147483648) ≤ a2 ∧ a2 ≤ 2147483647) (a3 : Int) (ha3 : (-2147483648) ≤ a3 ∧ a3 ≤ 2147483647)  : Tr l K 1 mX11_lasts 0 [(0, (2, 0)), (1, (0, a1)), (2, (0, a2)), (3, (0, a3))] [] M0 (q_X11_lasts_0_w1 M0) := by
  have hS : St Tru ws_X11_lasts_0_w1 as_X11_lasts_0_w1 M0 M0 := St.rf hI
  refine Tr.aload_n (pc := 0) (i := 0) d_X11_lasts_0 rfl rfl ?_
  refine Tr.getz (pc := 1) d_X11_lasts_1 f_11_109 (by decide) (ty_0 hS.1.1) ?_
  refine Tr.tp 1 ((St.kp hS (by decide) (by decide) (by decide)).trans en_0_9) ?_
  refine Tr.if_eq (pc := 4) (tgt := 18) d_X11_lasts_4 rfl (fun hc => absurd hc (by omega)) (fun _ => ?_)
  refine Tr.iload_n (pc := 7) (i := 1) d_X11_lasts_7 rfl rfl ?_
  refine Tr.if_lt (pc := 8) (tgt := 18) d_X11_lasts_8 rfl (fun c8 => ?_) (fun c8 => ?_)
  · refine Tr.iconst (pc := 18) d_X11_lasts_18 (by decide) ?_
    exact Tr.iret (pc := 19) d_X11_lasts_19 rfl ⟨hS, _, rfl, by omega, by omega⟩
  · refine Tr.iload_n (pc := 11) (i := 1) d_X11_lasts_11 rfl rfl ?_
    refine Tr.ldcw (pc := 12) d_X11_lasts_12 k_11_310 (by decide) ?_
    refine Tr.icmp_le (pc := 15) (tgt := 20) d_X11_lasts_15 rfl (fun c15 => ?_) (fun c15 => ?_)
    · refine Tr.iload_n (pc := 20) (i := 2) d_X11_lasts_20 rfl rfl ?_
      refine Tr.if_lt (pc := 21) (tgt := 42) d_X11_lasts_21 rfl (fun c21 => ?_) (fun c21 => ?_)
      · refine Tr.iconst (pc := 42) d_X11_lasts_42 (by decide) ?_
        exact Tr.iret (pc := 43) d_X11_lasts_43 rfl ⟨hS, _, rfl, by omega, by omega⟩
      · refine Tr.iload_n (pc := 24) (i := 2) d_X11_lasts_24 rfl rfl ?_
        refine Tr.sipush (pc := 25) d_X11_lasts_25 rfl (by decide) ?_
        refine Tr.icmp_gt (pc := 28) (tgt := 42) d_X11_lasts_28 rfl (fun c28 => ?_) (fun c28 => ?_)
        · refine Tr.iconst (pc := 42) d_X11_lasts_42 (by decide) ?_
          exact Tr.iret (pc := 43) d_X11_lasts_43 rfl ⟨hS, _, rfl, by omega, by omega⟩
        · refine Tr.iload_n (pc := 31) (i := 3) d_X11_lasts_31 rfl rfl ?_
          refine Tr.if_lt (pc := 32) (tgt := 42) d_X11_lasts_32 rfl (fun c32 => ?_) (fun c32 => ?_)
          · refine Tr.iconst (pc := 42) d_X11_lasts_42 (by decide) ?_
            exact Tr.iret (pc := 43) d_X11_lasts_43 rfl ⟨hS, _, rfl, by omega, by omega⟩
          · refine Tr.iload_n (pc := 35) (i := 3) d_X11_lasts_35 rfl rfl ?_
            refine Tr.ldcw (pc := 36) d_X11_lasts_36 k_11_311 (by decide) ?_
            refine Tr.icmp_le (pc := 39) (tgt := 44) d_X11_lasts_39 rfl (fun c39 => ?_) (fun c39 => ?_)
            · refine Tr.iload_n (pc := 44) (i := 2) d_X11_lasts_44 rfl rfl ?_
              refine Tr.i2l (pc := 45) d_X11_lasts_45 ?_
              refine Tr.aload_n (pc := 46) (i := 0) d_X11_lasts_46 rfl rfl ?_
              refine Tr.getf (pc := 47) d_X11_lasts_47 f_11_46 (by decide) (by decide) (ty_0 hS.1.1) ?_
              refine Tr.tp 48 (fx_0_7 hS.1.1) ?_
              refine Tr.getf (pc := 50) d_X11_lasts_50 f_11_155 (by decide) (by decide) (ty_48 hS.1.1) ?_
              refine Tr.gen (P := fun v => (-2147483648) ≤ v ∧ v ≤ 2147483647) (ir_48_10 hS.1.2.1) (fun r50 er50 br50 => ?_)
              refine Tr.i2l (pc := 53) d_X11_lasts_53 ?_
              refine Tr.lmul (pc := 54) d_X11_lasts_54 ?_
              refine Tr.gen (P := fun v => (-9223372036854775808) ≤ v ∧ v ≤ 9223372036854775807) (w64_b _) (fun r54 er54 br54 => ?_)
              refine Tr.iload_n (pc := 55) (i := 3) d_X11_lasts_55 rfl rfl ?_
              refine Tr.i2l (pc := 56) d_X11_lasts_56 ?_
              refine Tr.aload_n (pc := 57) (i := 0) d_X11_lasts_57 rfl rfl ?_
              refine Tr.getf (pc := 58) d_X11_lasts_58 f_11_30 (by decide) (by decide) (ty_0 hS.1.1) ?_
              refine Tr.tp 7 ((St.kp hS (by decide) (by decide) (by decide)).trans en_0_4) ?_
              refine Tr.callV (pc := 61) (as := []) d_X11_lasts_61 s_11_312 ok_X3_sleepOfAll rfl rfl (Nat.le_of_ble_eq_true rfl) (Nat.le_of_ble_eq_true rfl) (by decide) (ty_7 hS.1.1) ?_
              refine Tr.imp (Tr.deep (by decide) (sp_X3_sleepOfAll_7 hS.1 )) ?_
              rintro M61 _ ⟨h61, r61, rfl, lr61, ur61⟩
              have hS := St.tr hS h61 (by decide) (by decide)
              refine Tr.sc [(0, r61), (1, a3), (1, r54)] rfl ?_
              refine Tr.i2l (pc := 64) d_X11_lasts_64 ?_
              refine Tr.lmul (pc := 65) d_X11_lasts_65 ?_
              refine Tr.gen (P := fun v => (-9223372036854775808) ≤ v ∧ v ≤ 9223372036854775807) (w64_b _) (fun r65 er65 br65 => ?_)
              refine Tr.ladd (pc := 66) d_X11_lasts_66 ?_
              refine Tr.gen (P := fun v => (-9223372036854775808) ≤ v ∧ v ≤ 9223372036854775807) (w64_b _) (fun r66 er66 br66 => ?_)
              refine Tr.lstore (pc := 67) (i := 4) (ls2 := [(4, (1, r66)), (0, (2, 0)), (1, (0, a1)), (2, (0, a2)), (3, (0, a3))]) d_X11_lasts_67 (by decide) rfl ?_
              refine Tr.lload (pc := 69) (i := 4) d_X11_lasts_69 rfl ?_
              refine Tr.lconst (pc := 71) (v := 0) d_X11_lasts_71 rfl (by decide) ?_
              refine Tr.lcmp (pc := 72) d_X11_lasts_72 ?_
              refine Tr.gen (P := fun v => (v = 1 ∧ 0 < r66) ∨ (v = 0 ∧ r66 = 0) ∨ (v = -1 ∧ r66 < 0)) (f_lcmp_c _ _) (fun r72 er72 br72 => ?_)
              refine Tr.if_gt (pc := 73) (tgt := 80) d_X11_lasts_73 rfl (fun c73 => ?_) (fun c73 => ?_)
              · refine Tr.iload_n (pc := 80) (i := 1) d_X11_lasts_80 rfl rfl ?_
                refine Tr.i2l (pc := 81) d_X11_lasts_81 ?_
                refine Tr.lload (pc := 82) (i := 4) d_X11_lasts_82 rfl ?_
                refine Tr.ldiv (pc := 84) d_X11_lasts_84 (by omega) ?_
                refine Tr.gen (P := fun v => (-9223372036854775808) ≤ v ∧ v ≤ 9223372036854775807) (w64_b _) (fun r84 er84 br84 => ?_)
                refine Tr.l2i (pc := 85) d_X11_lasts_85 ?_
                refine Tr.gen (P := fun v => (-2147483648) ≤ v ∧ v ≤ 2147483647) (w32_b _) (fun r85 er85 br85 => ?_)
                exact Tr.iret (pc := 86) d_X11_lasts_86 rfl ⟨hS, _, rfl, by omega, by omega⟩
              · refine Tr.iconst (pc := 76) d_X11_lasts_76 (by decide) ?_
                refine Tr.goto (pc := 77) (tgt := 86) d_X11_lasts_77 rfl ?_
                exact Tr.iret (pc := 86) d_X11_lasts_86 rfl ⟨hS, _, rfl, by omega, by omega⟩
            · refine Tr.iconst (pc := 42) d_X11_lasts_42 (by decide) ?_
              exact Tr.iret (pc := 43) d_X11_lasts_43 rfl ⟨hS, _, rfl, by omega, by omega⟩
    · refine Tr.iconst (pc := 18) d_X11_lasts_18 (by decide) ?_
      exact Tr.iret (pc := 19) d_X11_lasts_19 rfl ⟨hS, _, rfl, by omega, by omega⟩
