def ws_X2_differences_107_w20 : List (Int × Int) := []
def as_X2_differences_107_w20 : List Int := []
def q_X2_differences_107_w20 (M0 M' : Mem) (r : Option PV) : Prop := St Tru ws_X2_differences_107_w20 as_X2_differences_107_w20 M0 M' ∧ ∃ v : Int, r = some (0, v) ∧ (-2147483648) ≤ v ∧ v ≤ 2147483647
set_option maxRecDepth 100000 in
set_option maxHeartbeats 4000000 in
theorem sp_X2_differences_107_w20 {l : Launch} {K : EC} {M0 : Mem} (hI : In Tru M0)  (a1 : Int) (ha1 : 0 ≤ a1 ∧ a1 ≤ 5) (a2 : Int) (ha2 : 0 ≤ a2 ∧ a2 ≤ 15) (a3 : Int) (ha3 : 0 ≤ a3 ∧ a3 ≤ 15) (a4 : Int) (ha4 : 0 ≤ a4 ∧ a4 ≤ 15)  : Tr l K 1 mX2_differences 0 [(0, (2, 107)), (1, (0, a1)), (2, (0, a2)), (3, (0, a3)), (4, (0, a4))] [] M0 (q_X2_differences_107_w20 M0) := by
  have hS : St Tru ws_X2_differences_107_w20 as_X2_differences_107_w20 M0 M0 := St.rf hI
  refine Tr.iconst (pc := 0) d_X2_differences_0 (by decide) ?_
  refine Tr.istore (pc := 1) (i := 5) (ls2 := [(5, (0, 0)), (0, (2, 107)), (1, (0, a1)), (2, (0, a2)), (3, (0, a3)), (4, (0, a4))]) d_X2_differences_1 (by decide) rfl ?_
  refine Tr.iconst (pc := 3) d_X2_differences_3 (by decide) ?_
  refine Tr.istore (pc := 4) (i := 6) (ls2 := [(6, (0, 0)), (5, (0, 0)), (0, (2, 107)), (1, (0, a1)), (2, (0, a2)), (3, (0, a3)), (4, (0, a4))]) d_X2_differences_4 (by decide) rfl ?_
  have J6 : ∀ (n6 : Nat) (M : Mem) (p6_5 p6_6 : Int), St Tru ws_X2_differences_107_w20 as_X2_differences_107_w20 M0 M → ((-2147483648) ≤ p6_5 ∧ p6_5 ≤ 2147483647) → (0 ≤ p6_6 ∧ p6_6 ≤ 12) → (12 - p6_6).toNat < n6 → Tr l K 1 mX2_differences 6 [(0, (2, 107)), (1, (0, a1)), (2, (0, a2)), (3, (0, a3)), (4, (0, a4)), (5, (0, p6_5)), (6, (0, p6_6))] [] M (q_X2_differences_107_w20 M0) := by
    intro n6
    induction n6 with
    | zero => intro M p6_5 p6_6 hS bp6_5 bp6_6  hm6; exact absurd hm6 (Nat.not_lt_zero _)
    | succ n6 J6 =>
      intro M p6_5 p6_6 hS bp6_5 bp6_6  hm6
      refine Tr.iload (pc := 6) (i := 6) d_X2_differences_6 rfl ?_
      refine Tr.aload_n (pc := 8) (i := 0) d_X2_differences_8 rfl rfl ?_
      refine Tr.getf (pc := 9) d_X2_differences_9 f_2_27 (by decide) (by decide) (ty_107 hS.1.1) ?_
      refine Tr.gen (P := fun v => 0 ≤ v ∧ v ≤ 12) (ir_107_0 hS.1.2.1) (fun r9 er9 br9 => ?_)
      refine Tr.icmp_ge (pc := 12) (tgt := 84) d_X2_differences_12 rfl (fun c12 => ?_) (fun c12 => ?_)
      · refine Tr.iload (pc := 84) (i := 5) d_X2_differences_84 rfl ?_
        exact Tr.iret (pc := 86) d_X2_differences_86 rfl ⟨hS, _, rfl, by omega, by omega⟩
      · refine Tr.iload (pc := 15) (i := 6) d_X2_differences_15 rfl ?_
        refine Tr.bipush (pc := 17) d_X2_differences_17 rfl (by decide) ?_
        refine Tr.imul (pc := 19) d_X2_differences_19 ?_
        refine Tr.tp (24 * p6_6) ((w32_id (by omega)).trans (by omega)) ?_
        refine Tr.iload_n (pc := 20) (i := 1) d_X2_differences_20 rfl rfl ?_
        refine Tr.iconst (pc := 21) d_X2_differences_21 (by decide) ?_
        refine Tr.imul (pc := 22) d_X2_differences_22 ?_
        refine Tr.tp (4 * a1) ((w32_id (by omega)).trans (by omega)) ?_
        refine Tr.iadd (pc := 23) d_X2_differences_23 ?_
        refine Tr.tp (4 * a1 + 24 * p6_6) ((w32_id (by omega)).trans (by omega)) ?_
        refine Tr.istore (pc := 24) (i := 7) (ls2 := [(7, (0, (4 * a1 + 24 * p6_6))), (0, (2, 107)), (1, (0, a1)), (2, (0, a2)), (3, (0, a3)), (4, (0, a4)), (5, (0, p6_5)), (6, (0, p6_6))]) d_X2_differences_24 (by decide) rfl ?_
        refine Tr.iload (pc := 26) (i := 5) d_X2_differences_26 rfl ?_
        refine Tr.aload_n (pc := 28) (i := 0) d_X2_differences_28 rfl rfl ?_
        refine Tr.getf (pc := 29) d_X2_differences_29 f_2_24 (by decide) (by decide) (ty_107 hS.1.1) ?_
        refine Tr.tp 112 (fx_107_6 hS.1.1) ?_
        refine Tr.iload (pc := 32) (i := 6) d_X2_differences_32 rfl ?_
        refine Tr.iald (pc := 34) d_X2_differences_34 (ty_112 hS.1.1) (by omega) (by omega) ?_
        refine Tr.gen (P := fun v => (-2147483648) ≤ v ∧ v ≤ 2147483647) (ar_112 hS.1.2.1 _) (fun r34 er34 br34 => ?_)
        refine Tr.iload_n (pc := 35) (i := 2) d_X2_differences_35 rfl rfl ?_
        refine Tr.aload_n (pc := 36) (i := 0) d_X2_differences_36 rfl rfl ?_
        refine Tr.getf (pc := 37) d_X2_differences_37 f_2_21 (by decide) (by decide) (ty_107 hS.1.1) ?_
        refine Tr.tp 111 (fx_107_5 hS.1.1) ?_
        refine Tr.iload (pc := 40) (i := 7) d_X2_differences_40 rfl ?_
        refine Tr.iconst (pc := 42) d_X2_differences_42 (by decide) ?_
        refine Tr.iadd (pc := 43) d_X2_differences_43 ?_
        refine Tr.tp (4 * a1 + 24 * p6_6) ((w32_id (by omega)).trans (by omega)) ?_
        refine Tr.iald (pc := 44) d_X2_differences_44 (ty_111 hS.1.1) (by omega) (by omega) ?_
        refine Tr.gen (P := fun v => (-2147483648) ≤ v ∧ v ≤ 2147483647) (ar_111 hS.1.2.1 _) (fun r44 er44 br44 => ?_)
        refine Tr.imul (pc := 45) d_X2_differences_45 ?_
        refine Tr.gen (P := fun v => (-2147483648) ≤ v ∧ v ≤ 2147483647) (w32_b _) (fun r45 er45 br45 => ?_)
        refine Tr.iadd (pc := 46) d_X2_differences_46 ?_
        refine Tr.gen (P := fun v => (-2147483648) ≤ v ∧ v ≤ 2147483647) (w32_b _) (fun r46 er46 br46 => ?_)
        refine Tr.iload_n (pc := 47) (i := 3) d_X2_differences_47 rfl rfl ?_
        refine Tr.aload_n (pc := 48) (i := 0) d_X2_differences_48 rfl rfl ?_
        refine Tr.getf (pc := 49) d_X2_differences_49 f_2_21 (by decide) (by decide) (ty_107 hS.1.1) ?_
        refine Tr.tp 111 (fx_107_5 hS.1.1) ?_
        refine Tr.iload (pc := 52) (i := 7) d_X2_differences_52 rfl ?_
        refine Tr.iconst (pc := 54) d_X2_differences_54 (by decide) ?_
        refine Tr.iadd (pc := 55) d_X2_differences_55 ?_
        refine Tr.tp (4 * a1 + 24 * p6_6 + 2) ((w32_id (by omega)).trans (by omega)) ?_
        refine Tr.iald (pc := 56) d_X2_differences_56 (ty_111 hS.1.1) (by omega) (by omega) ?_
        refine Tr.gen (P := fun v => (-2147483648) ≤ v ∧ v ≤ 2147483647) (ar_111 hS.1.2.1 _) (fun r56 er56 br56 => ?_)
        refine Tr.imul (pc := 57) d_X2_differences_57 ?_
        refine Tr.gen (P := fun v => (-2147483648) ≤ v ∧ v ≤ 2147483647) (w32_b _) (fun r57 er57 br57 => ?_)
        refine Tr.iadd (pc := 58) d_X2_differences_58 ?_
        refine Tr.gen (P := fun v => (-2147483648) ≤ v ∧ v ≤ 2147483647) (w32_b _) (fun r58 er58 br58 => ?_)
        refine Tr.iload (pc := 59) (i := 4) d_X2_differences_59 rfl ?_
        refine Tr.aload_n (pc := 61) (i := 0) d_X2_differences_61 rfl rfl ?_
        refine Tr.getf (pc := 62) d_X2_differences_62 f_2_21 (by decide) (by decide) (ty_107 hS.1.1) ?_
        refine Tr.tp 111 (fx_107_5 hS.1.1) ?_
        refine Tr.iload (pc := 65) (i := 7) d_X2_differences_65 rfl ?_
        refine Tr.iconst (pc := 67) d_X2_differences_67 (by decide) ?_
        refine Tr.iadd (pc := 68) d_X2_differences_68 ?_
        refine Tr.tp (4 * a1 + 24 * p6_6 + 3) ((w32_id (by omega)).trans (by omega)) ?_
        refine Tr.iald (pc := 69) d_X2_differences_69 (ty_111 hS.1.1) (by omega) (by omega) ?_
        refine Tr.gen (P := fun v => (-2147483648) ≤ v ∧ v ≤ 2147483647) (ar_111 hS.1.2.1 _) (fun r69 er69 br69 => ?_)
        refine Tr.imul (pc := 70) d_X2_differences_70 ?_
        refine Tr.gen (P := fun v => (-2147483648) ≤ v ∧ v ≤ 2147483647) (w32_b _) (fun r70 er70 br70 => ?_)
        refine Tr.iadd (pc := 71) d_X2_differences_71 ?_
        refine Tr.gen (P := fun v => (-2147483648) ≤ v ∧ v ≤ 2147483647) (w32_b _) (fun r71 er71 br71 => ?_)
        refine Tr.mabs (pc := 72) d_X2_differences_72 ml_2_67 mw_mabs (Nat.le_of_ble_eq_true rfl) ?_
        refine Tr.gen (P := fun v => (-2147483648) ≤ v ∧ v ≤ 2147483647) (f_abs_b (by omega)) (fun r72 er72 br72 => ?_)
        refine Tr.iadd (pc := 75) d_X2_differences_75 ?_
        refine Tr.gen (P := fun v => (-2147483648) ≤ v ∧ v ≤ 2147483647) (w32_b _) (fun r75 er75 br75 => ?_)
        refine Tr.istore (pc := 76) (i := 5) (ls2 := [(5, (0, r75)), (7, (0, (4 * a1 + 24 * p6_6))), (0, (2, 107)), (1, (0, a1)), (2, (0, a2)), (3, (0, a3)), (4, (0, a4)), (6, (0, p6_6))]) d_X2_differences_76 (by decide) rfl ?_
        refine Tr.iincV (pc := 78) (n2 := (p6_6 + 1)) (ls2 := [(6, (0, (p6_6 + 1))), (5, (0, r75)), (7, (0, (4 * a1 + 24 * p6_6))), (0, (2, 107)), (1, (0, a1)), (2, (0, a2)), (3, (0, a3)), (4, (0, a4))]) d_X2_differences_78 rfl (by decide) ((w32_id (by omega)).trans (by omega)) rfl ?_
        refine Tr.goto (pc := 81) (tgt := 6) d_X2_differences_81 rfl ?_
        refine Tr.pick [3, 4, 5, 6, 7, 1, 0] (ls2 := [(0, (2, 107)), (1, (0, a1)), (2, (0, a2)), (3, (0, a3)), (4, (0, a4)), (5, (0, r75)), (6, (0, (p6_6 + 1)))]) rfl ?_
        exact J6 _ _ _ hS (by omega) (by omega) (by omega)
  refine Tr.pick [2, 3, 4, 5, 6, 1, 0] (ls2 := [(0, (2, 107)), (1, (0, a1)), (2, (0, a2)), (3, (0, a3)), (4, (0, a4)), (5, (0, 0)), (6, (0, 0))]) rfl ?_
  exact J6 _ _ _ _ hS (by omega) (by omega) (Nat.lt_succ_self _)

def ws_X2_search_107_7 : List (Int × Int) := [(107, 1)]
def as_X2_search_107_7 : List Int := [108, 112]
def q_X2_search_107_7 (M0 M' : Mem) (r : Option PV) : Prop := St Tru ws_X2_search_107_7 as_X2_search_107_7 M0 M' ∧ ∃ v : Int, r = some (0, v) ∧ (-2147483648) ≤ v ∧ v ≤ 2147483647
set_option maxRecDepth 100000 in
set_option maxHeartbeats 4000000 in
theorem sp_X2_search_107_7 {l : Launch} {K : EC} {M0 : Mem} (hI : In Tru M0)  (a2 : Int) (ha2 : 0 ≤ a2 ∧ a2 ≤ 5)  : Tr l K 2 mX2_search 0 [(0, (2, 107)), (1, (2, 7)), (2, (0, a2))] [] M0 (q_X2_search_107_7 M0) := by
  have hS : St Tru ws_X2_search_107_7 as_X2_search_107_7 M0 M0 := St.rf hI
  refine Tr.iconst (pc := 0) d_X2_search_0 (by decide) ?_
  refine Tr.istore_n (pc := 1) (i := 3) (ls2 := [(3, (0, 0)), (0, (2, 107)), (1, (2, 7)), (2, (0, a2))]) d_X2_search_1 rfl (by decide) rfl ?_
  have J2 : ∀ (n2 : Nat) (M : Mem) (p2_3 : Int), St Tru ws_X2_search_107_7 as_X2_search_107_7 M0 M → (0 ≤ p2_3 ∧ p2_3 ≤ 12) → (12 - p2_3).toNat < n2 → Tr l K 2 mX2_search 2 [(0, (2, 107)), (1, (2, 7)), (2, (0, a2)), (3, (0, p2_3))] [] M (q_X2_search_107_7 M0) := by
    intro n2
    induction n2 with
    | zero => intro M p2_3 hS bp2_3  hm2; exact absurd hm2 (Nat.not_lt_zero _)
    | succ n2 J2 =>
      intro M p2_3 hS bp2_3  hm2
      refine Tr.iload_n (pc := 2) (i := 3) d_X2_search_2 rfl rfl ?_
      refine Tr.aload_n (pc := 3) (i := 0) d_X2_search_3 rfl rfl ?_
      refine Tr.getf (pc := 4) d_X2_search_4 f_2_27 (by decide) (by decide) (ty_107 hS.1.1) ?_
      refine Tr.gen (P := fun v => 0 ≤ v ∧ v ≤ 12) (ir_107_0 hS.1.2.1) (fun r4 er4 br4 => ?_)
      refine Tr.icmp_ge (pc := 7) (tgt := 43) d_X2_search_7 rfl (fun c7 => ?_) (fun c7 => ?_)
      · refine Tr.iconst (pc := 43) d_X2_search_43 (by decide) ?_
        refine Tr.istore_n (pc := 44) (i := 3) (ls2 := [(3, (0, 0)), (0, (2, 107)), (1, (2, 7)), (2, (0, a2))]) d_X2_search_44 rfl (by decide) rfl ?_
        refine Tr.iconst (pc := 45) d_X2_search_45 (by decide) ?_
        refine Tr.istore (pc := 46) (i := 4) (ls2 := [(4, (0, 0)), (3, (0, 0)), (0, (2, 107)), (1, (2, 7)), (2, (0, a2))]) d_X2_search_46 (by decide) rfl ?_
        have J48 : ∀ (n48 : Nat) (M : Mem) (p48_3 p48_4 : Int), St Tru ws_X2_search_107_7 as_X2_search_107_7 M0 M → ((-2147483648) ≤ p48_3 ∧ p48_3 ≤ 2147483647) → (0 ≤ p48_4 ∧ p48_4 ≤ 4097) → rd M 107 0 = r4 → (4097 - p48_4).toNat < n48 → Tr l K 2 mX2_search 48 [(0, (2, 107)), (2, (0, a2)), (3, (0, p48_3)), (4, (0, p48_4))] [] M (q_X2_search_107_7 M0) := by
          intro n48
          induction n48 with
          | zero => intro M p48_3 p48_4 hS bp48_3 bp48_4 k48_107_0 hm48; exact absurd hm48 (Nat.not_lt_zero _)
          | succ n48 J48 =>
            intro M p48_3 p48_4 hS bp48_3 bp48_4 k48_107_0 hm48
            refine Tr.iload (pc := 48) (i := 4) d_X2_search_48 rfl ?_
            refine Tr.sipush (pc := 50) d_X2_search_50 rfl (by decide) ?_
            refine Tr.icmp_ge (pc := 53) (tgt := 162) d_X2_search_53 rfl (fun c53 => ?_) (fun c53 => ?_)
            · refine Tr.aload_n (pc := 162) (i := 0) d_X2_search_162 rfl rfl ?_
              refine Tr.iconst (pc := 163) d_X2_search_163 (by decide) ?_
              refine Tr.putzS (pc := 164) (P := St Tru ws_X2_search_107_7 as_X2_search_107_7 M0) d_X2_search_164 f_2_31 (by decide) (ty_107 hS.1.1) (by omega) (st_107_1 hS (by decide) (by omega) trivial) (fun M164 hS w164 => ?_)
              refine Tr.iload_n (pc := 167) (i := 3) d_X2_search_167 rfl rfl ?_
              exact Tr.iret (pc := 168) d_X2_search_168 rfl ⟨hS, _, rfl, by omega, by omega⟩
            · refine Tr.aload_n (pc := 56) (i := 0) d_X2_search_56 rfl rfl ?_
              refine Tr.iload_n (pc := 57) (i := 2) d_X2_search_57 rfl rfl ?_
              refine Tr.iload (pc := 58) (i := 4) d_X2_search_58 rfl ?_
              refine Tr.sipush (pc := 60) d_X2_search_60 rfl (by decide) ?_
              refine Tr.idiv (pc := 63) d_X2_search_63 (by omega) ?_
              refine Tr.gen (P := fun v => v = p48_4 / 256 ∧ (0 ≤ v ∧ v ≤ 15)) (div32_l (c := 256) (by omega) (by decide) (by omega) (by omega)) (fun r63 er63 br63 => ?_)
              refine Tr.iload (pc := 64) (i := 4) d_X2_search_64 rfl ?_
              refine Tr.bipush (pc := 66) d_X2_search_66 rfl (by decide) ?_
              refine Tr.idiv (pc := 68) d_X2_search_68 (by omega) ?_
              refine Tr.gen (P := fun v => v = p48_4 / 16 ∧ (0 ≤ v ∧ v ≤ 255)) (div32_l (c := 16) (by omega) (by decide) (by omega) (by omega)) (fun r68 er68 br68 => ?_)
              refine Tr.bipush (pc := 69) d_X2_search_69 rfl (by decide) ?_
              refine Tr.irem (pc := 71) d_X2_search_71 (by omega) ?_
              refine Tr.gen (P := fun v => v = r68 % 16 ∧ (0 ≤ v ∧ v ≤ 15)) (rem_l (c := 16) (by omega) (by decide) (by omega)) (fun r71 er71 br71 => ?_)
              refine Tr.iload (pc := 72) (i := 4) d_X2_search_72 rfl ?_
              refine Tr.bipush (pc := 74) d_X2_search_74 rfl (by decide) ?_
              refine Tr.irem (pc := 76) d_X2_search_76 (by omega) ?_
              refine Tr.gen (P := fun v => v = p48_4 % 16 ∧ (0 ≤ v ∧ v ≤ 15)) (rem_l (c := 16) (by omega) (by decide) (by omega)) (fun r76 er76 br76 => ?_)
              refine Tr.callV (pc := 77) (as := [_, _, _, _]) d_X2_search_77 s_2_58 ok_X2_differences rfl rfl (Nat.le_of_ble_eq_true rfl) (Nat.le_of_ble_eq_true rfl) (by decide) (ty_107 hS.1.1) ?_
              refine Tr.imp (Tr.deep (by decide) (sp_X2_differences_107_w20 hS.1 a2 (by omega) r63 (by omega) r71 (by omega) r76 (by omega))) ?_
              rintro M77 _ ⟨h77, r77, rfl, lr77, ur77⟩
              have hS := St.tr hS h77 (by decide) (by decide)
              refine Tr.sc [(0, r77)] rfl ?_
              refine Tr.istore (pc := 80) (i := 5) (ls2 := [(5, (0, r77)), (0, (2, 107)), (2, (0, a2)), (3, (0, p48_3)), (4, (0, p48_4))]) d_X2_search_80 (by decide) rfl ?_
              refine Tr.iload (pc := 82) (i := 4) d_X2_search_82 rfl ?_
              have J140 : ∀ (M : Mem) (p140_3 : Int), St Tru ws_X2_search_107_7 as_X2_search_107_7 M0 M → ((-2147483648) ≤ p140_3 ∧ p140_3 ≤ 2147483647) → rd M 107 0 = r4 → Tr l K 2 mX2_search 140 [(0, (2, 107)), (2, (0, a2)), (3, (0, p140_3)), (4, (0, p48_4)), (5, (0, r77))] [] M (q_X2_search_107_7 M0) := by
                intro M p140_3 hS bp140_3 k140_107_0
                refine Tr.iload (pc := 140) (i := 5) d_X2_search_140 rfl ?_
                refine Tr.iload_n (pc := 142) (i := 3) d_X2_search_142 rfl rfl ?_
                have J156 : ∀ (M : Mem), St Tru ws_X2_search_107_7 as_X2_search_107_7 M0 M → rd M 107 0 = r4 → Tr l K 2 mX2_search 156 [(0, (2, 107)), (2, (0, a2)), (3, (0, p140_3)), (4, (0, p48_4))] [] M (q_X2_search_107_7 M0) := by
                  intro M  hS  k156_107_0
                  refine Tr.iincV (pc := 156) (n2 := (p48_4 + 1)) (ls2 := [(4, (0, (p48_4 + 1))), (0, (2, 107)), (2, (0, a2)), (3, (0, p140_3))]) d_X2_search_156 rfl (by decide) ((w32_id (by omega)).trans (by omega)) rfl ?_
                  refine Tr.goto (pc := 159) (tgt := 48) d_X2_search_159 rfl ?_
                  refine Tr.pick [1, 2, 3, 0] (ls2 := [(0, (2, 107)), (2, (0, a2)), (3, (0, p140_3)), (4, (0, (p48_4 + 1)))]) rfl ?_
                  exact J48 _ _ _ hS (by omega) (by omega) k156_107_0 (by omega)
                refine Tr.icmp_ne (pc := 143) (tgt := 156) d_X2_search_143 rfl (fun c143 => ?_) (fun c143 => ?_)
                · refine Tr.pick [0, 1, 2, 3] (ls2 := [(0, (2, 107)), (2, (0, a2)), (3, (0, p140_3)), (4, (0, p48_4))]) rfl ?_
                  exact J156 _ hS k140_107_0
                · refine Tr.aload_n (pc := 146) (i := 0) d_X2_search_146 rfl rfl ?_
                  refine Tr.getf (pc := 147) d_X2_search_147 f_2_9 (by decide) (by decide) (ty_107 hS.1.1) ?_
                  refine Tr.tp 108 (fx_107_2 hS.1.1) ?_
                  refine Tr.iconst (pc := 150) d_X2_search_150 (by decide) ?_
                  refine Tr.dup2 (pc := 151) d_X2_search_151 ne01 ne21 ?_
                  refine Tr.iald (pc := 152) d_X2_search_152 (ty_108 hS.1.1) (by omega) (by omega) ?_
                  refine Tr.gen (P := fun v => (-2147483648) ≤ v ∧ v ≤ 2147483647) (ar_108 hS.1.2.1 _) (fun r152 er152 br152 => ?_)
                  refine Tr.iconst (pc := 153) d_X2_search_153 (by decide) ?_
                  refine Tr.iadd (pc := 154) d_X2_search_154 ?_
                  refine Tr.gen (P := fun v => (-2147483648) ≤ v ∧ v ≤ 2147483647) (w32_b _) (fun r154 er154 br154 => ?_)
                  refine Tr.iastS (pc := 155) (P := St Tru ws_X2_search_107_7 as_X2_search_107_7 M0) d_X2_search_155 (ty_108 hS.1.1) (by omega) (by omega) (sa_108 hS (by decide) (by omega) trivial) (fun M155 hS w155 => ?_)
                  refine Tr.pick [0, 1, 2, 3] (ls2 := [(0, (2, 107)), (2, (0, a2)), (3, (0, p140_3)), (4, (0, p48_4))]) rfl ?_
                  exact J156 _ hS ((Wr.b w155 rfl).trans k140_107_0)
              have J93 : ∀ (M : Mem), St Tru ws_X2_search_107_7 as_X2_search_107_7 M0 M → rd M 107 0 = r4 → Tr l K 2 mX2_search 93 [(0, (2, 107)), (2, (0, a2)), (4, (0, p48_4)), (5, (0, r77))] [] M (q_X2_search_107_7 M0) := by
                intro M  hS  k93_107_0
                refine Tr.iload (pc := 93) (i := 5) d_X2_search_93 rfl ?_
                refine Tr.istore_n (pc := 95) (i := 3) (ls2 := [(3, (0, r77)), (0, (2, 107)), (2, (0, a2)), (4, (0, p48_4)), (5, (0, r77))]) d_X2_search_95 rfl (by decide) rfl ?_
                refine Tr.aload_n (pc := 96) (i := 0) d_X2_search_96 rfl rfl ?_
                refine Tr.getf (pc := 97) d_X2_search_97 f_2_9 (by decide) (by decide) (ty_107 hS.1.1) ?_
                refine Tr.tp 108 (fx_107_2 hS.1.1) ?_
                refine Tr.iconst (pc := 100) d_X2_search_100 (by decide) ?_
                refine Tr.iload (pc := 101) (i := 4) d_X2_search_101 rfl ?_
                refine Tr.sipush (pc := 103) d_X2_search_103 rfl (by decide) ?_
                refine Tr.idiv (pc := 106) d_X2_search_106 (by omega) ?_
                refine Tr.gen (P := fun v => v = p48_4 / 256 ∧ (0 ≤ v ∧ v ≤ 15)) (div32_l (c := 256) (by omega) (by decide) (by omega) (by omega)) (fun r106 er106 br106 => ?_)
                refine Tr.iastS (pc := 107) (P := St Tru ws_X2_search_107_7 as_X2_search_107_7 M0) d_X2_search_107 (ty_108 hS.1.1) (by omega) (by omega) (sa_108 hS (by decide) (by omega) trivial) (fun M107 hS w107 => ?_)
                refine Tr.aload_n (pc := 108) (i := 0) d_X2_search_108 rfl rfl ?_
                refine Tr.getf (pc := 109) d_X2_search_109 f_2_9 (by decide) (by decide) (ty_107 hS.1.1) ?_
                refine Tr.tp 108 (fx_107_2 hS.1.1) ?_
                refine Tr.iconst (pc := 112) d_X2_search_112 (by decide) ?_
                refine Tr.iload (pc := 113) (i := 4) d_X2_search_113 rfl ?_
                refine Tr.bipush (pc := 115) d_X2_search_115 rfl (by decide) ?_
                refine Tr.idiv (pc := 117) d_X2_search_117 (by omega) ?_
                refine Tr.gen (P := fun v => v = p48_4 / 16 ∧ (0 ≤ v ∧ v ≤ 255)) (div32_l (c := 16) (by omega) (by decide) (by omega) (by omega)) (fun r117 er117 br117 => ?_)
                refine Tr.bipush (pc := 118) d_X2_search_118 rfl (by decide) ?_
                refine Tr.irem (pc := 120) d_X2_search_120 (by omega) ?_
                refine Tr.gen (P := fun v => v = r117 % 16 ∧ (0 ≤ v ∧ v ≤ 15)) (rem_l (c := 16) (by omega) (by decide) (by omega)) (fun r120 er120 br120 => ?_)
                refine Tr.iastS (pc := 121) (P := St Tru ws_X2_search_107_7 as_X2_search_107_7 M0) d_X2_search_121 (ty_108 hS.1.1) (by omega) (by omega) (sa_108 hS (by decide) (by omega) trivial) (fun M121 hS w121 => ?_)
                refine Tr.aload_n (pc := 122) (i := 0) d_X2_search_122 rfl rfl ?_
                refine Tr.getf (pc := 123) d_X2_search_123 f_2_9 (by decide) (by decide) (ty_107 hS.1.1) ?_
                refine Tr.tp 108 (fx_107_2 hS.1.1) ?_
                refine Tr.iconst (pc := 126) d_X2_search_126 (by decide) ?_
                refine Tr.iload (pc := 127) (i := 4) d_X2_search_127 rfl ?_
                refine Tr.bipush (pc := 129) d_X2_search_129 rfl (by decide) ?_
                refine Tr.irem (pc := 131) d_X2_search_131 (by omega) ?_
                refine Tr.gen (P := fun v => v = p48_4 % 16 ∧ (0 ≤ v ∧ v ≤ 15)) (rem_l (c := 16) (by omega) (by decide) (by omega)) (fun r131 er131 br131 => ?_)
                refine Tr.iastS (pc := 132) (P := St Tru ws_X2_search_107_7 as_X2_search_107_7 M0) d_X2_search_132 (ty_108 hS.1.1) (by omega) (by omega) (sa_108 hS (by decide) (by omega) trivial) (fun M132 hS w132 => ?_)
                refine Tr.aload_n (pc := 133) (i := 0) d_X2_search_133 rfl rfl ?_
                refine Tr.getf (pc := 134) d_X2_search_134 f_2_9 (by decide) (by decide) (ty_107 hS.1.1) ?_
                refine Tr.tp 108 (fx_107_2 hS.1.1) ?_
                refine Tr.iconst (pc := 137) d_X2_search_137 (by decide) ?_
                refine Tr.iconst (pc := 138) d_X2_search_138 (by decide) ?_
                refine Tr.iastS (pc := 139) (P := St Tru ws_X2_search_107_7 as_X2_search_107_7 M0) d_X2_search_139 (ty_108 hS.1.1) (by omega) (by omega) (sa_108 hS (by decide) (by omega) trivial) (fun M139 hS w139 => ?_)
                refine Tr.pick [1, 2, 0, 3, 4] (ls2 := [(0, (2, 107)), (2, (0, a2)), (3, (0, r77)), (4, (0, p48_4)), (5, (0, r77))]) rfl ?_
                exact J140 _ _ hS (by omega) ((Wr.b w139 rfl).trans ((Wr.b w132 rfl).trans ((Wr.b w121 rfl).trans ((Wr.b w107 rfl).trans k93_107_0))))
              refine Tr.if_eq (pc := 84) (tgt := 93) d_X2_search_84 rfl (fun c84 => ?_) (fun c84 => ?_)
              · refine Tr.pick [1, 2, 4, 0] (ls2 := [(0, (2, 107)), (2, (0, a2)), (4, (0, p48_4)), (5, (0, r77))]) rfl ?_
                exact J93 _ hS ((St.kp h77 (by decide) (by decide) (by decide)).trans k48_107_0)
              · refine Tr.iload (pc := 87) (i := 5) d_X2_search_87 rfl ?_
                refine Tr.iload_n (pc := 89) (i := 3) d_X2_search_89 rfl rfl ?_
                refine Tr.icmp_ge (pc := 90) (tgt := 140) d_X2_search_90 rfl (fun c90 => ?_) (fun c90 => ?_)
                · refine Tr.pick [1, 2, 3, 4, 0] (ls2 := [(0, (2, 107)), (2, (0, a2)), (3, (0, p48_3)), (4, (0, p48_4)), (5, (0, r77))]) rfl ?_
                  exact J140 _ _ hS (by omega) ((St.kp h77 (by decide) (by decide) (by decide)).trans k48_107_0)
                · refine Tr.pick [1, 2, 4, 0] (ls2 := [(0, (2, 107)), (2, (0, a2)), (4, (0, p48_4)), (5, (0, r77))]) rfl ?_
                  exact J93 _ hS ((St.kp h77 (by decide) (by decide) (by decide)).trans k48_107_0)
        refine Tr.pick [2, 4, 1, 0] (ls2 := [(0, (2, 107)), (2, (0, a2)), (3, (0, 0)), (4, (0, 0))]) rfl ?_
        exact J48 _ _ _ _ hS (by omega) (by omega) er4 (Nat.lt_succ_self _)
      · refine Tr.aload_n (pc := 10) (i := 0) d_X2_search_10 rfl rfl ?_
        refine Tr.getf (pc := 11) d_X2_search_11 f_2_24 (by decide) (by decide) (ty_107 hS.1.1) ?_
        refine Tr.tp 112 (fx_107_6 hS.1.1) ?_
        refine Tr.iload_n (pc := 14) (i := 3) d_X2_search_14 rfl rfl ?_
        refine Tr.aload_n (pc := 15) (i := 0) d_X2_search_15 rfl rfl ?_
        refine Tr.getf (pc := 16) d_X2_search_16 f_2_18 (by decide) (by decide) (ty_107 hS.1.1) ?_
        refine Tr.tp 110 (fx_107_4 hS.1.1) ?_
        refine Tr.iload_n (pc := 19) (i := 3) d_X2_search_19 rfl rfl ?_
        refine Tr.iald (pc := 20) d_X2_search_20 (ty_110 hS.1.1) (by omega) (by omega) ?_
        refine Tr.gen (P := fun v => (-2147483648) ≤ v ∧ v ≤ 2147483647) (ar_110 hS.1.2.1 _) (fun r20 er20 br20 => ?_)
        refine Tr.aload_n (pc := 21) (i := 0) d_X2_search_21 rfl rfl ?_
        refine Tr.getf (pc := 22) d_X2_search_22 f_2_15 (by decide) (by decide) (ty_107 hS.1.1) ?_
        refine Tr.tp 109 (fx_107_3 hS.1.1) ?_
        refine Tr.iload_n (pc := 25) (i := 3) d_X2_search_25 rfl rfl ?_
        refine Tr.iald (pc := 26) d_X2_search_26 (ty_109 hS.1.1) (by omega) (by omega) ?_
        refine Tr.gen (P := fun v => (-2147483648) ≤ v ∧ v ≤ 2147483647) (ar_109 hS.1.2.1 _) (fun r26 er26 br26 => ?_)
        refine Tr.isub (pc := 27) d_X2_search_27 ?_
        refine Tr.gen (P := fun v => (-2147483648) ≤ v ∧ v ≤ 2147483647) (w32_b _) (fun r27 er27 br27 => ?_)
        refine Tr.aload_n (pc := 28) (i := 0) d_X2_search_28 rfl rfl ?_
        refine Tr.aload_n (pc := 29) (i := 1) d_X2_search_29 rfl rfl ?_
        refine Tr.iload_n (pc := 30) (i := 2) d_X2_search_30 rfl rfl ?_
        refine Tr.iload_n (pc := 31) (i := 3) d_X2_search_31 rfl rfl ?_
        refine Tr.callV (pc := 32) (as := [_, _, _]) d_X2_search_32 s_2_54 ok_X2_ownSips rfl rfl (Nat.le_of_ble_eq_true rfl) (Nat.le_of_ble_eq_true rfl) (by decide) (ty_107 hS.1.1) ?_
        refine Tr.imp (Tr.deep (by decide) (sp_X2_ownSips_107_7 hS.1 a2 (by omega) p2_3 (by omega))) ?_
        rintro M32 _ ⟨h32, r32, rfl, lr32, ur32⟩
        have hS := St.tr hS h32 (by decide) (by decide)
        refine Tr.sc [(0, r32), (0, r27), (0, p2_3), (2, 112)] rfl ?_
        refine Tr.isub (pc := 35) d_X2_search_35 ?_
        refine Tr.gen (P := fun v => (-2147483648) ≤ v ∧ v ≤ 2147483647) (w32_b _) (fun r35 er35 br35 => ?_)
        refine Tr.iastS (pc := 36) (P := St Tru ws_X2_search_107_7 as_X2_search_107_7 M0) d_X2_search_36 (ty_112 hS.1.1) (by omega) (by omega) (sa_112 hS (by decide) (by omega) trivial) (fun M36 hS w36 => ?_)
        refine Tr.iincV (pc := 37) (n2 := (p2_3 + 1)) (ls2 := [(3, (0, (p2_3 + 1))), (0, (2, 107)), (1, (2, 7)), (2, (0, a2))]) d_X2_search_37 rfl (by decide) ((w32_id (by omega)).trans (by omega)) rfl ?_
        refine Tr.goto (pc := 40) (tgt := 2) d_X2_search_40 rfl ?_
        refine Tr.pick [1, 2, 3, 0] (ls2 := [(0, (2, 107)), (1, (2, 7)), (2, (0, a2)), (3, (0, (p2_3 + 1)))]) rfl ?_
        exact J2 _ _ hS (by omega) (by omega)
  refine Tr.pick [1, 2, 3, 0] (ls2 := [(0, (2, 107)), (1, (2, 7)), (2, (0, a2)), (3, (0, 0))]) rfl ?_
  exact J2 _ _ _ hS (by omega) (Nat.lt_succ_self _)

def ws_X11_fit_0 : List (Int × Int) := [(107, 1)]
def as_X11_fit_0 : List Int := [108, 112]
def q_X11_fit_0 (M0 M' : Mem) (r : Option PV) : Prop := St Tru ws_X11_fit_0 as_X11_fit_0 M0 M' ∧ ∃ v : Int, r = some (0, v) ∧ (-2147483648) ≤ v ∧ v ≤ 2147483647
set_option maxRecDepth 100000 in
set_option maxHeartbeats 4000000 in
theorem sp_X11_fit_0 {l : Launch} {K : EC} {M0 : Mem} (hI : In Tru M0) (en_0_4 : rd M0 0 4 = 7) (a1 : Int) (ha1 : (-2147483648) ≤ a1 ∧ a1 ≤ 2147483647)  : Tr l K 3 mX11_fit 0 [(0, (2, 0)), (1, (0, a1))] [] M0 (q_X11_fit_0 M0) := by
  have hS : St Tru ws_X11_fit_0 as_X11_fit_0 M0 M0 := St.rf hI
  refine Tr.aload_n (pc := 0) (i := 0) d_X11_fit_0 rfl rfl ?_
  refine Tr.iload_n (pc := 1) (i := 1) d_X11_fit_1 rfl rfl ?_
  refine Tr.callV (pc := 2) (as := [_]) d_X11_fit_2 s_11_174 ok_X11_isPart rfl rfl (Nat.le_of_ble_eq_true rfl) (Nat.le_of_ble_eq_true rfl) (by decide) (ty_0 hS.1.1) ?_
  refine Tr.imp (Tr.deep (by decide) (sp_X11_isPart_0 hS.1 ((St.kp hS (by decide) (by decide) (by decide)).trans en_0_4) a1 (by omega))) ?_
  rintro M2 _ ⟨h2, r2, rfl, lr2, ur2, wr2⟩
  have hS := St.tr hS h2 (by decide) (by decide)
  refine Tr.sc [(0, r2)] rfl ?_
  refine Tr.if_eq (pc := 5) (tgt := 18) d_X11_fit_5 rfl (fun c5 => ?_) (fun c5 => ?_)
  · refine Tr.iconst (pc := 18) d_X11_fit_18 (by decide) ?_
    exact Tr.iret (pc := 19) d_X11_fit_19 rfl ⟨hS, _, rfl, by omega, by omega⟩
  · refine Tr.aload_n (pc := 8) (i := 0) d_X11_fit_8 rfl rfl ?_
    refine Tr.getf (pc := 9) d_X11_fit_9 f_11_70 (by decide) (by decide) (ty_0 hS.1.1) ?_
    refine Tr.tp 107 (fx_0_12 hS.1.1) ?_
    refine Tr.getf (pc := 12) d_X11_fit_12 f_11_133 (by decide) (by decide) (ty_107 hS.1.1) ?_
    refine Tr.gen (P := fun v => 0 ≤ v ∧ v ≤ 12) (ir_107_0 hS.1.2.1) (fun r12 er12 br12 => ?_)
    refine Tr.if_ne (pc := 15) (tgt := 20) d_X11_fit_15 rfl (fun c15 => ?_) (fun c15 => ?_)
    · refine Tr.aload_n (pc := 20) (i := 0) d_X11_fit_20 rfl rfl ?_
      refine Tr.getf (pc := 21) d_X11_fit_21 f_11_70 (by decide) (by decide) (ty_0 hS.1.1) ?_
      refine Tr.tp 107 (fx_0_12 hS.1.1) ?_
      refine Tr.aload_n (pc := 24) (i := 0) d_X11_fit_24 rfl rfl ?_
      refine Tr.getf (pc := 25) d_X11_fit_25 f_11_30 (by decide) (by decide) (ty_0 hS.1.1) ?_
      refine Tr.tp 7 ((St.kp hS (by decide) (by decide) (by decide)).trans en_0_4) ?_
      refine Tr.iload_n (pc := 28) (i := 1) d_X11_fit_28 rfl rfl ?_
      refine Tr.callV (pc := 29) (as := [_, _]) d_X11_fit_29 s_11_276 ok_X2_search rfl rfl (Nat.le_of_ble_eq_true rfl) (Nat.le_of_ble_eq_true rfl) (by decide) (ty_107 hS.1.1) ?_
      refine Tr.imp (Tr.deep (by decide) (sp_X2_search_107_7 hS.1 a1 (by omega))) ?_
      rintro M29 _ ⟨h29, r29, rfl, lr29, ur29⟩
      have hS := St.tr hS h29 (by decide) (by decide)
      refine Tr.sc [(0, r29)] rfl ?_
      exact Tr.iret (pc := 32) d_X11_fit_32 rfl ⟨hS, _, rfl, by omega, by omega⟩
    · refine Tr.iconst (pc := 18) d_X11_fit_18 (by decide) ?_
      exact Tr.iret (pc := 19) d_X11_fit_19 rfl ⟨hS, _, rfl, by omega, by omega⟩

def ws_X11_fitted_0 : List (Int × Int) := []
def as_X11_fitted_0 : List Int := []
def q_X11_fitted_0 (M0 M' : Mem) (r : Option PV) : Prop := St Tru ws_X11_fitted_0 as_X11_fitted_0 M0 M' ∧ ∃ v : Int, r = some (0, v) ∧ (-2147483648) ≤ v ∧ v ≤ 2147483647
set_option maxRecDepth 100000 in
set_option maxHeartbeats 4000000 in
theorem sp_X11_fitted_0 {l : Launch} {K : EC} {M0 : Mem} (hI : In Tru M0)  (a1 : Int) (ha1 : (-2147483648) ≤ a1 ∧ a1 ≤ 2147483647)  : Tr l K 0 mX11_fitted 0 [(0, (2, 0)), (1, (0, a1))] [] M0 (q_X11_fitted_0 M0) := by
  have hS : St Tru ws_X11_fitted_0 as_X11_fitted_0 M0 M0 := St.rf hI
  refine Tr.aload_n (pc := 0) (i := 0) d_X11_fitted_0 rfl rfl ?_
  refine Tr.getf (pc := 1) d_X11_fitted_1 f_11_70 (by decide) (by decide) (ty_0 hS.1.1) ?_
  refine Tr.tp 107 (fx_0_12 hS.1.1) ?_
  refine Tr.getz (pc := 4) d_X11_fitted_4 f_11_280 (by decide) (ty_107 hS.1.1) ?_
  refine Tr.gen (P := fun v => 0 ≤ v ∧ v ≤ 1) (ir_107_1 hS.1.2.1) (fun r4 er4 br4 => ?_)
  refine Tr.if_eq (pc := 7) (tgt := 19) d_X11_fitted_7 rfl (fun c7 => ?_) (fun c7 => ?_)
  · refine Tr.iconst (pc := 19) d_X11_fitted_19 (by decide) ?_
    exact Tr.iret (pc := 20) d_X11_fitted_20 rfl ⟨hS, _, rfl, by omega, by omega⟩
  · refine Tr.iload_n (pc := 10) (i := 1) d_X11_fitted_10 rfl rfl ?_
    refine Tr.if_lt (pc := 11) (tgt := 19) d_X11_fitted_11 rfl (fun c11 => ?_) (fun c11 => ?_)
    · refine Tr.iconst (pc := 19) d_X11_fitted_19 (by decide) ?_
      exact Tr.iret (pc := 20) d_X11_fitted_20 rfl ⟨hS, _, rfl, by omega, by omega⟩
    · refine Tr.iload_n (pc := 14) (i := 1) d_X11_fitted_14 rfl rfl ?_
      refine Tr.iconst (pc := 15) d_X11_fitted_15 (by decide) ?_
      refine Tr.icmp_le (pc := 16) (tgt := 21) d_X11_fitted_16 rfl (fun c16 => ?_) (fun c16 => ?_)
      · refine Tr.aload_n (pc := 21) (i := 0) d_X11_fitted_21 rfl rfl ?_
        refine Tr.getf (pc := 22) d_X11_fitted_22 f_11_70 (by decide) (by decide) (ty_0 hS.1.1) ?_
        refine Tr.tp 107 (fx_0_12 hS.1.1) ?_
        refine Tr.getf (pc := 25) d_X11_fitted_25 f_11_283 (by decide) (by decide) (ty_107 hS.1.1) ?_
        refine Tr.tp 108 (fx_107_2 hS.1.1) ?_
        refine Tr.iload_n (pc := 28) (i := 1) d_X11_fitted_28 rfl rfl ?_
        refine Tr.iald (pc := 29) d_X11_fitted_29 (ty_108 hS.1.1) (by omega) (by omega) ?_
        refine Tr.gen (P := fun v => (-2147483648) ≤ v ∧ v ≤ 2147483647) (ar_108 hS.1.2.1 _) (fun r29 er29 br29 => ?_)
        exact Tr.iret (pc := 30) d_X11_fitted_30 rfl ⟨hS, _, rfl, by omega, by omega⟩
      · refine Tr.iconst (pc := 19) d_X11_fitted_19 (by decide) ?_
        exact Tr.iret (pc := 20) d_X11_fitted_20 rfl ⟨hS, _, rfl, by omega, by omega⟩

def ws_X0_add_113 : List (Int × Int) := [(113, 0)]
def as_X0_add_113 : List Int := [114, 115, 116]
def q_X0_add_113 (a1 : Int) (a2 : Int) (a3 : Int) (M0 M' : Mem) (r : Option PV) : Prop := St Tru ws_X0_add_113 as_X0_add_113 M0 M' ∧ ∃ v : Int, r = some (0, v) ∧ 0 ≤ v ∧ v ≤ 1 ∧ ((v = 1 ∧ rd M' 113 0 = rd M0 113 0 + 1 ∧ rd M0 113 0 ≤ 5) ∨ (v = 0 ∧ rd M' 113 0 = rd M0 113 0 ∧ 6 ≤ rd M0 113 0))
set_option maxRecDepth 100000 in
set_option maxHeartbeats 4000000 in
theorem sp_X0_add_113 {l : Launch} {K : EC} {M0 : Mem} (hI : In Tru M0)  (a1 : Int) (ha1 : 0 ≤ a1 ∧ a1 ≤ 200) (a2 : Int) (ha2 : 1 ≤ a2 ∧ a2 ≤ 20) (a3 : Int) (ha3 : 0 ≤ a3 ∧ a3 ≤ 5)  : Tr l K 0 mX0_add 0 [(0, (2, 113)), (1, (0, a1)), (2, (0, a2)), (3, (0, a3))] [] M0 (q_X0_add_113 a1 a2 a3 M0) := by
  have hS : St Tru ws_X0_add_113 as_X0_add_113 M0 M0 := St.rf hI
  obtain ⟨g113_0, eg113_0⟩ : ∃ v, rd M0 113 0 = v := ⟨_, rfl⟩
  have bg113_0 : 0 ≤ g113_0 ∧ g113_0 ≤ 6 := by rw [← eg113_0]; exact ir_113_0 hI.2.1
  refine Tr.aload_n (pc := 0) (i := 0) d_X0_add_0 rfl rfl ?_
  refine Tr.getf (pc := 1) d_X0_add_1 f_0_30 (by decide) (by decide) (ty_113 hS.1.1) ?_
  refine Tr.tp g113_0 eg113_0 ?_
  refine Tr.bipush (pc := 4) d_X0_add_4 rfl (by decide) ?_
  refine Tr.icmp_lt (pc := 6) (tgt := 11) d_X0_add_6 rfl (fun c6 => ?_) (fun c6 => ?_)
  · refine Tr.aload_n (pc := 11) (i := 0) d_X0_add_11 rfl rfl ?_
    refine Tr.getf (pc := 12) d_X0_add_12 f_0_11 (by decide) (by decide) (ty_113 hS.1.1) ?_
    refine Tr.tp 114 (fx_113_1 hS.1.1) ?_
    refine Tr.aload_n (pc := 15) (i := 0) d_X0_add_15 rfl rfl ?_
    refine Tr.getf (pc := 16) d_X0_add_16 f_0_30 (by decide) (by decide) (ty_113 hS.1.1) ?_
    refine Tr.tp g113_0 eg113_0 ?_
    refine Tr.iload_n (pc := 19) (i := 1) d_X0_add_19 rfl rfl ?_
    refine Tr.iastS (pc := 20) (P := St Tru ws_X0_add_113 as_X0_add_113 M0) d_X0_add_20 (ty_114 hS.1.1) (by omega) (by omega) (sa_114 hS (by decide) (by omega) trivial) (fun M20 hS w20 => ?_)
    refine Tr.aload_n (pc := 21) (i := 0) d_X0_add_21 rfl rfl ?_
    refine Tr.getf (pc := 22) d_X0_add_22 f_0_15 (by decide) (by decide) (ty_113 hS.1.1) ?_
    refine Tr.tp 115 (fx_113_2 hS.1.1) ?_
    refine Tr.aload_n (pc := 25) (i := 0) d_X0_add_25 rfl rfl ?_
    refine Tr.getf (pc := 26) d_X0_add_26 f_0_30 (by decide) (by decide) (ty_113 hS.1.1) ?_
    refine Tr.tp g113_0 ((Wr.b w20 rfl).trans eg113_0) ?_
    refine Tr.iload_n (pc := 29) (i := 2) d_X0_add_29 rfl rfl ?_
    refine Tr.iastS (pc := 30) (P := St Tru ws_X0_add_113 as_X0_add_113 M0) d_X0_add_30 (ty_115 hS.1.1) (by omega) (by omega) (sa_115 hS (by decide) (by omega) trivial) (fun M30 hS w30 => ?_)
    refine Tr.aload_n (pc := 31) (i := 0) d_X0_add_31 rfl rfl ?_
    refine Tr.getf (pc := 32) d_X0_add_32 f_0_18 (by decide) (by decide) (ty_113 hS.1.1) ?_
    refine Tr.tp 116 (fx_113_3 hS.1.1) ?_
    refine Tr.aload_n (pc := 35) (i := 0) d_X0_add_35 rfl rfl ?_
    refine Tr.getf (pc := 36) d_X0_add_36 f_0_30 (by decide) (by decide) (ty_113 hS.1.1) ?_
    refine Tr.tp g113_0 ((Wr.b w30 rfl).trans ((Wr.b w20 rfl).trans eg113_0)) ?_
    refine Tr.iload_n (pc := 39) (i := 3) d_X0_add_39 rfl rfl ?_
    refine Tr.iastS (pc := 40) (P := St Tru ws_X0_add_113 as_X0_add_113 M0) d_X0_add_40 (ty_116 hS.1.1) (by omega) (by omega) (sa_116 hS (by decide) (by omega) trivial) (fun M40 hS w40 => ?_)
    refine Tr.aload_n (pc := 41) (i := 0) d_X0_add_41 rfl rfl ?_
    refine Tr.dup (pc := 42) d_X0_add_42 ne21 ?_
    refine Tr.getf (pc := 43) d_X0_add_43 f_0_30 (by decide) (by decide) (ty_113 hS.1.1) ?_
    refine Tr.tp g113_0 ((Wr.b w40 rfl).trans ((Wr.b w30 rfl).trans ((Wr.b w20 rfl).trans eg113_0))) ?_
    refine Tr.iconst (pc := 46) d_X0_add_46 (by decide) ?_
    refine Tr.iadd (pc := 47) d_X0_add_47 ?_
    refine Tr.tp (g113_0 + 1) ((w32_id (by omega)).trans (by omega)) ?_
    refine Tr.putfS (pc := 48) (P := St Tru ws_X0_add_113 as_X0_add_113 M0) d_X0_add_48 f_0_30 (by decide) (by decide) (ty_113 hS.1.1) (st_113_0 hS (by decide) (by omega) trivial) (fun M48 hS w48 => ?_)
    refine Tr.iconst (pc := 51) d_X0_add_51 (by decide) ?_
    have kr_113_0 : rd M48 113 0 = (g113_0 + 1) := w48.1
    exact Tr.zret (pc := 52) d_X0_add_52 rfl (by omega) ⟨hS, _, rfl, by omega, by omega, by omega⟩
  · refine Tr.iconst (pc := 9) d_X0_add_9 (by decide) ?_
    have kr_113_0 : rd M0 113 0 = g113_0 := eg113_0
    exact Tr.zret (pc := 10) d_X0_add_10 rfl (by omega) ⟨hS, _, rfl, by omega, by omega, by omega⟩

def ws_X11_ask_0 : List (Int × Int) := [(113, 0)]
def as_X11_ask_0 : List Int := [114, 115, 116]
def q_X11_ask_0 (a1 : Int) (a2 : Int) (a3 : Int) (M0 M' : Mem) (r : Option PV) : Prop := St Tru ws_X11_ask_0 as_X11_ask_0 M0 M' ∧ ∃ v : Int, r = some (0, v) ∧ (-1) ≤ v ∧ v ≤ 6 ∧ ((v = rd M' 113 0 ∧ rd M' 113 0 = rd M0 113 0 + 1 ∧ 0 ≤ a1 ∧ a1 ≤ 200 ∧ 1 ≤ a2 ∧ a2 ≤ 20 ∧ 0 ≤ a3 ∧ a3 ≤ 5 ∧ rd M0 113 0 ≤ 5) ∨ (v = -1 ∧ rd M' 113 0 = rd M0 113 0 ∧ (a1 < 0 ∨ 200 < a1 ∨ a2 < 1 ∨ 20 < a2 ∨ a3 < 0 ∨ 5 < a3 ∨ 6 ≤ rd M0 113 0)))
set_option maxRecDepth 100000 in
set_option maxHeartbeats 4000000 in
theorem sp_X11_ask_0 {l : Launch} {K : EC} {M0 : Mem} (hI : In Tru M0)  (a1 : Int) (ha1 : (-2147483648) ≤ a1 ∧ a1 ≤ 2147483647) (a2 : Int) (ha2 : (-2147483648) ≤ a2 ∧ a2 ≤ 2147483647) (a3 : Int) (ha3 : (-2147483648) ≤ a3 ∧ a3 ≤ 2147483647)  : Tr l K 1 mX11_ask 0 [(0, (2, 0)), (1, (0, a1)), (2, (0, a2)), (3, (0, a3))] [] M0 (q_X11_ask_0 a1 a2 a3 M0) := by
  have hS : St Tru ws_X11_ask_0 as_X11_ask_0 M0 M0 := St.rf hI
  obtain ⟨g113_0, eg113_0⟩ : ∃ v, rd M0 113 0 = v := ⟨_, rfl⟩
  have bg113_0 : 0 ≤ g113_0 ∧ g113_0 ≤ 6 := by rw [← eg113_0]; exact ir_113_0 hI.2.1
  refine Tr.iload_n (pc := 0) (i := 1) d_X11_ask_0 rfl rfl ?_
  refine Tr.if_lt (pc := 1) (tgt := 31) d_X11_ask_1 rfl (fun c1 => ?_) (fun c1 => ?_)
  · refine Tr.iconst (pc := 31) d_X11_ask_31 (by decide) ?_
    have kr_113_0 : rd M0 113 0 = g113_0 := eg113_0
    exact Tr.iret (pc := 32) d_X11_ask_32 rfl ⟨hS, _, rfl, by omega, by omega, by omega⟩
  · refine Tr.iload_n (pc := 4) (i := 1) d_X11_ask_4 rfl rfl ?_
    refine Tr.sipush (pc := 5) d_X11_ask_5 rfl (by decide) ?_
    refine Tr.icmp_gt (pc := 8) (tgt := 31) d_X11_ask_8 rfl (fun c8 => ?_) (fun c8 => ?_)
    · refine Tr.iconst (pc := 31) d_X11_ask_31 (by decide) ?_
      have kr_113_0 : rd M0 113 0 = g113_0 := eg113_0
      exact Tr.iret (pc := 32) d_X11_ask_32 rfl ⟨hS, _, rfl, by omega, by omega, by omega⟩
    · refine Tr.iload_n (pc := 11) (i := 2) d_X11_ask_11 rfl rfl ?_
      refine Tr.iconst (pc := 12) d_X11_ask_12 (by decide) ?_
      refine Tr.icmp_lt (pc := 13) (tgt := 31) d_X11_ask_13 rfl (fun c13 => ?_) (fun c13 => ?_)
      · refine Tr.iconst (pc := 31) d_X11_ask_31 (by decide) ?_
        have kr_113_0 : rd M0 113 0 = g113_0 := eg113_0
        exact Tr.iret (pc := 32) d_X11_ask_32 rfl ⟨hS, _, rfl, by omega, by omega, by omega⟩
      · refine Tr.iload_n (pc := 16) (i := 2) d_X11_ask_16 rfl rfl ?_
        refine Tr.bipush (pc := 17) d_X11_ask_17 rfl (by decide) ?_
        refine Tr.icmp_gt (pc := 19) (tgt := 31) d_X11_ask_19 rfl (fun c19 => ?_) (fun c19 => ?_)
        · refine Tr.iconst (pc := 31) d_X11_ask_31 (by decide) ?_
          have kr_113_0 : rd M0 113 0 = g113_0 := eg113_0
          exact Tr.iret (pc := 32) d_X11_ask_32 rfl ⟨hS, _, rfl, by omega, by omega, by omega⟩
        · refine Tr.iload_n (pc := 22) (i := 3) d_X11_ask_22 rfl rfl ?_
          refine Tr.if_lt (pc := 23) (tgt := 31) d_X11_ask_23 rfl (fun c23 => ?_) (fun c23 => ?_)
          · refine Tr.iconst (pc := 31) d_X11_ask_31 (by decide) ?_
            have kr_113_0 : rd M0 113 0 = g113_0 := eg113_0
            exact Tr.iret (pc := 32) d_X11_ask_32 rfl ⟨hS, _, rfl, by omega, by omega, by omega⟩
          · refine Tr.iload_n (pc := 26) (i := 3) d_X11_ask_26 rfl rfl ?_
            refine Tr.iconst (pc := 27) d_X11_ask_27 (by decide) ?_
            refine Tr.icmp_le (pc := 28) (tgt := 33) d_X11_ask_28 rfl (fun c28 => ?_) (fun c28 => ?_)
            · refine Tr.aload_n (pc := 33) (i := 0) d_X11_ask_33 rfl rfl ?_
              refine Tr.getf (pc := 34) d_X11_ask_34 f_11_77 (by decide) (by decide) (ty_0 hS.1.1) ?_
              refine Tr.tp 113 (fx_0_13 hS.1.1) ?_
              refine Tr.iload_n (pc := 37) (i := 1) d_X11_ask_37 rfl rfl ?_
              refine Tr.iload_n (pc := 38) (i := 2) d_X11_ask_38 rfl rfl ?_
              refine Tr.iload_n (pc := 39) (i := 3) d_X11_ask_39 rfl rfl ?_
              refine Tr.callV (pc := 40) (as := [_, _, _]) d_X11_ask_40 s_11_286 ok_X0_add rfl rfl (Nat.le_of_ble_eq_true rfl) (Nat.le_of_ble_eq_true rfl) (by decide) (ty_113 hS.1.1) ?_
              have kb40_113_0 : rd M0 113 0 = g113_0 := eg113_0
              refine Tr.imp (Tr.deep (by decide) (sp_X0_add_113 hS.1 a1 (by omega) a2 (by omega) a3 (by omega))) ?_
              rintro M40 _ ⟨h40, r40, rfl, lr40, ur40, z40_0⟩
              have hS := St.tr hS h40 (by decide) (by decide)
              obtain ⟨s40_113_0, es40_113_0⟩ : ∃ v, rd M40 113 0 = v := ⟨_, rfl⟩
              have bs40_113_0 : 0 ≤ s40_113_0 ∧ s40_113_0 ≤ 6 := by rw [← es40_113_0]; exact ir_113_0 hS.1.2.1
              refine Tr.sc [(0, r40)] rfl ?_
              refine Tr.if_eq (pc := 43) (tgt := 56) d_X11_ask_43 rfl (fun c43 => ?_) (fun c43 => ?_)
              · refine Tr.iconst (pc := 56) d_X11_ask_56 (by decide) ?_
                have kr_113_0 : rd M40 113 0 = s40_113_0 := es40_113_0
                exact Tr.iret (pc := 57) d_X11_ask_57 rfl ⟨hS, _, rfl, by omega, by omega, by omega⟩
              · refine Tr.aload_n (pc := 46) (i := 0) d_X11_ask_46 rfl rfl ?_
                refine Tr.getf (pc := 47) d_X11_ask_47 f_11_77 (by decide) (by decide) (ty_0 hS.1.1) ?_
                refine Tr.tp 113 (fx_0_13 hS.1.1) ?_
                refine Tr.getf (pc := 50) d_X11_ask_50 f_11_136 (by decide) (by decide) (ty_113 hS.1.1) ?_
                refine Tr.tp s40_113_0 es40_113_0 ?_
                refine Tr.goto (pc := 53) (tgt := 57) d_X11_ask_53 rfl ?_
                have kr_113_0 : rd M40 113 0 = s40_113_0 := es40_113_0
                exact Tr.iret (pc := 57) d_X11_ask_57 rfl ⟨hS, _, rfl, by omega, by omega, by omega⟩
            · refine Tr.iconst (pc := 31) d_X11_ask_31 (by decide) ?_
              have kr_113_0 : rd M0 113 0 = g113_0 := eg113_0
              exact Tr.iret (pc := 32) d_X11_ask_32 rfl ⟨hS, _, rfl, by omega, by omega, by omega⟩

def ws_X11_forget_0 : List (Int × Int) := [(113, 0)]
def as_X11_forget_0 : List Int := []
def q_X11_forget_0 (M0 M' : Mem) (r : Option PV) : Prop := St Tru ws_X11_forget_0 as_X11_forget_0 M0 M' ∧ ∃ v : Int, r = some (0, v) ∧ 0 ≤ v ∧ v ≤ 6 ∧ (v = rd M0 113 0 ∧ rd M' 113 0 = 0)
set_option maxRecDepth 100000 in
set_option maxHeartbeats 4000000 in
theorem sp_X11_forget_0 {l : Launch} {K : EC} {M0 : Mem} (hI : In Tru M0)    : Tr l K 0 mX11_forget 0 [(0, (2, 0))] [] M0 (q_X11_forget_0 M0) := by
  have hS : St Tru ws_X11_forget_0 as_X11_forget_0 M0 M0 := St.rf hI
  obtain ⟨g113_0, eg113_0⟩ : ∃ v, rd M0 113 0 = v := ⟨_, rfl⟩
  have bg113_0 : 0 ≤ g113_0 ∧ g113_0 ≤ 6 := by rw [← eg113_0]; exact ir_113_0 hI.2.1
  refine Tr.aload_n (pc := 0) (i := 0) d_X11_forget_0 rfl rfl ?_
  refine Tr.getf (pc := 1) d_X11_forget_1 f_11_77 (by decide) (by decide) (ty_0 hS.1.1) ?_
  refine Tr.tp 113 (fx_0_13 hS.1.1) ?_
  refine Tr.getf (pc := 4) d_X11_forget_4 f_11_136 (by decide) (by decide) (ty_113 hS.1.1) ?_
  refine Tr.tp g113_0 eg113_0 ?_
  refine Tr.istore_n (pc := 7) (i := 1) (ls2 := [(1, (0, g113_0)), (0, (2, 0))]) d_X11_forget_7 rfl (by decide) rfl ?_
  refine Tr.aload_n (pc := 8) (i := 0) d_X11_forget_8 rfl rfl ?_
  refine Tr.getf (pc := 9) d_X11_forget_9 f_11_77 (by decide) (by decide) (ty_0 hS.1.1) ?_
  refine Tr.tp 113 (fx_0_13 hS.1.1) ?_
  refine Tr.iconst (pc := 12) d_X11_forget_12 (by decide) ?_
  refine Tr.putfS (pc := 13) (P := St Tru ws_X11_forget_0 as_X11_forget_0 M0) d_X11_forget_13 f_11_136 (by decide) (by decide) (ty_113 hS.1.1) (st_113_0 hS (by decide) (by omega) trivial) (fun M13 hS w13 => ?_)
  refine Tr.iload_n (pc := 16) (i := 1) d_X11_forget_16 rfl rfl ?_
  have kr_113_0 : rd M13 113 0 = 0 := w13.1
  exact Tr.iret (pc := 17) d_X11_forget_17 rfl ⟨hS, _, rfl, by omega, by omega, by omega⟩

def ws_X3_wakeCost_7 : List (Int × Int) := []
def as_X3_wakeCost_7 : List Int := []
def q_X3_wakeCost_7 (M0 M' : Mem) (r : Option PV) : Prop := St Tru ws_X3_wakeCost_7 as_X3_wakeCost_7 M0 M' ∧ ∃ v : Int, r = some (0, v) ∧ (-2147483648) ≤ v ∧ v ≤ 2147483647
set_option maxRecDepth 100000 in
set_option maxHeartbeats 4000000 in
theorem sp_X3_wakeCost_7 {l : Launch} {K : EC} {M0 : Mem} (hI : In Tru M0)  (a1 : Int) (ha1 : 0 ≤ a1 ∧ a1 ≤ 5)  : Tr l K 0 mX3_wakeCost 0 [(0, (2, 7)), (1, (0, a1))] [] M0 (q_X3_wakeCost_7 M0) := by
  have hS : St Tru ws_X3_wakeCost_7 as_X3_wakeCost_7 M0 M0 := St.rf hI
  refine Tr.aload_n (pc := 0) (i := 0) d_X3_wakeCost_0 rfl rfl ?_
  refine Tr.getf (pc := 1) d_X3_wakeCost_1 f_3_18 (by decide) (by decide) (ty_7 hS.1.1) ?_
  refine Tr.tp 10 (fx_7_6 hS.1.1) ?_
  refine Tr.iload_n (pc := 4) (i := 1) d_X3_wakeCost_4 rfl rfl ?_
  refine Tr.iald (pc := 5) d_X3_wakeCost_5 (ty_10 hS.1.1) (by omega) (by omega) ?_
  refine Tr.gen (P := fun v => (-1) ≤ v ∧ v ≤ 20) (ar_10 hS.1.2.1 _) (fun r5 er5 br5 => ?_)
  refine Tr.aload_n (pc := 6) (i := 0) d_X3_wakeCost_6 rfl rfl ?_
  refine Tr.getf (pc := 7) d_X3_wakeCost_7 f_3_15 (by decide) (by decide) (ty_7 hS.1.1) ?_
  refine Tr.tp 9 (fx_7_5 hS.1.1) ?_
  refine Tr.iload_n (pc := 10) (i := 1) d_X3_wakeCost_10 rfl rfl ?_
  refine Tr.iconst (pc := 11) d_X3_wakeCost_11 (by decide) ?_
  refine Tr.imul (pc := 12) d_X3_wakeCost_12 ?_
  refine Tr.tp (4 * a1) ((w32_id (by omega)).trans (by omega)) ?_
  refine Tr.iconst (pc := 13) d_X3_wakeCost_13 (by decide) ?_
  refine Tr.iadd (pc := 14) d_X3_wakeCost_14 ?_
  refine Tr.tp (4 * a1 + 1) ((w32_id (by omega)).trans (by omega)) ?_
  refine Tr.iald (pc := 15) d_X3_wakeCost_15 (ty_9 hS.1.1) (by omega) (by omega) ?_
  refine Tr.gen (P := fun v => (-1) ≤ v ∧ v ≤ 999) (ar_9 hS.1.2.1 _) (fun r15 er15 br15 => ?_)
  refine Tr.imul (pc := 16) d_X3_wakeCost_16 ?_
  refine Tr.gen (P := fun v => (-2147483648) ≤ v ∧ v ≤ 2147483647) (w32_b _) (fun r16 er16 br16 => ?_)
  exact Tr.iret (pc := 17) d_X3_wakeCost_17 rfl ⟨hS, _, rfl, by omega, by omega⟩

def ws_X0_sort_113 : List (Int × Int) := []
def as_X0_sort_113 : List Int := [118]
def q_X0_sort_113 (M0 M' : Mem) (r : Option PV) : Prop := St Tru ws_X0_sort_113 as_X0_sort_113 M0 M' ∧ r = none
set_option maxRecDepth 100000 in
set_option maxHeartbeats 4000000 in
theorem sp_X0_sort_113 {l : Launch} {K : EC} {M0 : Mem} (hI : In Tru M0)    : Tr l K 0 mX0_sort 0 [(0, (2, 113))] [] M0 (q_X0_sort_113 M0) := by
  have hS : St Tru ws_X0_sort_113 as_X0_sort_113 M0 M0 := St.rf hI
  refine Tr.iconst (pc := 0) d_X0_sort_0 (by decide) ?_
  refine Tr.istore_n (pc := 1) (i := 1) (ls2 := [(1, (0, 1)), (0, (2, 113))]) d_X0_sort_1 rfl (by decide) rfl ?_
  have J2 : ∀ (n2 : Nat) (M : Mem) (p2_1 : Int), St Tru ws_X0_sort_113 as_X0_sort_113 M0 M → (1 ≤ p2_1 ∧ p2_1 ≤ 6) → (6 - p2_1).toNat < n2 → Tr l K 0 mX0_sort 2 [(0, (2, 113)), (1, (0, p2_1))] [] M (q_X0_sort_113 M0) := by
    intro n2
    induction n2 with
    | zero => intro M p2_1 hS bp2_1  hm2; exact absurd hm2 (Nat.not_lt_zero _)
    | succ n2 J2 =>
      intro M p2_1 hS bp2_1  hm2
      refine Tr.iload_n (pc := 2) (i := 1) d_X0_sort_2 rfl rfl ?_
      refine Tr.aload_n (pc := 3) (i := 0) d_X0_sort_3 rfl rfl ?_
      refine Tr.getf (pc := 4) d_X0_sort_4 f_0_30 (by decide) (by decide) (ty_113 hS.1.1) ?_
      refine Tr.gen (P := fun v => 0 ≤ v ∧ v ≤ 6) (ir_113_0 hS.1.2.1) (fun r4 er4 br4 => ?_)
      refine Tr.icmp_ge (pc := 7) (tgt := 108) d_X0_sort_7 rfl (fun c7 => ?_) (fun c7 => ?_)
      · exact Tr.vret (pc := 108) d_X0_sort_108 rfl ⟨hS, rfl⟩
      · refine Tr.aload_n (pc := 10) (i := 0) d_X0_sort_10 rfl rfl ?_
        refine Tr.getf (pc := 11) d_X0_sort_11 f_0_24 (by decide) (by decide) (ty_113 hS.1.1) ?_
        refine Tr.tp 118 (fx_113_5 hS.1.1) ?_
        refine Tr.iload_n (pc := 14) (i := 1) d_X0_sort_14 rfl rfl ?_
        refine Tr.iald (pc := 15) d_X0_sort_15 (ty_118 hS.1.1) (by omega) (by omega) ?_
        refine Tr.gen (P := fun v => 0 ≤ v ∧ v ≤ 5) (ar_118 hS.1.2.1 _) (fun r15 er15 br15 => ?_)
        refine Tr.istore_n (pc := 16) (i := 2) (ls2 := [(2, (0, r15)), (0, (2, 113)), (1, (0, p2_1))]) d_X0_sort_16 rfl (by decide) rfl ?_
        refine Tr.aload_n (pc := 17) (i := 0) d_X0_sort_17 rfl rfl ?_
        refine Tr.getf (pc := 18) d_X0_sort_18 f_0_11 (by decide) (by decide) (ty_113 hS.1.1) ?_
        refine Tr.tp 114 (fx_113_1 hS.1.1) ?_
        refine Tr.iload_n (pc := 21) (i := 2) d_X0_sort_21 rfl rfl ?_
        refine Tr.iald (pc := 22) d_X0_sort_22 (ty_114 hS.1.1) (by omega) (by omega) ?_
        refine Tr.gen (P := fun v => 0 ≤ v ∧ v ≤ 200) (ar_114 hS.1.2.1 _) (fun r22 er22 br22 => ?_)
        refine Tr.aload_n (pc := 23) (i := 0) d_X0_sort_23 rfl rfl ?_
        refine Tr.getf (pc := 24) d_X0_sort_24 f_0_21 (by decide) (by decide) (ty_113 hS.1.1) ?_
        refine Tr.tp 117 (fx_113_4 hS.1.1) ?_
        refine Tr.iload_n (pc := 27) (i := 2) d_X0_sort_27 rfl rfl ?_
        refine Tr.iald (pc := 28) d_X0_sort_28 (ty_117 hS.1.1) (by omega) (by omega) ?_
        refine Tr.gen (P := fun v => 0 ≤ v ∧ v ≤ 5) (ar_117 hS.1.2.1 _) (fun r28 er28 br28 => ?_)
        refine Tr.iadd (pc := 29) d_X0_sort_29 ?_
        refine Tr.tp (r22 + r28) ((w32_id (by omega)).trans (by omega)) ?_
        refine Tr.istore_n (pc := 30) (i := 3) (ls2 := [(3, (0, (r22 + r28))), (2, (0, r15)), (0, (2, 113)), (1, (0, p2_1))]) d_X0_sort_30 rfl (by decide) rfl ?_
        refine Tr.iload_n (pc := 31) (i := 1) d_X0_sort_31 rfl rfl ?_
        refine Tr.istore (pc := 32) (i := 4) (ls2 := [(4, (0, p2_1)), (3, (0, (r22 + r28))), (2, (0, r15)), (0, (2, 113)), (1, (0, p2_1))]) d_X0_sort_32 (by decide) rfl ?_
        have J34 : ∀ (n34 : Nat) (M : Mem) (p34_4 : Int), St Tru ws_X0_sort_113 as_X0_sort_113 M0 M → (0 ≤ p34_4 ∧ p34_4 ≤ 5) → rd M 113 0 = r4 → rd M 114 r15 = r22 → rd M 117 r15 = r28 → (p34_4 - 0).toNat < n34 → Tr l K 0 mX0_sort 34 [(0, (2, 113)), (1, (0, p2_1)), (2, (0, r15)), (3, (0, (r22 + r28))), (4, (0, p34_4))] [] M (q_X0_sort_113 M0) := by
          intro n34
          induction n34 with
          | zero => intro M p34_4 hS bp34_4 k34_113_0 k34_114_r1510 k34_117_r1510 hm34; exact absurd hm34 (Nat.not_lt_zero _)
          | succ n34 J34 =>
            intro M p34_4 hS bp34_4 k34_113_0 k34_114_r1510 k34_117_r1510 hm34
            refine Tr.iload (pc := 34) (i := 4) d_X0_sort_34 rfl ?_
            have J94 : ∀ (M : Mem), St Tru ws_X0_sort_113 as_X0_sort_113 M0 M → rd M 113 0 = r4 → rd M 114 r15 = r22 → rd M 117 r15 = r28 → Tr l K 0 mX0_sort 94 [(0, (2, 113)), (1, (0, p2_1)), (2, (0, r15)), (4, (0, p34_4))] [] M (q_X0_sort_113 M0) := by
              intro M  hS  k94_113_0 k94_114_r1510 k94_117_r1510
              refine Tr.aload_n (pc := 94) (i := 0) d_X0_sort_94 rfl rfl ?_
              refine Tr.getf (pc := 95) d_X0_sort_95 f_0_24 (by decide) (by decide) (ty_113 hS.1.1) ?_
              refine Tr.tp 118 (fx_113_5 hS.1.1) ?_
              refine Tr.iload (pc := 98) (i := 4) d_X0_sort_98 rfl ?_
              refine Tr.iload_n (pc := 100) (i := 2) d_X0_sort_100 rfl rfl ?_
              refine Tr.iastS (pc := 101) (P := St Tru ws_X0_sort_113 as_X0_sort_113 M0) d_X0_sort_101 (ty_118 hS.1.1) (by omega) (by omega) (sa_118 hS (by decide) (by omega) trivial) (fun M101 hS w101 => ?_)
              refine Tr.iincV (pc := 102) (n2 := (p2_1 + 1)) (ls2 := [(1, (0, (p2_1 + 1))), (0, (2, 113)), (2, (0, r15)), (4, (0, p34_4))]) d_X0_sort_102 rfl (by decide) ((w32_id (by omega)).trans (by omega)) rfl ?_
              refine Tr.goto (pc := 105) (tgt := 2) d_X0_sort_105 rfl ?_
              refine Tr.pick [1, 0] (ls2 := [(0, (2, 113)), (1, (0, (p2_1 + 1)))]) rfl ?_
              exact J2 _ _ hS (by omega) (by omega)
            refine Tr.if_le (pc := 36) (tgt := 94) d_X0_sort_36 rfl (fun c36 => ?_) (fun c36 => ?_)
            · refine Tr.pick [0, 1, 2, 4] (ls2 := [(0, (2, 113)), (1, (0, p2_1)), (2, (0, r15)), (4, (0, p34_4))]) rfl ?_
              exact J94 _ hS k34_113_0 k34_114_r1510 k34_117_r1510
            · refine Tr.aload_n (pc := 39) (i := 0) d_X0_sort_39 rfl rfl ?_
              refine Tr.getf (pc := 40) d_X0_sort_40 f_0_11 (by decide) (by decide) (ty_113 hS.1.1) ?_
              refine Tr.tp 114 (fx_113_1 hS.1.1) ?_
              refine Tr.aload_n (pc := 43) (i := 0) d_X0_sort_43 rfl rfl ?_
              refine Tr.getf (pc := 44) d_X0_sort_44 f_0_24 (by decide) (by decide) (ty_113 hS.1.1) ?_
              refine Tr.tp 118 (fx_113_5 hS.1.1) ?_
              refine Tr.iload (pc := 47) (i := 4) d_X0_sort_47 rfl ?_
              refine Tr.iconst (pc := 49) d_X0_sort_49 (by decide) ?_
              refine Tr.isub (pc := 50) d_X0_sort_50 ?_
              refine Tr.tp (p34_4 - 1) ((w32_id (by omega)).trans (by omega)) ?_
              refine Tr.iald (pc := 51) d_X0_sort_51 (ty_118 hS.1.1) (by omega) (by omega) ?_
              refine Tr.gen (P := fun v => 0 ≤ v ∧ v ≤ 5) (ar_118 hS.1.2.1 _) (fun r51 er51 br51 => ?_)
              refine Tr.iald (pc := 52) d_X0_sort_52 (ty_114 hS.1.1) (by omega) (by omega) ?_
              refine Tr.gen (P := fun v => 0 ≤ v ∧ v ≤ 200) (ar_114 hS.1.2.1 _) (fun r52 er52 br52 => ?_)
              refine Tr.aload_n (pc := 53) (i := 0) d_X0_sort_53 rfl rfl ?_
              refine Tr.getf (pc := 54) d_X0_sort_54 f_0_21 (by decide) (by decide) (ty_113 hS.1.1) ?_
              refine Tr.tp 117 (fx_113_4 hS.1.1) ?_
              refine Tr.aload_n (pc := 57) (i := 0) d_X0_sort_57 rfl rfl ?_
              refine Tr.getf (pc := 58) d_X0_sort_58 f_0_24 (by decide) (by decide) (ty_113 hS.1.1) ?_
              refine Tr.tp 118 (fx_113_5 hS.1.1) ?_
              refine Tr.iload (pc := 61) (i := 4) d_X0_sort_61 rfl ?_
              refine Tr.iconst (pc := 63) d_X0_sort_63 (by decide) ?_
              refine Tr.isub (pc := 64) d_X0_sort_64 ?_
              refine Tr.tp (p34_4 - 1) ((w32_id (by omega)).trans (by omega)) ?_
              refine Tr.iald (pc := 65) d_X0_sort_65 (ty_118 hS.1.1) (by omega) (by omega) ?_
              refine Tr.tp r51 er51 ?_
              refine Tr.iald (pc := 66) d_X0_sort_66 (ty_117 hS.1.1) (by omega) (by omega) ?_
              refine Tr.gen (P := fun v => 0 ≤ v ∧ v ≤ 5) (ar_117 hS.1.2.1 _) (fun r66 er66 br66 => ?_)
              refine Tr.iadd (pc := 67) d_X0_sort_67 ?_
              refine Tr.tp (r52 + r66) ((w32_id (by omega)).trans (by omega)) ?_
              refine Tr.iload_n (pc := 68) (i := 3) d_X0_sort_68 rfl rfl ?_
              refine Tr.icmp_le (pc := 69) (tgt := 94) d_X0_sort_69 rfl (fun c69 => ?_) (fun c69 => ?_)
              · refine Tr.pick [0, 1, 2, 4] (ls2 := [(0, (2, 113)), (1, (0, p2_1)), (2, (0, r15)), (4, (0, p34_4))]) rfl ?_
                exact J94 _ hS k34_113_0 k34_114_r1510 k34_117_r1510
              · refine Tr.aload_n (pc := 72) (i := 0) d_X0_sort_72 rfl rfl ?_
                refine Tr.getf (pc := 73) d_X0_sort_73 f_0_24 (by decide) (by decide) (ty_113 hS.1.1) ?_
                refine Tr.tp 118 (fx_113_5 hS.1.1) ?_
                refine Tr.iload (pc := 76) (i := 4) d_X0_sort_76 rfl ?_
                refine Tr.aload_n (pc := 78) (i := 0) d_X0_sort_78 rfl rfl ?_
                refine Tr.getf (pc := 79) d_X0_sort_79 f_0_24 (by decide) (by decide) (ty_113 hS.1.1) ?_
                refine Tr.tp 118 (fx_113_5 hS.1.1) ?_
                refine Tr.iload (pc := 82) (i := 4) d_X0_sort_82 rfl ?_
                refine Tr.iconst (pc := 84) d_X0_sort_84 (by decide) ?_
                refine Tr.isub (pc := 85) d_X0_sort_85 ?_
                refine Tr.tp (p34_4 - 1) ((w32_id (by omega)).trans (by omega)) ?_
                refine Tr.iald (pc := 86) d_X0_sort_86 (ty_118 hS.1.1) (by omega) (by omega) ?_
                refine Tr.tp r51 er51 ?_
                refine Tr.iastS (pc := 87) (P := St Tru ws_X0_sort_113 as_X0_sort_113 M0) d_X0_sort_87 (ty_118 hS.1.1) (by omega) (by omega) (sa_118 hS (by decide) (by omega) trivial) (fun M87 hS w87 => ?_)
                refine Tr.iincV (pc := 88) (n2 := (p34_4 - 1)) (ls2 := [(4, (0, (p34_4 - 1))), (0, (2, 113)), (1, (0, p2_1)), (2, (0, r15)), (3, (0, (r22 + r28)))]) d_X0_sort_88 rfl (by decide) ((w32_id (by omega)).trans (by omega)) rfl ?_
                refine Tr.goto (pc := 91) (tgt := 34) d_X0_sort_91 rfl ?_
                refine Tr.pick [1, 2, 3, 4, 0] (ls2 := [(0, (2, 113)), (1, (0, p2_1)), (2, (0, r15)), (3, (0, (r22 + r28))), (4, (0, (p34_4 - 1)))]) rfl ?_
                exact J34 _ _ hS (by omega) ((Wr.b w87 rfl).trans k34_113_0) ((Wr.b w87 rfl).trans k34_114_r1510) ((Wr.b w87 rfl).trans k34_117_r1510) (by omega)
        refine Tr.pick [3, 4, 2, 1, 0] (ls2 := [(0, (2, 113)), (1, (0, p2_1)), (2, (0, r15)), (3, (0, (r22 + r28))), (4, (0, p2_1))]) rfl ?_
        exact J34 _ _ _ hS (by omega) er4 er22 er28 (Nat.lt_succ_self _)
  refine Tr.pick [1, 0] (ls2 := [(0, (2, 113)), (1, (0, 1))]) rfl ?_
  exact J2 _ _ _ hS (by omega) (Nat.lt_succ_self _)

def ws_X0_cost_113 : List (Int × Int) := []
def as_X0_cost_113 : List Int := [118]
def q_X0_cost_113 (M0 M' : Mem) (r : Option PV) : Prop := St Tru ws_X0_cost_113 as_X0_cost_113 M0 M' ∧ ∃ v : Int, r = some (0, v) ∧ (-2147483648) ≤ v ∧ v ≤ 2147483647
set_option maxRecDepth 100000 in
set_option maxHeartbeats 4000000 in
theorem sp_X0_cost_113 {l : Launch} {K : EC} {M0 : Mem} (hI : In Tru M0)  (a1 : Int) (ha1 : (-1) ≤ a1 ∧ a1 ≤ 999) (a2 : Int) (ha2 : (-2147483648) ≤ a2 ∧ a2 ≤ 2147483647) (a3 : Int) (ha3 : 0 ≤ a3 ∧ a3 ≤ 50)  : Tr l K 1 mX0_cost 0 [(0, (2, 113)), (1, (0, a1)), (2, (0, a2)), (3, (0, a3))] [] M0 (q_X0_cost_113 M0) := by
  have hS : St Tru ws_X0_cost_113 as_X0_cost_113 M0 M0 := St.rf hI
  refine Tr.aload_n (pc := 0) (i := 0) d_X0_cost_0 rfl rfl ?_
  refine Tr.callV (pc := 1) (as := []) d_X0_cost_1 s_0_56 ok_X0_sort rfl rfl (Nat.le_of_ble_eq_true rfl) (Nat.le_of_ble_eq_true rfl) (by decide) (ty_113 hS.1.1) ?_
  refine Tr.imp (Tr.deep (by decide) (sp_X0_sort_113 hS.1 )) ?_
  rintro M1 _ ⟨h1, rfl⟩
  have hS := St.tr hS h1 (by decide) (by decide)
  refine Tr.sc [] rfl ?_
  refine Tr.iconst (pc := 4) d_X0_cost_4 (by decide) ?_
  refine Tr.istore (pc := 5) (i := 4) (ls2 := [(4, (0, 0)), (0, (2, 113)), (1, (0, a1)), (2, (0, a2)), (3, (0, a3))]) d_X0_cost_5 (by decide) rfl ?_
  refine Tr.iconst (pc := 7) d_X0_cost_7 (by decide) ?_
  refine Tr.istore (pc := 8) (i := 5) (ls2 := [(5, (0, 0)), (4, (0, 0)), (0, (2, 113)), (1, (0, a1)), (2, (0, a2)), (3, (0, a3))]) d_X0_cost_8 (by decide) rfl ?_
  refine Tr.iconst (pc := 10) d_X0_cost_10 (by decide) ?_
  refine Tr.istore (pc := 11) (i := 6) (ls2 := [(6, (0, (-1))), (5, (0, 0)), (4, (0, 0)), (0, (2, 113)), (1, (0, a1)), (2, (0, a2)), (3, (0, a3))]) d_X0_cost_11 (by decide) rfl ?_
  refine Tr.iconst (pc := 13) d_X0_cost_13 (by decide) ?_
  refine Tr.istore (pc := 14) (i := 7) (ls2 := [(7, (0, 0)), (6, (0, (-1))), (5, (0, 0)), (4, (0, 0)), (0, (2, 113)), (1, (0, a1)), (2, (0, a2)), (3, (0, a3))]) d_X0_cost_14 (by decide) rfl ?_
  have J16 : ∀ (n16 : Nat) (M : Mem) (p16_4 p16_5 p16_6 p16_7 : Int), St Tru ws_X0_cost_113 as_X0_cost_113 M0 M → ((-2147483648) ≤ p16_4 ∧ p16_4 ≤ 2147483647) → ((-2147483648) ≤ p16_5 ∧ p16_5 ≤ 2147483647) → ((-1) ≤ p16_6 ∧ p16_6 ≤ 275) → (0 ≤ p16_7 ∧ p16_7 ≤ 6) → (6 - p16_7).toNat < n16 → Tr l K 1 mX0_cost 16 [(0, (2, 113)), (1, (0, a1)), (2, (0, a2)), (3, (0, a3)), (4, (0, p16_4)), (5, (0, p16_5)), (6, (0, p16_6)), (7, (0, p16_7))] [] M (q_X0_cost_113 M0) := by
    intro n16
    induction n16 with
    | zero => intro M p16_4 p16_5 p16_6 p16_7 hS bp16_4 bp16_5 bp16_6 bp16_7  hm16; exact absurd hm16 (Nat.not_lt_zero _)
    | succ n16 J16 =>
      intro M p16_4 p16_5 p16_6 p16_7 hS bp16_4 bp16_5 bp16_6 bp16_7  hm16
      refine Tr.iload (pc := 16) (i := 7) d_X0_cost_16 rfl ?_
      refine Tr.aload_n (pc := 18) (i := 0) d_X0_cost_18 rfl rfl ?_
      refine Tr.getf (pc := 19) d_X0_cost_19 f_0_30 (by decide) (by decide) (ty_113 hS.1.1) ?_
      refine Tr.gen (P := fun v => 0 ≤ v ∧ v ≤ 6) (ir_113_0 hS.1.2.1) (fun r19 er19 br19 => ?_)
      refine Tr.icmp_ge (pc := 22) (tgt := 119) d_X0_cost_22 rfl (fun c22 => ?_) (fun c22 => ?_)
      · refine Tr.iload (pc := 119) (i := 5) d_X0_cost_119 rfl ?_
        refine Tr.iload_n (pc := 121) (i := 2) d_X0_cost_121 rfl rfl ?_
        refine Tr.imul (pc := 122) d_X0_cost_122 ?_
        refine Tr.gen (P := fun v => (-2147483648) ≤ v ∧ v ≤ 2147483647) (w32_b _) (fun r122 er122 br122 => ?_)
        refine Tr.iload (pc := 123) (i := 4) d_X0_cost_123 rfl ?_
        refine Tr.iload_n (pc := 125) (i := 1) d_X0_cost_125 rfl rfl ?_
        refine Tr.imul (pc := 126) d_X0_cost_126 ?_
        refine Tr.gen (P := fun v => (-2147483648) ≤ v ∧ v ≤ 2147483647) (w32_b _) (fun r126 er126 br126 => ?_)
        refine Tr.iadd (pc := 127) d_X0_cost_127 ?_
        refine Tr.gen (P := fun v => (-2147483648) ≤ v ∧ v ≤ 2147483647) (w32_b _) (fun r127 er127 br127 => ?_)
        exact Tr.iret (pc := 128) d_X0_cost_128 rfl ⟨hS, _, rfl, by omega, by omega⟩
      · refine Tr.aload_n (pc := 25) (i := 0) d_X0_cost_25 rfl rfl ?_
        refine Tr.getf (pc := 26) d_X0_cost_26 f_0_24 (by decide) (by decide) (ty_113 hS.1.1) ?_
        refine Tr.tp 118 (fx_113_5 hS.1.1) ?_
        refine Tr.iload (pc := 29) (i := 7) d_X0_cost_29 rfl ?_
        refine Tr.iald (pc := 31) d_X0_cost_31 (ty_118 hS.1.1) (by omega) (by omega) ?_
        refine Tr.gen (P := fun v => 0 ≤ v ∧ v ≤ 5) (ar_118 hS.1.2.1 _) (fun r31 er31 br31 => ?_)
        refine Tr.istore (pc := 32) (i := 8) (ls2 := [(8, (0, r31)), (0, (2, 113)), (1, (0, a1)), (2, (0, a2)), (3, (0, a3)), (4, (0, p16_4)), (5, (0, p16_5)), (6, (0, p16_6)), (7, (0, p16_7))]) d_X0_cost_32 (by decide) rfl ?_
        refine Tr.aload_n (pc := 34) (i := 0) d_X0_cost_34 rfl rfl ?_
        refine Tr.getf (pc := 35) d_X0_cost_35 f_0_11 (by decide) (by decide) (ty_113 hS.1.1) ?_
        refine Tr.tp 114 (fx_113_1 hS.1.1) ?_
        refine Tr.iload (pc := 38) (i := 8) d_X0_cost_38 rfl ?_
        refine Tr.iald (pc := 40) d_X0_cost_40 (ty_114 hS.1.1) (by omega) (by omega) ?_
        refine Tr.gen (P := fun v => 0 ≤ v ∧ v ≤ 200) (ar_114 hS.1.2.1 _) (fun r40 er40 br40 => ?_)
        refine Tr.aload_n (pc := 41) (i := 0) d_X0_cost_41 rfl rfl ?_
        refine Tr.getf (pc := 42) d_X0_cost_42 f_0_21 (by decide) (by decide) (ty_113 hS.1.1) ?_
        refine Tr.tp 117 (fx_113_4 hS.1.1) ?_
        refine Tr.iload (pc := 45) (i := 8) d_X0_cost_45 rfl ?_
        refine Tr.iald (pc := 47) d_X0_cost_47 (ty_117 hS.1.1) (by omega) (by omega) ?_
        refine Tr.gen (P := fun v => 0 ≤ v ∧ v ≤ 5) (ar_117 hS.1.2.1 _) (fun r47 er47 br47 => ?_)
        refine Tr.iadd (pc := 48) d_X0_cost_48 ?_
        refine Tr.tp (r40 + r47) ((w32_id (by omega)).trans (by omega)) ?_
        refine Tr.istore (pc := 49) (i := 9) (ls2 := [(9, (0, (r40 + r47))), (8, (0, r31)), (0, (2, 113)), (1, (0, a1)), (2, (0, a2)), (3, (0, a3)), (4, (0, p16_4)), (5, (0, p16_5)), (6, (0, p16_6)), (7, (0, p16_7))]) d_X0_cost_49 (by decide) rfl ?_
        refine Tr.iload (pc := 51) (i := 9) d_X0_cost_51 rfl ?_
        refine Tr.aload_n (pc := 53) (i := 0) d_X0_cost_53 rfl rfl ?_
        refine Tr.getf (pc := 54) d_X0_cost_54 f_0_15 (by decide) (by decide) (ty_113 hS.1.1) ?_
        refine Tr.tp 115 (fx_113_2 hS.1.1) ?_
        refine Tr.iload (pc := 57) (i := 8) d_X0_cost_57 rfl ?_
        refine Tr.iald (pc := 59) d_X0_cost_59 (ty_115 hS.1.1) (by omega) (by omega) ?_
        refine Tr.gen (P := fun v => 0 ≤ v ∧ v ≤ 20) (ar_115 hS.1.2.1 _) (fun r59 er59 br59 => ?_)
        refine Tr.iadd (pc := 60) d_X0_cost_60 ?_
        refine Tr.tp (r40 + r47 + r59) ((w32_id (by omega)).trans (by omega)) ?_
        refine Tr.iload_n (pc := 61) (i := 3) d_X0_cost_61 rfl rfl ?_
        refine Tr.iadd (pc := 62) d_X0_cost_62 ?_
        refine Tr.tp (a3 + r40 + r47 + r59) ((w32_id (by omega)).trans (by omega)) ?_
        refine Tr.istore (pc := 63) (i := 10) (ls2 := [(10, (0, (a3 + r40 + r47 + r59))), (9, (0, (r40 + r47))), (8, (0, r31)), (0, (2, 113)), (1, (0, a1)), (2, (0, a2)), (3, (0, a3)), (4, (0, p16_4)), (5, (0, p16_5)), (6, (0, p16_6)), (7, (0, p16_7))]) d_X0_cost_63 (by decide) rfl ?_
        refine Tr.iload (pc := 65) (i := 9) d_X0_cost_65 rfl ?_
        refine Tr.iload (pc := 67) (i := 6) d_X0_cost_67 rfl ?_
        have J113 : ∀ (M : Mem) (p113_4 p113_5 p113_6 : Int), St Tru ws_X0_cost_113 as_X0_cost_113 M0 M → ((-2147483648) ≤ p113_4 ∧ p113_4 ≤ 2147483647) → ((-2147483648) ≤ p113_5 ∧ p113_5 ≤ 2147483647) → (0 ≤ p113_6 ∧ p113_6 ≤ 275) → rd M 113 0 = r19 → rd M 114 r31 = r40 → rd M 115 r31 = r59 → rd M 117 r31 = r47 → rd M 118 p16_7 = r31 → Tr l K 1 mX0_cost 113 [(0, (2, 113)), (1, (0, a1)), (2, (0, a2)), (3, (0, a3)), (4, (0, p113_4)), (5, (0, p113_5)), (6, (0, p113_6)), (7, (0, p16_7))] [] M (q_X0_cost_113 M0) := by
          intro M p113_4 p113_5 p113_6 hS bp113_4 bp113_5 bp113_6 k113_113_0 k113_114_r3110 k113_115_r3110 k113_117_r3110 k113_118_p16_710
          refine Tr.iincV (pc := 113) (n2 := (p16_7 + 1)) (ls2 := [(7, (0, (p16_7 + 1))), (0, (2, 113)), (1, (0, a1)), (2, (0, a2)), (3, (0, a3)), (4, (0, p113_4)), (5, (0, p113_5)), (6, (0, p113_6))]) d_X0_cost_113 rfl (by decide) ((w32_id (by omega)).trans (by omega)) rfl ?_
          refine Tr.goto (pc := 116) (tgt := 16) d_X0_cost_116 rfl ?_
          refine Tr.pick [1, 2, 3, 4, 5, 6, 7, 0] (ls2 := [(0, (2, 113)), (1, (0, a1)), (2, (0, a2)), (3, (0, a3)), (4, (0, p113_4)), (5, (0, p113_5)), (6, (0, p113_6)), (7, (0, (p16_7 + 1)))]) rfl ?_
          exact J16 _ _ _ _ _ hS (by omega) (by omega) (by omega) (by omega) (by omega)
        refine Tr.icmp_le (pc := 69) (tgt := 92) d_X0_cost_69 rfl (fun c69 => ?_) (fun c69 => ?_)
        · refine Tr.iload (pc := 92) (i := 10) d_X0_cost_92 rfl ?_
          refine Tr.iload (pc := 94) (i := 6) d_X0_cost_94 rfl ?_
          refine Tr.icmp_le (pc := 96) (tgt := 113) d_X0_cost_96 rfl (fun c96 => ?_) (fun c96 => ?_)
          · refine Tr.pick [3, 4, 5, 6, 7, 8, 9, 10] (ls2 := [(0, (2, 113)), (1, (0, a1)), (2, (0, a2)), (3, (0, a3)), (4, (0, p16_4)), (5, (0, p16_5)), (6, (0, p16_6)), (7, (0, p16_7))]) rfl ?_
            exact J113 _ _ _ _ hS (by omega) (by omega) (by omega) er19 er40 er59 er47 er31
          · refine Tr.iload (pc := 99) (i := 4) d_X0_cost_99 rfl ?_
            refine Tr.iload (pc := 101) (i := 10) d_X0_cost_101 rfl ?_
            refine Tr.iload (pc := 103) (i := 6) d_X0_cost_103 rfl ?_
            refine Tr.isub (pc := 105) d_X0_cost_105 ?_
            refine Tr.tp (a3 - p16_6 + r40 + r47 + r59) ((w32_id (by omega)).trans (by omega)) ?_
            refine Tr.iadd (pc := 106) d_X0_cost_106 ?_
            refine Tr.gen (P := fun v => (-2147483648) ≤ v ∧ v ≤ 2147483647) (w32_b _) (fun r106 er106 br106 => ?_)
            refine Tr.istore (pc := 107) (i := 4) (ls2 := [(4, (0, r106)), (10, (0, (a3 + r40 + r47 + r59))), (9, (0, (r40 + r47))), (8, (0, r31)), (0, (2, 113)), (1, (0, a1)), (2, (0, a2)), (3, (0, a3)), (5, (0, p16_5)), (6, (0, p16_6)), (7, (0, p16_7))]) d_X0_cost_107 (by decide) rfl ?_
            refine Tr.iload (pc := 109) (i := 10) d_X0_cost_109 rfl ?_
            refine Tr.istore (pc := 111) (i := 6) (ls2 := [(6, (0, (a3 + r40 + r47 + r59))), (4, (0, r106)), (10, (0, (a3 + r40 + r47 + r59))), (9, (0, (r40 + r47))), (8, (0, r31)), (0, (2, 113)), (1, (0, a1)), (2, (0, a2)), (3, (0, a3)), (5, (0, p16_5)), (7, (0, p16_7))]) d_X0_cost_111 (by decide) rfl ?_
            refine Tr.pick [5, 6, 7, 8, 1, 9, 0, 10] (ls2 := [(0, (2, 113)), (1, (0, a1)), (2, (0, a2)), (3, (0, a3)), (4, (0, r106)), (5, (0, p16_5)), (6, (0, (a3 + r40 + r47 + r59))), (7, (0, p16_7))]) rfl ?_
            exact J113 _ _ _ _ hS (by omega) (by omega) (by omega) er19 er40 er59 er47 er31
        · refine Tr.iincG (pc := 72) d_X0_cost_72 rfl (by decide) (fun r72 br72 => ?_)
          refine Tr.lc [(5, (0, r72)), (10, (0, (a3 + r40 + r47 + r59))), (9, (0, (r40 + r47))), (8, (0, r31)), (0, (2, 113)), (1, (0, a1)), (2, (0, a2)), (3, (0, a3)), (4, (0, p16_4)), (6, (0, p16_6)), (7, (0, p16_7))] rfl ?_
          refine Tr.iload (pc := 75) (i := 4) d_X0_cost_75 rfl ?_
          refine Tr.iload (pc := 77) (i := 10) d_X0_cost_77 rfl ?_
          refine Tr.iload (pc := 79) (i := 9) d_X0_cost_79 rfl ?_
          refine Tr.isub (pc := 81) d_X0_cost_81 ?_
          refine Tr.tp (a3 + r59) ((w32_id (by omega)).trans (by omega)) ?_
          refine Tr.iadd (pc := 82) d_X0_cost_82 ?_
          refine Tr.gen (P := fun v => (-2147483648) ≤ v ∧ v ≤ 2147483647) (w32_b _) (fun r82 er82 br82 => ?_)
          refine Tr.istore (pc := 83) (i := 4) (ls2 := [(4, (0, r82)), (5, (0, r72)), (10, (0, (a3 + r40 + r47 + r59))), (9, (0, (r40 + r47))), (8, (0, r31)), (0, (2, 113)), (1, (0, a1)), (2, (0, a2)), (3, (0, a3)), (6, (0, p16_6)), (7, (0, p16_7))]) d_X0_cost_83 (by decide) rfl ?_
          refine Tr.iload (pc := 85) (i := 10) d_X0_cost_85 rfl ?_
          refine Tr.istore (pc := 87) (i := 6) (ls2 := [(6, (0, (a3 + r40 + r47 + r59))), (4, (0, r82)), (5, (0, r72)), (10, (0, (a3 + r40 + r47 + r59))), (9, (0, (r40 + r47))), (8, (0, r31)), (0, (2, 113)), (1, (0, a1)), (2, (0, a2)), (3, (0, a3)), (7, (0, p16_7))]) d_X0_cost_87 (by decide) rfl ?_
          refine Tr.goto (pc := 89) (tgt := 113) d_X0_cost_89 rfl ?_
          refine Tr.pick [6, 7, 8, 9, 1, 2, 0, 10] (ls2 := [(0, (2, 113)), (1, (0, a1)), (2, (0, a2)), (3, (0, a3)), (4, (0, r82)), (5, (0, r72)), (6, (0, (a3 + r40 + r47 + r59))), (7, (0, p16_7))]) rfl ?_
          exact J113 _ _ _ _ hS (by omega) (by omega) (by omega) er19 er40 er59 er47 er31
  refine Tr.pick [4, 5, 6, 7, 3, 2, 1, 0] (ls2 := [(0, (2, 113)), (1, (0, a1)), (2, (0, a2)), (3, (0, a3)), (4, (0, 0)), (5, (0, 0)), (6, (0, (-1))), (7, (0, 0))]) rfl ?_
  exact J16 _ _ _ _ _ _ hS (by omega) (by omega) (by omega) (by omega) (Nat.lt_succ_self _)
