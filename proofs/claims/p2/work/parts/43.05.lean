def ws_X6_sipsAt_74_w5 : List (Int × Int) := []
def as_X6_sipsAt_74_w5 : List Int := []
def q_X6_sipsAt_74_w5 (M0 M' : Mem) (r : Option PV) : Prop := St Tru ws_X6_sipsAt_74_w5 as_X6_sipsAt_74_w5 M0 M' ∧ ∃ v : Int, r = some (0, v) ∧ (-2147483648) ≤ v ∧ v ≤ 2147483647
set_option maxRecDepth 100000 in
set_option maxHeartbeats 4000000 in
theorem sp_X6_sipsAt_74_w5 {l : Launch} {K : EC} {M0 : Mem} (hI : In Tru M0) (en_74_1 : rd M0 74 1 = 27) (a1 : Int) (ha1 : (-2147483648) ≤ a1 ∧ a1 ≤ 2147483647) (a2 : Int) (ha2 : 0 ≤ a2 ∧ a2 ≤ 5) (a3 : Int) (ha3 : 3 ≤ a3 ∧ a3 ≤ 3)  : Tr l K 0 mX6_sipsAt 0 [(0, (2, 74)), (1, (0, a1)), (2, (0, a2)), (3, (0, a3))] [] M0 (q_X6_sipsAt_74_w5 M0) := by
  have hS : St Tru ws_X6_sipsAt_74_w5 as_X6_sipsAt_74_w5 M0 M0 := St.rf hI
  refine Tr.aload_n (pc := 0) (i := 0) d_X6_sipsAt_0 rfl rfl ?_
  refine Tr.getf (pc := 1) d_X6_sipsAt_1 f_6_46 (by decide) (by decide) (ty_74 hS.1.1) ?_
  refine Tr.tp 27 ((St.kp hS (by decide) (by decide) (by decide)).trans en_74_1) ?_
  refine Tr.getf (pc := 4) d_X6_sipsAt_4 f_6_135 (by decide) (by decide) (ty_27 hS.1.1) ?_
  refine Tr.gen (P := fun v => (-1) ≤ v ∧ v ≤ 999) (ir_27_0 hS.1.2.1) (fun r4 er4 br4 => ?_)
  refine Tr.istore (pc := 7) (i := 4) (ls2 := [(4, (0, r4)), (0, (2, 74)), (1, (0, a1)), (2, (0, a2)), (3, (0, a3))]) d_X6_sipsAt_7 (by decide) rfl ?_
  refine Tr.iconst (pc := 9) d_X6_sipsAt_9 (by decide) ?_
  refine Tr.istore (pc := 10) (i := 5) (ls2 := [(5, (0, 0)), (4, (0, r4)), (0, (2, 74)), (1, (0, a1)), (2, (0, a2)), (3, (0, a3))]) d_X6_sipsAt_10 (by decide) rfl ?_
  have J12 : ∀ (n12 : Nat) (M : Mem) (p12_4 p12_5 : Int), St Tru ws_X6_sipsAt_74_w5 as_X6_sipsAt_74_w5 M0 M → ((-2147483648) ≤ p12_4 ∧ p12_4 ≤ 2147483647) → (0 ≤ p12_5 ∧ p12_5 ≤ 6) → rd M 27 0 = r4 → (6 - p12_5).toNat < n12 → Tr l K 0 mX6_sipsAt 12 [(0, (2, 74)), (1, (0, a1)), (2, (0, a2)), (3, (0, a3)), (4, (0, p12_4)), (5, (0, p12_5))] [] M (q_X6_sipsAt_74_w5 M0) := by
    intro n12
    induction n12 with
    | zero => intro M p12_4 p12_5 hS bp12_4 bp12_5 k12_27_0 hm12; exact absurd hm12 (Nat.not_lt_zero _)
    | succ n12 J12 =>
      intro M p12_4 p12_5 hS bp12_4 bp12_5 k12_27_0 hm12
      refine Tr.iload (pc := 12) (i := 5) d_X6_sipsAt_12 rfl ?_
      refine Tr.aload_n (pc := 14) (i := 0) d_X6_sipsAt_14 rfl rfl ?_
      refine Tr.getf (pc := 15) d_X6_sipsAt_15 f_6_46 (by decide) (by decide) (ty_74 hS.1.1) ?_
      refine Tr.tp 27 ((St.kp hS (by decide) (by decide) (by decide)).trans en_74_1) ?_
      refine Tr.getf (pc := 18) d_X6_sipsAt_18 f_6_116 (by decide) (by decide) (ty_27 hS.1.1) ?_
      refine Tr.tp 28 (fx_27_4 hS.1.1) ?_
      refine Tr.iconst (pc := 21) d_X6_sipsAt_21 (by decide) ?_
      refine Tr.iald (pc := 22) d_X6_sipsAt_22 (ty_28 hS.1.1) (by omega) (by omega) ?_
      refine Tr.gen (P := fun v => 0 ≤ v ∧ v ≤ 6) (ir_28_0 hS.1.2.1) (fun r22 er22 br22 => ?_)
      refine Tr.icmp_ge (pc := 23) (tgt := 91) d_X6_sipsAt_23 rfl (fun c23 => ?_) (fun c23 => ?_)
      · refine Tr.iload (pc := 91) (i := 4) d_X6_sipsAt_91 rfl ?_
        exact Tr.iret (pc := 93) d_X6_sipsAt_93 rfl ⟨hS, _, rfl, by omega, by omega⟩
      · refine Tr.aload_n (pc := 26) (i := 0) d_X6_sipsAt_26 rfl rfl ?_
        refine Tr.getf (pc := 27) d_X6_sipsAt_27 f_6_24 (by decide) (by decide) (ty_74 hS.1.1) ?_
        refine Tr.tp 79 (fx_74_6 hS.1.1) ?_
        refine Tr.iload (pc := 30) (i := 5) d_X6_sipsAt_30 rfl ?_
        refine Tr.iald (pc := 32) d_X6_sipsAt_32 (ty_79 hS.1.1) (by omega) (by omega) ?_
        refine Tr.gen (P := fun v => 0 ≤ v ∧ v ≤ 1) (ar_79 hS.1.2.1 _) (fun r32 er32 br32 => ?_)
        refine Tr.iconst (pc := 33) d_X6_sipsAt_33 (by decide) ?_
        have J53 : ∀ (M : Mem) (q53_0 : Int), St Tru ws_X6_sipsAt_74_w5 as_X6_sipsAt_74_w5 M0 M → (0 ≤ q53_0 ∧ q53_0 ≤ 2) → rd M 27 0 = r4 → rd M 28 0 = r22 → rd M 79 p12_5 = r32 → Tr l K 0 mX6_sipsAt 53 [(0, (2, 74)), (1, (0, a1)), (2, (0, a2)), (3, (0, a3)), (4, (0, p12_4)), (5, (0, p12_5))] [(0, q53_0)] M (q_X6_sipsAt_74_w5 M0) := by
          intro M q53_0 hS bq53_0 k53_27_0 k53_28_0 k53_79_p12_510
          refine Tr.istore (pc := 53) (i := 6) (ls2 := [(6, (0, q53_0)), (0, (2, 74)), (1, (0, a1)), (2, (0, a2)), (3, (0, a3)), (4, (0, p12_4)), (5, (0, p12_5))]) d_X6_sipsAt_53 (by decide) rfl ?_
          refine Tr.iload (pc := 55) (i := 4) d_X6_sipsAt_55 rfl ?_
          refine Tr.aload_n (pc := 57) (i := 0) d_X6_sipsAt_57 rfl rfl ?_
          refine Tr.getf (pc := 58) d_X6_sipsAt_58 f_6_46 (by decide) (by decide) (ty_74 hS.1.1) ?_
          refine Tr.tp 27 ((St.kp hS (by decide) (by decide) (by decide)).trans en_74_1) ?_
          refine Tr.getf (pc := 61) d_X6_sipsAt_61 f_6_189 (by decide) (by decide) (ty_27 hS.1.1) ?_
          refine Tr.tp 29 (fx_27_5 hS.1.1) ?_
          refine Tr.iload (pc := 64) (i := 5) d_X6_sipsAt_64 rfl ?_
          refine Tr.iconst (pc := 66) d_X6_sipsAt_66 (by decide) ?_
          refine Tr.imul (pc := 67) d_X6_sipsAt_67 ?_
          refine Tr.tp (4 * p12_5) ((w32_id (by omega)).trans (by omega)) ?_
          refine Tr.iload (pc := 68) (i := 5) d_X6_sipsAt_68 rfl ?_
          refine Tr.iload_n (pc := 70) (i := 2) d_X6_sipsAt_70 rfl rfl ?_
          have J80 : ∀ (M : Mem) (q80_3 : Int), St Tru ws_X6_sipsAt_74_w5 as_X6_sipsAt_74_w5 M0 M → (0 ≤ q80_3 ∧ q80_3 ≤ 3) → rd M 27 0 = r4 → rd M 28 0 = r22 → rd M 79 p12_5 = r32 → Tr l K 0 mX6_sipsAt 80 [(0, (2, 74)), (1, (0, a1)), (2, (0, a2)), (3, (0, a3)), (5, (0, p12_5))] [(0, q80_3), (0, (4 * p12_5)), (2, 29), (0, p12_4)] M (q_X6_sipsAt_74_w5 M0) := by
            intro M q80_3 hS bq80_3 k80_27_0 k80_28_0 k80_79_p12_510
            refine Tr.iadd (pc := 80) d_X6_sipsAt_80 ?_
            refine Tr.tp (4 * p12_5 + q80_3) ((w32_id (by omega)).trans (by omega)) ?_
            refine Tr.iald (pc := 81) d_X6_sipsAt_81 (ty_29 hS.1.1) (by omega) (by omega) ?_
            refine Tr.gen (P := fun v => (-1) ≤ v ∧ v ≤ 999) (ar_29 hS.1.2.1 _) (fun r81 er81 br81 => ?_)
            refine Tr.iadd (pc := 82) d_X6_sipsAt_82 ?_
            refine Tr.gen (P := fun v => (-2147483648) ≤ v ∧ v ≤ 2147483647) (w32_b _) (fun r82 er82 br82 => ?_)
            refine Tr.istore (pc := 83) (i := 4) (ls2 := [(4, (0, r82)), (0, (2, 74)), (1, (0, a1)), (2, (0, a2)), (3, (0, a3)), (5, (0, p12_5))]) d_X6_sipsAt_83 (by decide) rfl ?_
            refine Tr.iincV (pc := 85) (n2 := (p12_5 + 1)) (ls2 := [(5, (0, (p12_5 + 1))), (4, (0, r82)), (0, (2, 74)), (1, (0, a1)), (2, (0, a2)), (3, (0, a3))]) d_X6_sipsAt_85 rfl (by decide) ((w32_id (by omega)).trans (by omega)) rfl ?_
            refine Tr.goto (pc := 88) (tgt := 12) d_X6_sipsAt_88 rfl ?_
            refine Tr.pick [2, 3, 4, 5, 1, 0] (ls2 := [(0, (2, 74)), (1, (0, a1)), (2, (0, a2)), (3, (0, a3)), (4, (0, r82)), (5, (0, (p12_5 + 1)))]) rfl ?_
            exact J12 _ _ _ hS (by omega) (by omega) k80_27_0 (by omega)
          refine Tr.icmp_ne (pc := 71) (tgt := 78) d_X6_sipsAt_71 rfl (fun c71 => ?_) (fun c71 => ?_)
          · refine Tr.iload (pc := 78) (i := 6) d_X6_sipsAt_78 rfl ?_
            refine Tr.pick [1, 2, 3, 4, 6] (ls2 := [(0, (2, 74)), (1, (0, a1)), (2, (0, a2)), (3, (0, a3)), (5, (0, p12_5))]) rfl ?_
            exact J80 _ _ hS (by omega) k53_27_0 k53_28_0 k53_79_p12_510
          · refine Tr.iload_n (pc := 74) (i := 3) d_X6_sipsAt_74 rfl rfl ?_
            refine Tr.tp 3 (by omega) ?_
            refine Tr.goto (pc := 75) (tgt := 80) d_X6_sipsAt_75 rfl ?_
            refine Tr.pick [1, 2, 3, 4, 6] (ls2 := [(0, (2, 74)), (1, (0, a1)), (2, (0, a2)), (3, (0, a3)), (5, (0, p12_5))]) rfl ?_
            exact J80 _ _ hS (by omega) k53_27_0 k53_28_0 k53_79_p12_510
        have J48 : ∀ (M : Mem), St Tru ws_X6_sipsAt_74_w5 as_X6_sipsAt_74_w5 M0 M → rd M 27 0 = r4 → rd M 28 0 = r22 → rd M 79 p12_5 = r32 → Tr l K 0 mX6_sipsAt 48 [(0, (2, 74)), (1, (0, a1)), (2, (0, a2)), (3, (0, a3)), (4, (0, p12_4)), (5, (0, p12_5))] [] M (q_X6_sipsAt_74_w5 M0) := by
          intro M  hS  k48_27_0 k48_28_0 k48_79_p12_510
          refine Tr.iconst (pc := 48) d_X6_sipsAt_48 (by decide) ?_
          refine Tr.goto (pc := 49) (tgt := 53) d_X6_sipsAt_49 rfl ?_
          refine Tr.pick [0, 1, 2, 3, 4, 5] (ls2 := [(0, (2, 74)), (1, (0, a1)), (2, (0, a2)), (3, (0, a3)), (4, (0, p12_4)), (5, (0, p12_5))]) rfl ?_
          exact J53 _ _ hS (by omega) k48_27_0 k48_28_0 k48_79_p12_510
        refine Tr.icmp_eq (pc := 34) (tgt := 48) d_X6_sipsAt_34 rfl (fun c34 => ?_) (fun c34 => ?_)
        · refine Tr.pick [0, 1, 2, 3, 4, 5] (ls2 := [(0, (2, 74)), (1, (0, a1)), (2, (0, a2)), (3, (0, a3)), (4, (0, p12_4)), (5, (0, p12_5))]) rfl ?_
          exact J48 _ hS k12_27_0 er22 er32
        · refine Tr.iload_n (pc := 37) (i := 1) d_X6_sipsAt_37 rfl rfl ?_
          refine Tr.aload_n (pc := 38) (i := 0) d_X6_sipsAt_38 rfl rfl ?_
          refine Tr.getf (pc := 39) d_X6_sipsAt_39 f_6_27 (by decide) (by decide) (ty_74 hS.1.1) ?_
          refine Tr.tp 80 (fx_74_7 hS.1.1) ?_
          refine Tr.iload (pc := 42) (i := 5) d_X6_sipsAt_42 rfl ?_
          refine Tr.iald (pc := 44) d_X6_sipsAt_44 (ty_80 hS.1.1) (by omega) (by omega) ?_
          refine Tr.gen (P := fun v => (-2147483648) ≤ v ∧ v ≤ 2147483647) (ar_80 hS.1.2.1 _) (fun r44 er44 br44 => ?_)
          refine Tr.icmp_ge (pc := 45) (tgt := 52) d_X6_sipsAt_45 rfl (fun c45 => ?_) (fun c45 => ?_)
          · refine Tr.iconst (pc := 52) d_X6_sipsAt_52 (by decide) ?_
            refine Tr.pick [0, 1, 2, 3, 4, 5] (ls2 := [(0, (2, 74)), (1, (0, a1)), (2, (0, a2)), (3, (0, a3)), (4, (0, p12_4)), (5, (0, p12_5))]) rfl ?_
            exact J53 _ _ hS (by omega) k12_27_0 er22 er32
          · refine Tr.pick [0, 1, 2, 3, 4, 5] (ls2 := [(0, (2, 74)), (1, (0, a1)), (2, (0, a2)), (3, (0, a3)), (4, (0, p12_4)), (5, (0, p12_5))]) rfl ?_
            exact J48 _ hS k12_27_0 er22 er32
  refine Tr.pick [2, 3, 4, 5, 1, 0] (ls2 := [(0, (2, 74)), (1, (0, a1)), (2, (0, a2)), (3, (0, a3)), (4, (0, r4)), (5, (0, 0))]) rfl ?_
  exact J12 _ _ _ _ hS (by omega) (by omega) er4 (Nat.lt_succ_self _)

def ws_X6_afforded_74_w9 : List (Int × Int) := [(74, 17)]
def as_X6_afforded_74_w9 : List Int := []
def q_X6_afforded_74_w9 (M0 M' : Mem) (r : Option PV) : Prop := St Tru ws_X6_afforded_74_w9 as_X6_afforded_74_w9 M0 M' ∧ ∃ v : Int, r = some (0, v) ∧ (-2147483648) ≤ v ∧ v ≤ 50
set_option maxRecDepth 100000 in
set_option maxHeartbeats 4000000 in
theorem sp_X6_afforded_74_w9 {l : Launch} {K : EC} {M0 : Mem} (hI : In Tru M0) (en_74_1 : rd M0 74 1 = 27) (a1 : Int) (ha1 : (-2147483648) ≤ a1 ∧ a1 ≤ 50) (a2 : Int) (ha2 : 0 ≤ a2 ∧ a2 ≤ 5) (a3 : Int) (ha3 : 3 ≤ a3 ∧ a3 ≤ 3)  : Tr l K 1 mX6_afforded 0 [(0, (2, 74)), (1, (0, a1)), (2, (0, a2)), (3, (0, a3))] [] M0 (q_X6_afforded_74_w9 M0) := by
  have hS : St Tru ws_X6_afforded_74_w9 as_X6_afforded_74_w9 M0 M0 := St.rf hI
  refine Tr.iconst (pc := 0) d_X6_afforded_0 (by decide) ?_
  refine Tr.istore (pc := 1) (i := 4) (ls2 := [(4, (0, 0)), (0, (2, 74)), (1, (0, a1)), (2, (0, a2)), (3, (0, a3))]) d_X6_afforded_1 (by decide) rfl ?_
  have J3 : ∀ (n3 : Nat) (M : Mem) (p3_4 : Int), St Tru ws_X6_afforded_74_w9 as_X6_afforded_74_w9 M0 M → (0 ≤ p3_4 ∧ p3_4 ≤ 50) → (50 - p3_4).toNat < n3 → Tr l K 1 mX6_afforded 3 [(0, (2, 74)), (1, (0, a1)), (2, (0, a2)), (3, (0, a3)), (4, (0, p3_4))] [] M (q_X6_afforded_74_w9 M0) := by
    intro n3
    induction n3 with
    | zero => intro M p3_4 hS bp3_4  hm3; exact absurd hm3 (Nat.not_lt_zero _)
    | succ n3 J3 =>
      intro M p3_4 hS bp3_4  hm3
      refine Tr.iload (pc := 3) (i := 4) d_X6_afforded_3 rfl ?_
      refine Tr.iload_n (pc := 5) (i := 1) d_X6_afforded_5 rfl rfl ?_
      refine Tr.icmp_ge (pc := 6) (tgt := 53) d_X6_afforded_6 rfl (fun c6 => ?_) (fun c6 => ?_)
      · refine Tr.iload_n (pc := 53) (i := 1) d_X6_afforded_53 rfl rfl ?_
        exact Tr.iret (pc := 54) d_X6_afforded_54 rfl ⟨hS, _, rfl, by omega, by omega⟩
      · refine Tr.aload_n (pc := 9) (i := 0) d_X6_afforded_9 rfl rfl ?_
        refine Tr.aload_n (pc := 10) (i := 0) d_X6_afforded_10 rfl rfl ?_
        refine Tr.getf (pc := 11) d_X6_afforded_11 f_6_68 (by decide) (by decide) (ty_74 hS.1.1) ?_
        refine Tr.gen (P := fun v => (-2147483648) ≤ v ∧ v ≤ 2147483647) (ir_74_9 hS.1.2.1) (fun r11 er11 br11 => ?_)
        refine Tr.iload (pc := 14) (i := 4) d_X6_afforded_14 rfl ?_
        refine Tr.iadd (pc := 16) d_X6_afforded_16 ?_
        refine Tr.gen (P := fun v => (-2147483648) ≤ v ∧ v ≤ 2147483647) (w32_b _) (fun r16 er16 br16 => ?_)
        refine Tr.iload_n (pc := 17) (i := 2) d_X6_afforded_17 rfl rfl ?_
        refine Tr.iload_n (pc := 18) (i := 3) d_X6_afforded_18 rfl rfl ?_
        refine Tr.tp 3 (by omega) ?_
        refine Tr.callV (pc := 19) (as := [_, _, _]) d_X6_afforded_19 s_6_186 ok_X6_sipsAt rfl rfl (Nat.le_of_ble_eq_true rfl) (Nat.le_of_ble_eq_true rfl) (by decide) (ty_74 hS.1.1) ?_
        refine Tr.imp (Tr.deep (by decide) (sp_X6_sipsAt_74_w5 hS.1 ((St.kp hS (by decide) (by decide) (by decide)).trans en_74_1) r16 (by omega) a2 (by omega) 3 (by omega))) ?_
        rintro M19 _ ⟨h19, r19, rfl, lr19, ur19⟩
        have hS := St.tr hS h19 (by decide) (by decide)
        refine Tr.sc [(0, r19)] rfl ?_
        refine Tr.istore (pc := 22) (i := 5) (ls2 := [(5, (0, r19)), (0, (2, 74)), (1, (0, a1)), (2, (0, a2)), (3, (0, a3)), (4, (0, p3_4))]) d_X6_afforded_22 (by decide) rfl ?_
        refine Tr.iload (pc := 24) (i := 5) d_X6_afforded_24 rfl ?_
        refine Tr.aload_n (pc := 26) (i := 0) d_X6_afforded_26 rfl rfl ?_
        refine Tr.getf (pc := 27) d_X6_afforded_27 f_6_110 (by decide) (by decide) (ty_74 hS.1.1) ?_
        refine Tr.gen (P := fun v => (-2147483648) ≤ v ∧ v ≤ 2147483647) (ir_74_17 hS.1.2.1) (fun r27 er27 br27 => ?_)
        refine Tr.icmp_le (pc := 30) (tgt := 36) d_X6_afforded_30 rfl (fun c30 => ?_) (fun c30 => ?_)
        · refine Tr.aload_n (pc := 36) (i := 0) d_X6_afforded_36 rfl rfl ?_
          refine Tr.dup (pc := 37) d_X6_afforded_37 ne21 ?_
          refine Tr.getf (pc := 38) d_X6_afforded_38 f_6_110 (by decide) (by decide) (ty_74 hS.1.1) ?_
          refine Tr.tp r27 er27 ?_
          refine Tr.iload (pc := 41) (i := 5) d_X6_afforded_41 rfl ?_
          refine Tr.isub (pc := 43) d_X6_afforded_43 ?_
          refine Tr.gen (P := fun v => (-2147483648) ≤ v ∧ v ≤ 2147483647) (w32_b _) (fun r43 er43 br43 => ?_)
          refine Tr.putfS (pc := 44) (P := St Tru ws_X6_afforded_74_w9 as_X6_afforded_74_w9 M0) d_X6_afforded_44 f_6_110 (by decide) (by decide) (ty_74 hS.1.1) (st_74_17 hS (by decide) (by omega) trivial) (fun M44 hS w44 => ?_)
          refine Tr.iincV (pc := 47) (n2 := (p3_4 + 1)) (ls2 := [(4, (0, (p3_4 + 1))), (5, (0, r19)), (0, (2, 74)), (1, (0, a1)), (2, (0, a2)), (3, (0, a3))]) d_X6_afforded_47 rfl (by decide) ((w32_id (by omega)).trans (by omega)) rfl ?_
          refine Tr.goto (pc := 50) (tgt := 3) d_X6_afforded_50 rfl ?_
          refine Tr.pick [2, 3, 4, 5, 0] (ls2 := [(0, (2, 74)), (1, (0, a1)), (2, (0, a2)), (3, (0, a3)), (4, (0, (p3_4 + 1)))]) rfl ?_
          exact J3 _ _ hS (by omega) (by omega)
        · refine Tr.iload (pc := 33) (i := 4) d_X6_afforded_33 rfl ?_
          exact Tr.iret (pc := 35) d_X6_afforded_35 rfl ⟨hS, _, rfl, by omega, by omega⟩
  refine Tr.pick [1, 2, 3, 4, 0] (ls2 := [(0, (2, 74)), (1, (0, a1)), (2, (0, a2)), (3, (0, a3)), (4, (0, 0))]) rfl ?_
  exact J3 _ _ _ hS (by omega) (Nat.lt_succ_self _)

def ws_X6_pass_74_w9 : List (Int × Int) := [(74, 9), (74, 14), (74, 17)]
def as_X6_pass_74_w9 : List Int := []
def q_X6_pass_74_w9 (M0 M' : Mem) (r : Option PV) : Prop := St Tru ws_X6_pass_74_w9 as_X6_pass_74_w9 M0 M' ∧ ∃ v : Int, r = some (0, v) ∧ (-2147483648) ≤ v ∧ v ≤ 50
set_option maxRecDepth 100000 in
set_option maxHeartbeats 4000000 in
theorem sp_X6_pass_74_w9 {l : Launch} {K : EC} {M0 : Mem} (hI : In Tru M0) (en_74_1 : rd M0 74 1 = 27) (a1 : Int) (ha1 : 0 ≤ a1 ∧ a1 ≤ 50) (a2 : Int) (ha2 : 0 ≤ a2 ∧ a2 ≤ 5) (a3 : Int) (ha3 : 3 ≤ a3 ∧ a3 ≤ 3)  : Tr l K 2 mX6_pass 0 [(0, (2, 74)), (1, (0, a1)), (2, (0, a2)), (3, (0, a3))] [] M0 (q_X6_pass_74_w9 M0) := by
  have hS : St Tru ws_X6_pass_74_w9 as_X6_pass_74_w9 M0 M0 := St.rf hI
  refine Tr.iload_n (pc := 0) (i := 1) d_X6_pass_0 rfl rfl ?_
  refine Tr.sipush (pc := 1) d_X6_pass_1 rfl (by decide) ?_
  refine Tr.aload_n (pc := 4) (i := 0) d_X6_pass_4 rfl rfl ?_
  refine Tr.getf (pc := 5) d_X6_pass_5 f_6_68 (by decide) (by decide) (ty_74 hS.1.1) ?_
  refine Tr.gen (P := fun v => (-2147483648) ≤ v ∧ v ≤ 2147483647) (ir_74_9 hS.1.2.1) (fun r5 er5 br5 => ?_)
  refine Tr.isub (pc := 8) d_X6_pass_8 ?_
  refine Tr.gen (P := fun v => (-2147483648) ≤ v ∧ v ≤ 2147483647) (w32_b _) (fun r8 er8 br8 => ?_)
  refine Tr.mmin (pc := 9) d_X6_pass_9 ml_6_158 mw_mmin (Nat.le_of_ble_eq_true rfl) ?_
  refine Tr.gen (P := fun v => (v = a1 ∧ a1 ≤ r8) ∨ (v = r8 ∧ r8 ≤ a1)) (f_min_p _ _) (fun r9 er9 br9 => ?_)
  refine Tr.istore (pc := 12) (i := 4) (ls2 := [(4, (0, r9)), (0, (2, 74)), (1, (0, a1)), (2, (0, a2)), (3, (0, a3))]) d_X6_pass_12 (by decide) rfl ?_
  refine Tr.aload_n (pc := 14) (i := 0) d_X6_pass_14 rfl rfl ?_
  refine Tr.getz (pc := 15) d_X6_pass_15 f_6_106 (by decide) (ty_74 hS.1.1) ?_
  refine Tr.gen (P := fun v => 0 ≤ v ∧ v ≤ 1) (ir_74_16 hS.1.2.1) (fun r15 er15 br15 => ?_)
  have J34 : ∀ (M : Mem) (q34_0 : Int), St Tru ws_X6_pass_74_w9 as_X6_pass_74_w9 M0 M → ((-2147483648) ≤ q34_0 ∧ q34_0 ≤ 50) → rd M 74 16 = r15 → rd M 74 9 = r5 → Tr l K 2 mX6_pass 34 [(0, (2, 74)), (1, (0, a1)), (4, (0, r9))] [(0, q34_0)] M (q_X6_pass_74_w9 M0) := by
    intro M q34_0 hS bq34_0 k34_74_16 k34_74_9
    refine Tr.istore (pc := 34) (i := 5) (ls2 := [(5, (0, q34_0)), (0, (2, 74)), (1, (0, a1)), (4, (0, r9))]) d_X6_pass_34 (by decide) rfl ?_
    refine Tr.aload_n (pc := 36) (i := 0) d_X6_pass_36 rfl rfl ?_
    refine Tr.dup (pc := 37) d_X6_pass_37 ne21 ?_
    refine Tr.getf (pc := 38) d_X6_pass_38 f_6_68 (by decide) (by decide) (ty_74 hS.1.1) ?_
    refine Tr.tp r5 k34_74_9 ?_
    refine Tr.iload (pc := 41) (i := 5) d_X6_pass_41 rfl ?_
    refine Tr.iadd (pc := 43) d_X6_pass_43 ?_
    refine Tr.gen (P := fun v => (-2147483648) ≤ v ∧ v ≤ 2147483647) (w32_b _) (fun r43 er43 br43 => ?_)
    refine Tr.putfS (pc := 44) (P := St Tru ws_X6_pass_74_w9 as_X6_pass_74_w9 M0) d_X6_pass_44 f_6_68 (by decide) (by decide) (ty_74 hS.1.1) (st_74_9 hS (by decide) (by omega) trivial) (fun M44 hS w44 => ?_)
    refine Tr.iload (pc := 47) (i := 5) d_X6_pass_47 rfl ?_
    refine Tr.iload_n (pc := 49) (i := 1) d_X6_pass_49 rfl rfl ?_
    refine Tr.icmp_ge (pc := 50) (tgt := 69) d_X6_pass_50 rfl (fun c50 => ?_) (fun c50 => ?_)
    · refine Tr.iload (pc := 69) (i := 5) d_X6_pass_69 rfl ?_
      exact Tr.iret (pc := 71) d_X6_pass_71 rfl ⟨hS, _, rfl, by omega, by omega⟩
    · refine Tr.aload_n (pc := 53) (i := 0) d_X6_pass_53 rfl rfl ?_
      refine Tr.iload (pc := 54) (i := 5) d_X6_pass_54 rfl ?_
      refine Tr.iload (pc := 56) (i := 4) d_X6_pass_56 rfl ?_
      refine Tr.icmp_ne (pc := 58) (tgt := 65) d_X6_pass_58 rfl (fun c58 => ?_) (fun c58 => ?_)
      · refine Tr.iconst (pc := 65) d_X6_pass_65 (by decide) ?_
        refine Tr.putfS (pc := 66) (P := St Tru ws_X6_pass_74_w9 as_X6_pass_74_w9 M0) d_X6_pass_66 f_6_62 (by decide) (by decide) (ty_74 hS.1.1) (st_74_14 hS (by decide) (by omega) trivial) (fun M66 hS w66 => ?_)
        refine Tr.iload (pc := 69) (i := 5) d_X6_pass_69 rfl ?_
        exact Tr.iret (pc := 71) d_X6_pass_71 rfl ⟨hS, _, rfl, by omega, by omega⟩
      · refine Tr.iconst (pc := 61) d_X6_pass_61 (by decide) ?_
        refine Tr.goto (pc := 62) (tgt := 66) d_X6_pass_62 rfl ?_
        refine Tr.putfS (pc := 66) (P := St Tru ws_X6_pass_74_w9 as_X6_pass_74_w9 M0) d_X6_pass_66 f_6_62 (by decide) (by decide) (ty_74 hS.1.1) (st_74_14 hS (by decide) (by omega) trivial) (fun M66 hS w66 => ?_)
        refine Tr.iload (pc := 69) (i := 5) d_X6_pass_69 rfl ?_
        exact Tr.iret (pc := 71) d_X6_pass_71 rfl ⟨hS, _, rfl, by omega, by omega⟩
  refine Tr.if_eq (pc := 18) (tgt := 32) d_X6_pass_18 rfl (fun c18 => ?_) (fun c18 => ?_)
  · refine Tr.iload (pc := 32) (i := 4) d_X6_pass_32 rfl ?_
    refine Tr.pick [1, 2, 0] (ls2 := [(0, (2, 74)), (1, (0, a1)), (4, (0, r9))]) rfl ?_
    exact J34 _ _ hS (by omega) er15 er5
  · refine Tr.aload_n (pc := 21) (i := 0) d_X6_pass_21 rfl rfl ?_
    refine Tr.iload (pc := 22) (i := 4) d_X6_pass_22 rfl ?_
    refine Tr.iload_n (pc := 24) (i := 2) d_X6_pass_24 rfl rfl ?_
    refine Tr.iload_n (pc := 25) (i := 3) d_X6_pass_25 rfl rfl ?_
    refine Tr.tp 3 (by omega) ?_
    refine Tr.callV (pc := 26) (as := [_, _, _]) d_X6_pass_26 s_6_183 ok_X6_afforded rfl rfl (Nat.le_of_ble_eq_true rfl) (Nat.le_of_ble_eq_true rfl) (by decide) (ty_74 hS.1.1) ?_
    refine Tr.imp (Tr.deep (by decide) (sp_X6_afforded_74_w9 hS.1 ((St.kp hS (by decide) (by decide) (by decide)).trans en_74_1) r9 (by omega) a2 (by omega) 3 (by omega))) ?_
    rintro M26 _ ⟨h26, r26, rfl, lr26, ur26⟩
    have hS := St.tr hS h26 (by decide) (by decide)
    refine Tr.sc [(0, r26)] rfl ?_
    refine Tr.goto (pc := 29) (tgt := 34) d_X6_pass_29 rfl ?_
    refine Tr.pick [1, 2, 0] (ls2 := [(0, (2, 74)), (1, (0, a1)), (4, (0, r9))]) rfl ?_
    exact J34 _ _ hS (by omega) ((St.kp h26 (by decide) (by decide) (by decide)).trans er15) ((St.kp h26 (by decide) (by decide) (by decide)).trans er5)

def ws_X1_sippedByParts_82_w1 : List (Int × Int) := []
def as_X1_sippedByParts_82_w1 : List Int := []
def q_X1_sippedByParts_82_w1 (M0 M' : Mem) (r : Option PV) : Prop := St Tru ws_X1_sippedByParts_82_w1 as_X1_sippedByParts_82_w1 M0 M' ∧ ∃ v : Int, r = some (0, v) ∧ (-2147483648) ≤ v ∧ v ≤ 2147483647
set_option maxRecDepth 100000 in
set_option maxHeartbeats 4000000 in
theorem sp_X1_sippedByParts_82_w1 {l : Launch} {K : EC} {M0 : Mem} (hI : In Tru M0) (en_82_1 : rd M0 82 1 = 27)   : Tr l K 0 mX1_sippedByParts 0 [(0, (2, 82))] [] M0 (q_X1_sippedByParts_82_w1 M0) := by
  have hS : St Tru ws_X1_sippedByParts_82_w1 as_X1_sippedByParts_82_w1 M0 M0 := St.rf hI
  refine Tr.iconst (pc := 0) d_X1_sippedByParts_0 (by decide) ?_
  refine Tr.istore_n (pc := 1) (i := 1) (ls2 := [(1, (0, 0)), (0, (2, 82))]) d_X1_sippedByParts_1 rfl (by decide) rfl ?_
  refine Tr.iconst (pc := 2) d_X1_sippedByParts_2 (by decide) ?_
  refine Tr.istore_n (pc := 3) (i := 2) (ls2 := [(2, (0, 0)), (1, (0, 0)), (0, (2, 82))]) d_X1_sippedByParts_3 rfl (by decide) rfl ?_
  have J4 : ∀ (n4 : Nat) (M : Mem) (p4_1 p4_2 : Int), St Tru ws_X1_sippedByParts_82_w1 as_X1_sippedByParts_82_w1 M0 M → ((-2147483648) ≤ p4_1 ∧ p4_1 ≤ 2147483647) → (0 ≤ p4_2 ∧ p4_2 ≤ 24) → (24 - p4_2).toNat < n4 → Tr l K 0 mX1_sippedByParts 4 [(0, (2, 82)), (1, (0, p4_1)), (2, (0, p4_2))] [] M (q_X1_sippedByParts_82_w1 M0) := by
    intro n4
    induction n4 with
    | zero => intro M p4_1 p4_2 hS bp4_1 bp4_2  hm4; exact absurd hm4 (Nat.not_lt_zero _)
    | succ n4 J4 =>
      intro M p4_1 p4_2 hS bp4_1 bp4_2  hm4
      refine Tr.iload_n (pc := 4) (i := 2) d_X1_sippedByParts_4 rfl rfl ?_
      refine Tr.aload_n (pc := 5) (i := 0) d_X1_sippedByParts_5 rfl rfl ?_
      refine Tr.getf (pc := 6) d_X1_sippedByParts_6 f_1_41 (by decide) (by decide) (ty_82 hS.1.1) ?_
      refine Tr.tp 27 ((St.kp hS (by decide) (by decide) (by decide)).trans en_82_1) ?_
      refine Tr.getf (pc := 9) d_X1_sippedByParts_9 f_1_91 (by decide) (by decide) (ty_27 hS.1.1) ?_
      refine Tr.tp 28 (fx_27_4 hS.1.1) ?_
      refine Tr.iconst (pc := 12) d_X1_sippedByParts_12 (by decide) ?_
      refine Tr.iald (pc := 13) d_X1_sippedByParts_13 (ty_28 hS.1.1) (by omega) (by omega) ?_
      refine Tr.gen (P := fun v => 0 ≤ v ∧ v ≤ 6) (ir_28_0 hS.1.2.1) (fun r13 er13 br13 => ?_)
      refine Tr.iconst (pc := 14) d_X1_sippedByParts_14 (by decide) ?_
      refine Tr.imul (pc := 15) d_X1_sippedByParts_15 ?_
      refine Tr.tp (4 * r13) ((w32_id (by omega)).trans (by omega)) ?_
      refine Tr.icmp_ge (pc := 16) (tgt := 44) d_X1_sippedByParts_16 rfl (fun c16 => ?_) (fun c16 => ?_)
      · refine Tr.iload_n (pc := 44) (i := 1) d_X1_sippedByParts_44 rfl rfl ?_
        exact Tr.iret (pc := 45) d_X1_sippedByParts_45 rfl ⟨hS, _, rfl, by omega, by omega⟩
      · refine Tr.iload_n (pc := 19) (i := 1) d_X1_sippedByParts_19 rfl rfl ?_
        refine Tr.aload_n (pc := 20) (i := 0) d_X1_sippedByParts_20 rfl rfl ?_
        refine Tr.getf (pc := 21) d_X1_sippedByParts_21 f_1_9 (by decide) (by decide) (ty_82 hS.1.1) ?_
        refine Tr.tp 83 (fx_82_2 hS.1.1) ?_
        refine Tr.iload_n (pc := 24) (i := 2) d_X1_sippedByParts_24 rfl rfl ?_
        refine Tr.iald (pc := 25) d_X1_sippedByParts_25 (ty_83 hS.1.1) (by omega) (by omega) ?_
        refine Tr.gen (P := fun v => (-2147483648) ≤ v ∧ v ≤ 2147483647) (ar_83 hS.1.2.1 _) (fun r25 er25 br25 => ?_)
        refine Tr.aload_n (pc := 26) (i := 0) d_X1_sippedByParts_26 rfl rfl ?_
        refine Tr.getf (pc := 27) d_X1_sippedByParts_27 f_1_41 (by decide) (by decide) (ty_82 hS.1.1) ?_
        refine Tr.tp 27 ((St.kp hS (by decide) (by decide) (by decide)).trans en_82_1) ?_
        refine Tr.getf (pc := 30) d_X1_sippedByParts_30 f_1_71 (by decide) (by decide) (ty_27 hS.1.1) ?_
        refine Tr.tp 29 (fx_27_5 hS.1.1) ?_
        refine Tr.iload_n (pc := 33) (i := 2) d_X1_sippedByParts_33 rfl rfl ?_
        refine Tr.iald (pc := 34) d_X1_sippedByParts_34 (ty_29 hS.1.1) (by omega) (by omega) ?_
        refine Tr.gen (P := fun v => (-1) ≤ v ∧ v ≤ 999) (ar_29 hS.1.2.1 _) (fun r34 er34 br34 => ?_)
        refine Tr.imul (pc := 35) d_X1_sippedByParts_35 ?_
        refine Tr.gen (P := fun v => (-2147483648) ≤ v ∧ v ≤ 2147483647) (w32_b _) (fun r35 er35 br35 => ?_)
        refine Tr.iadd (pc := 36) d_X1_sippedByParts_36 ?_
        refine Tr.gen (P := fun v => (-2147483648) ≤ v ∧ v ≤ 2147483647) (w32_b _) (fun r36 er36 br36 => ?_)
        refine Tr.istore_n (pc := 37) (i := 1) (ls2 := [(1, (0, r36)), (0, (2, 82)), (2, (0, p4_2))]) d_X1_sippedByParts_37 rfl (by decide) rfl ?_
        refine Tr.iincV (pc := 38) (n2 := (p4_2 + 1)) (ls2 := [(2, (0, (p4_2 + 1))), (1, (0, r36)), (0, (2, 82))]) d_X1_sippedByParts_38 rfl (by decide) ((w32_id (by omega)).trans (by omega)) rfl ?_
        refine Tr.goto (pc := 41) (tgt := 4) d_X1_sippedByParts_41 rfl ?_
        refine Tr.pick [2, 1, 0] (ls2 := [(0, (2, 82)), (1, (0, r36)), (2, (0, (p4_2 + 1)))]) rfl ?_
        exact J4 _ _ _ hS (by omega) (by omega) (by omega)
  refine Tr.pick [2, 1, 0] (ls2 := [(0, (2, 82)), (1, (0, 0)), (2, (0, 0))]) rfl ?_
  exact J4 _ _ _ _ hS (by omega) (by omega) (Nat.lt_succ_self _)

def ws_X6_finish_74_w1 : List (Int × Int) := [(74, 9), (74, 10)]
def as_X6_finish_74_w1 : List Int := [81, 83]
def q_X6_finish_74_w1 (M0 M' : Mem) (r : Option PV) : Prop := St Tru ws_X6_finish_74_w1 as_X6_finish_74_w1 M0 M' ∧ r = none
set_option maxRecDepth 100000 in
set_option maxHeartbeats 4000000 in
theorem sp_X6_finish_74_w1 {l : Launch} {K : EC} {M0 : Mem} (hI : In Tru M0) (en_74_1 : rd M0 74 1 = 27) (en_82_1 : rd M0 82 1 = 27)   : Tr l K 2 mX6_finish 0 [(0, (2, 74))] [] M0 (q_X6_finish_74_w1 M0) := by
  have hS : St Tru ws_X6_finish_74_w1 as_X6_finish_74_w1 M0 M0 := St.rf hI
  refine Tr.aload_n (pc := 0) (i := 0) d_X6_finish_0 rfl rfl ?_
  refine Tr.getf (pc := 1) d_X6_finish_1 f_6_68 (by decide) (by decide) (ty_74 hS.1.1) ?_
  refine Tr.gen (P := fun v => (-2147483648) ≤ v ∧ v ≤ 2147483647) (ir_74_9 hS.1.2.1) (fun r1 er1 br1 => ?_)
  refine Tr.istore_n (pc := 4) (i := 1) (ls2 := [(1, (0, r1)), (0, (2, 74))]) d_X6_finish_4 rfl (by decide) rfl ?_
  refine Tr.aload_n (pc := 5) (i := 0) d_X6_finish_5 rfl rfl ?_
  refine Tr.getf (pc := 6) d_X6_finish_6 f_6_46 (by decide) (by decide) (ty_74 hS.1.1) ?_
  refine Tr.tp 27 ((St.kp hS (by decide) (by decide) (by decide)).trans en_74_1) ?_
  refine Tr.getf (pc := 9) d_X6_finish_9 f_6_116 (by decide) (by decide) (ty_27 hS.1.1) ?_
  refine Tr.tp 28 (fx_27_4 hS.1.1) ?_
  refine Tr.iconst (pc := 12) d_X6_finish_12 (by decide) ?_
  refine Tr.iald (pc := 13) d_X6_finish_13 (ty_28 hS.1.1) (by omega) (by omega) ?_
  refine Tr.gen (P := fun v => 0 ≤ v ∧ v ≤ 6) (ir_28_0 hS.1.2.1) (fun r13 er13 br13 => ?_)
  refine Tr.istore_n (pc := 14) (i := 2) (ls2 := [(2, (0, r13)), (1, (0, r1)), (0, (2, 74))]) d_X6_finish_14 rfl (by decide) rfl ?_
  refine Tr.iconst (pc := 15) d_X6_finish_15 (by decide) ?_
  refine Tr.istore_n (pc := 16) (i := 3) (ls2 := [(3, (0, 0)), (2, (0, r13)), (1, (0, r1)), (0, (2, 74))]) d_X6_finish_16 rfl (by decide) rfl ?_
  have J17 : ∀ (n17 : Nat) (M : Mem) (p17_3 : Int), St Tru ws_X6_finish_74_w1 as_X6_finish_74_w1 M0 M → (0 ≤ p17_3 ∧ p17_3 ≤ 6) → rd M 28 0 = r13 → (6 - p17_3).toNat < n17 → Tr l K 2 mX6_finish 17 [(0, (2, 74)), (1, (0, r1)), (2, (0, r13)), (3, (0, p17_3))] [] M (q_X6_finish_74_w1 M0) := by
    intro n17
    induction n17 with
    | zero => intro M p17_3 hS bp17_3 k17_28_0 hm17; exact absurd hm17 (Nat.not_lt_zero _)
    | succ n17 J17 =>
      intro M p17_3 hS bp17_3 k17_28_0 hm17
      refine Tr.iload_n (pc := 17) (i := 3) d_X6_finish_17 rfl rfl ?_
      refine Tr.iload_n (pc := 18) (i := 2) d_X6_finish_18 rfl rfl ?_
      have J61 : ∀ (M : Mem), St Tru ws_X6_finish_74_w1 as_X6_finish_74_w1 M0 M → rd M 28 0 = r13 → Tr l K 2 mX6_finish 61 [(0, (2, 74)), (1, (0, r1)), (2, (0, r13))] [] M (q_X6_finish_74_w1 M0) := by
        intro M  hS  k61_28_0
        refine Tr.iconst (pc := 61) d_X6_finish_61 (by decide) ?_
        refine Tr.istore_n (pc := 62) (i := 3) (ls2 := [(3, (0, 0)), (0, (2, 74)), (1, (0, r1)), (2, (0, r13))]) d_X6_finish_62 rfl (by decide) rfl ?_
        have J63 : ∀ (n63 : Nat) (M : Mem) (p63_3 : Int), St Tru ws_X6_finish_74_w1 as_X6_finish_74_w1 M0 M → (0 ≤ p63_3 ∧ p63_3 ≤ 6) → rd M 28 0 = r13 → (6 - p63_3).toNat < n63 → Tr l K 2 mX6_finish 63 [(0, (2, 74)), (1, (0, r1)), (2, (0, r13)), (3, (0, p63_3))] [] M (q_X6_finish_74_w1 M0) := by
          intro n63
          induction n63 with
          | zero => intro M p63_3 hS bp63_3 k63_28_0 hm63; exact absurd hm63 (Nat.not_lt_zero _)
          | succ n63 J63 =>
            intro M p63_3 hS bp63_3 k63_28_0 hm63
            refine Tr.iload_n (pc := 63) (i := 3) d_X6_finish_63 rfl rfl ?_
            refine Tr.iload_n (pc := 64) (i := 2) d_X6_finish_64 rfl rfl ?_
            refine Tr.icmp_ge (pc := 65) (tgt := 129) d_X6_finish_65 rfl (fun c65 => ?_) (fun c65 => ?_)
            · refine Tr.aload_n (pc := 129) (i := 0) d_X6_finish_129 rfl rfl ?_
              refine Tr.iload_n (pc := 130) (i := 1) d_X6_finish_130 rfl rfl ?_
              refine Tr.aload_n (pc := 131) (i := 0) d_X6_finish_131 rfl rfl ?_
              refine Tr.getf (pc := 132) d_X6_finish_132 f_6_46 (by decide) (by decide) (ty_74 hS.1.1) ?_
              refine Tr.tp 27 ((St.kp hS (by decide) (by decide) (by decide)).trans en_74_1) ?_
              refine Tr.getf (pc := 135) d_X6_finish_135 f_6_135 (by decide) (by decide) (ty_27 hS.1.1) ?_
              refine Tr.gen (P := fun v => (-1) ≤ v ∧ v ≤ 999) (ir_27_0 hS.1.2.1) (fun r135 er135 br135 => ?_)
              refine Tr.imul (pc := 138) d_X6_finish_138 ?_
              refine Tr.gen (P := fun v => (-2147483648) ≤ v ∧ v ≤ 2147483647) (w32_b _) (fun r138 er138 br138 => ?_)
              refine Tr.aload_n (pc := 139) (i := 0) d_X6_finish_139 rfl rfl ?_
              refine Tr.getf (pc := 140) d_X6_finish_140 f_6_38 (by decide) (by decide) (ty_74 hS.1.1) ?_
              refine Tr.tp 82 (fx_74_0 hS.1.1) ?_
              refine Tr.callV (pc := 143) (as := []) d_X6_finish_143 s_6_138 ok_X1_sippedByParts rfl rfl (Nat.le_of_ble_eq_true rfl) (Nat.le_of_ble_eq_true rfl) (by decide) (ty_82 hS.1.1) ?_
              refine Tr.imp (Tr.deep (by decide) (sp_X1_sippedByParts_82_w1 hS.1 ((St.kp hS (by decide) (by decide) (by decide)).trans en_82_1))) ?_
              rintro M143 _ ⟨h143, r143, rfl, lr143, ur143⟩
              have hS := St.tr hS h143 (by decide) (by decide)
              refine Tr.sc [(0, r143), (0, r138), (2, 74)] rfl ?_
              refine Tr.iadd (pc := 146) d_X6_finish_146 ?_
              refine Tr.gen (P := fun v => (-2147483648) ≤ v ∧ v ≤ 2147483647) (w32_b _) (fun r146 er146 br146 => ?_)
              refine Tr.putfS (pc := 147) (P := St Tru ws_X6_finish_74_w1 as_X6_finish_74_w1 M0) d_X6_finish_147 f_6_142 (by decide) (by decide) (ty_74 hS.1.1) (st_74_10 hS (by decide) (by omega) trivial) (fun M147 hS w147 => ?_)
              exact Tr.vret (pc := 150) d_X6_finish_150 rfl ⟨hS, rfl⟩
            · refine Tr.aload_n (pc := 68) (i := 0) d_X6_finish_68 rfl rfl ?_
              refine Tr.iload_n (pc := 69) (i := 3) d_X6_finish_69 rfl rfl ?_
              refine Tr.aload_n (pc := 70) (i := 0) d_X6_finish_70 rfl rfl ?_
              refine Tr.getf (pc := 71) d_X6_finish_71 f_6_68 (by decide) (by decide) (ty_74 hS.1.1) ?_
              refine Tr.gen (P := fun v => (-2147483648) ≤ v ∧ v ≤ 2147483647) (ir_74_9 hS.1.2.1) (fun r71 er71 br71 => ?_)
              refine Tr.callV (pc := 74) (as := [_, _]) d_X6_finish_74 s_6_125 ok_X6_settle rfl rfl (Nat.le_of_ble_eq_true rfl) (Nat.le_of_ble_eq_true rfl) (by decide) (ty_74 hS.1.1) ?_
              refine Tr.imp (Tr.deep (by decide) (sp_X6_settle_74 hS.1 p63_3 (by omega) r71 (by omega))) ?_
              rintro M74 _ ⟨h74, rfl⟩
              have hS := St.tr hS h74 (by decide) (by decide)
              refine Tr.sc [] rfl ?_
              refine Tr.aload_n (pc := 77) (i := 0) d_X6_finish_77 rfl rfl ?_
              refine Tr.getf (pc := 78) d_X6_finish_78 f_6_24 (by decide) (by decide) (ty_74 hS.1.1) ?_
              refine Tr.tp 79 (fx_74_6 hS.1.1) ?_
              refine Tr.iload_n (pc := 81) (i := 3) d_X6_finish_81 rfl rfl ?_
              refine Tr.iald (pc := 82) d_X6_finish_82 (ty_79 hS.1.1) (by omega) (by omega) ?_
              refine Tr.gen (P := fun v => 0 ≤ v ∧ v ≤ 1) (ar_79 hS.1.2.1 _) (fun r82 er82 br82 => ?_)
              refine Tr.iconst (pc := 83) d_X6_finish_83 (by decide) ?_
              have J123 : ∀ (M : Mem), St Tru ws_X6_finish_74_w1 as_X6_finish_74_w1 M0 M → rd M 28 0 = r13 → rd M 74 9 = r71 → rd M 79 p63_3 = r82 → Tr l K 2 mX6_finish 123 [(0, (2, 74)), (1, (0, r1)), (2, (0, r13)), (3, (0, p63_3))] [] M (q_X6_finish_74_w1 M0) := by
                intro M  hS  k123_28_0 k123_74_9 k123_79_p63_310
                refine Tr.iincV (pc := 123) (n2 := (p63_3 + 1)) (ls2 := [(3, (0, (p63_3 + 1))), (0, (2, 74)), (1, (0, r1)), (2, (0, r13))]) d_X6_finish_123 rfl (by decide) ((w32_id (by omega)).trans (by omega)) rfl ?_
                refine Tr.goto (pc := 126) (tgt := 63) d_X6_finish_126 rfl ?_
                refine Tr.pick [1, 2, 3, 0] (ls2 := [(0, (2, 74)), (1, (0, r1)), (2, (0, r13)), (3, (0, (p63_3 + 1)))]) rfl ?_
                exact J63 _ _ hS (by omega) k123_28_0 (by omega)
              refine Tr.icmp_ne (pc := 84) (tgt := 102) d_X6_finish_84 rfl (fun c84 => ?_) (fun c84 => ?_)
              · refine Tr.aload_n (pc := 102) (i := 0) d_X6_finish_102 rfl rfl ?_
                refine Tr.getf (pc := 103) d_X6_finish_103 f_6_27 (by decide) (by decide) (ty_74 hS.1.1) ?_
                refine Tr.tp 80 (fx_74_7 hS.1.1) ?_
                refine Tr.iload_n (pc := 106) (i := 3) d_X6_finish_106 rfl rfl ?_
                refine Tr.iald (pc := 107) d_X6_finish_107 (ty_80 hS.1.1) (by omega) (by omega) ?_
                refine Tr.gen (P := fun v => (-2147483648) ≤ v ∧ v ≤ 2147483647) (ar_80 hS.1.2.1 _) (fun r107 er107 br107 => ?_)
                refine Tr.aload_n (pc := 108) (i := 0) d_X6_finish_108 rfl rfl ?_
                refine Tr.getf (pc := 109) d_X6_finish_109 f_6_68 (by decide) (by decide) (ty_74 hS.1.1) ?_
                refine Tr.tp r71 ((St.kp h74 (by decide) (by decide) (by decide)).trans er71) ?_
                refine Tr.icmp_gt (pc := 112) (tgt := 123) d_X6_finish_112 rfl (fun c112 => ?_) (fun c112 => ?_)
                · refine Tr.pick [0, 1, 2, 3] (ls2 := [(0, (2, 74)), (1, (0, r1)), (2, (0, r13)), (3, (0, p63_3))]) rfl ?_
                  exact J123 _ hS ((St.kp h74 (by decide) (by decide) (by decide)).trans k63_28_0) ((St.kp h74 (by decide) (by decide) (by decide)).trans er71) er82
                · refine Tr.aload_n (pc := 115) (i := 0) d_X6_finish_115 rfl rfl ?_
                  refine Tr.getf (pc := 116) d_X6_finish_116 f_6_38 (by decide) (by decide) (ty_74 hS.1.1) ?_
                  refine Tr.tp 82 (fx_74_0 hS.1.1) ?_
                  refine Tr.iload_n (pc := 119) (i := 3) d_X6_finish_119 rfl rfl ?_
                  refine Tr.callV (pc := 120) (as := [_]) d_X6_finish_120 s_6_131 ok_X1_fallAsleep rfl rfl (Nat.le_of_ble_eq_true rfl) (Nat.le_of_ble_eq_true rfl) (by decide) (ty_82 hS.1.1) ?_
                  refine Tr.imp (Tr.deep (by decide) (sp_X1_fallAsleep_82_w4 hS.1 p63_3 (by omega))) ?_
                  rintro M120 _ ⟨h120, rfl⟩
                  have hS := St.tr hS h120 (by decide) (by decide)
                  refine Tr.sc [] rfl ?_
                  refine Tr.pick [0, 1, 2, 3] (ls2 := [(0, (2, 74)), (1, (0, r1)), (2, (0, r13)), (3, (0, p63_3))]) rfl ?_
                  exact J123 _ hS ((St.kp h120 (by decide) (by decide) (by decide)).trans ((St.kp h74 (by decide) (by decide) (by decide)).trans k63_28_0)) ((St.kp h120 (by decide) (by decide) (by decide)).trans ((St.kp h74 (by decide) (by decide) (by decide)).trans er71)) ((St.ka h120 (by decide) (by decide) (by decide)).trans er82)
              · refine Tr.aload_n (pc := 87) (i := 0) d_X6_finish_87 rfl rfl ?_
                refine Tr.getf (pc := 88) d_X6_finish_88 f_6_38 (by decide) (by decide) (ty_74 hS.1.1) ?_
                refine Tr.tp 82 (fx_74_0 hS.1.1) ?_
                refine Tr.iload_n (pc := 91) (i := 3) d_X6_finish_91 rfl rfl ?_
                refine Tr.aload_n (pc := 92) (i := 0) d_X6_finish_92 rfl rfl ?_
                refine Tr.getf (pc := 93) d_X6_finish_93 f_6_68 (by decide) (by decide) (ty_74 hS.1.1) ?_
                refine Tr.tp r71 ((St.kp h74 (by decide) (by decide) (by decide)).trans er71) ?_
                refine Tr.callV (pc := 96) (as := [_, _]) d_X6_finish_96 s_6_128 ok_X1_letGo rfl rfl (Nat.le_of_ble_eq_true rfl) (Nat.le_of_ble_eq_true rfl) (by decide) (ty_82 hS.1.1) ?_
                refine Tr.imp (Tr.deep (by decide) (sp_X1_letGo_82 hS.1 p63_3 (by omega) r71 (by omega))) ?_
                rintro M96 _ ⟨h96, rfl⟩
                have hS := St.tr hS h96 (by decide) (by decide)
                refine Tr.sc [] rfl ?_
                refine Tr.goto (pc := 99) (tgt := 123) d_X6_finish_99 rfl ?_
                refine Tr.pick [0, 1, 2, 3] (ls2 := [(0, (2, 74)), (1, (0, r1)), (2, (0, r13)), (3, (0, p63_3))]) rfl ?_
                exact J123 _ hS ((St.kp h96 (by decide) (by decide) (by decide)).trans ((St.kp h74 (by decide) (by decide) (by decide)).trans k63_28_0)) ((St.kp h96 (by decide) (by decide) (by decide)).trans ((St.kp h74 (by decide) (by decide) (by decide)).trans er71)) ((St.ka h96 (by decide) (by decide) (by decide)).trans er82)
        refine Tr.pick [1, 2, 3, 0] (ls2 := [(0, (2, 74)), (1, (0, r1)), (2, (0, r13)), (3, (0, 0))]) rfl ?_
        exact J63 _ _ _ hS (by omega) k61_28_0 (Nat.lt_succ_self _)
      refine Tr.icmp_ge (pc := 19) (tgt := 61) d_X6_finish_19 rfl (fun c19 => ?_) (fun c19 => ?_)
      · refine Tr.pick [0, 1, 2] (ls2 := [(0, (2, 74)), (1, (0, r1)), (2, (0, r13))]) rfl ?_
        exact J61 _ hS k17_28_0
      · refine Tr.aload_n (pc := 22) (i := 0) d_X6_finish_22 rfl rfl ?_
        refine Tr.getf (pc := 23) d_X6_finish_23 f_6_62 (by decide) (by decide) (ty_74 hS.1.1) ?_
        refine Tr.gen (P := fun v => (-2147483648) ≤ v ∧ v ≤ 2147483647) (ir_74_14 hS.1.2.1) (fun r23 er23 br23 => ?_)
        refine Tr.if_ne (pc := 26) (tgt := 61) d_X6_finish_26 rfl (fun c26 => ?_) (fun c26 => ?_)
        · refine Tr.pick [0, 1, 2] (ls2 := [(0, (2, 74)), (1, (0, r1)), (2, (0, r13))]) rfl ?_
          exact J61 _ hS k17_28_0
        · refine Tr.aload_n (pc := 29) (i := 0) d_X6_finish_29 rfl rfl ?_
          refine Tr.getf (pc := 30) d_X6_finish_30 f_6_24 (by decide) (by decide) (ty_74 hS.1.1) ?_
          refine Tr.tp 79 (fx_74_6 hS.1.1) ?_
          refine Tr.iload_n (pc := 33) (i := 3) d_X6_finish_33 rfl rfl ?_
          refine Tr.iald (pc := 34) d_X6_finish_34 (ty_79 hS.1.1) (by omega) (by omega) ?_
          refine Tr.gen (P := fun v => 0 ≤ v ∧ v ≤ 1) (ar_79 hS.1.2.1 _) (fun r34 er34 br34 => ?_)
          have J55 : ∀ (M : Mem), St Tru ws_X6_finish_74_w1 as_X6_finish_74_w1 M0 M → rd M 28 0 = r13 → rd M 74 14 = r23 → rd M 79 p17_3 = r34 → Tr l K 2 mX6_finish 55 [(0, (2, 74)), (1, (0, r1)), (2, (0, r13)), (3, (0, p17_3))] [] M (q_X6_finish_74_w1 M0) := by
            intro M  hS  k55_28_0 k55_74_14 k55_79_p17_310
            refine Tr.iincV (pc := 55) (n2 := (p17_3 + 1)) (ls2 := [(3, (0, (p17_3 + 1))), (0, (2, 74)), (1, (0, r1)), (2, (0, r13))]) d_X6_finish_55 rfl (by decide) ((w32_id (by omega)).trans (by omega)) rfl ?_
            refine Tr.goto (pc := 58) (tgt := 17) d_X6_finish_58 rfl ?_
            refine Tr.pick [1, 2, 3, 0] (ls2 := [(0, (2, 74)), (1, (0, r1)), (2, (0, r13)), (3, (0, (p17_3 + 1)))]) rfl ?_
            exact J17 _ _ hS (by omega) k55_28_0 (by omega)
          refine Tr.if_ne (pc := 35) (tgt := 55) d_X6_finish_35 rfl (fun c35 => ?_) (fun c35 => ?_)
          · refine Tr.pick [0, 1, 2, 3] (ls2 := [(0, (2, 74)), (1, (0, r1)), (2, (0, r13)), (3, (0, p17_3))]) rfl ?_
            exact J55 _ hS k17_28_0 er23 er34
          · refine Tr.aload_n (pc := 38) (i := 0) d_X6_finish_38 rfl rfl ?_
            refine Tr.aload_n (pc := 39) (i := 0) d_X6_finish_39 rfl rfl ?_
            refine Tr.getf (pc := 40) d_X6_finish_40 f_6_68 (by decide) (by decide) (ty_74 hS.1.1) ?_
            refine Tr.gen (P := fun v => (-2147483648) ≤ v ∧ v ≤ 2147483647) (ir_74_9 hS.1.2.1) (fun r40 er40 br40 => ?_)
            refine Tr.aload_n (pc := 43) (i := 0) d_X6_finish_43 rfl rfl ?_
            refine Tr.getf (pc := 44) d_X6_finish_44 f_6_27 (by decide) (by decide) (ty_74 hS.1.1) ?_
            refine Tr.tp 80 (fx_74_7 hS.1.1) ?_
            refine Tr.iload_n (pc := 47) (i := 3) d_X6_finish_47 rfl rfl ?_
            refine Tr.iald (pc := 48) d_X6_finish_48 (ty_80 hS.1.1) (by omega) (by omega) ?_
            refine Tr.gen (P := fun v => (-2147483648) ≤ v ∧ v ≤ 2147483647) (ar_80 hS.1.2.1 _) (fun r48 er48 br48 => ?_)
            refine Tr.mmax (pc := 49) d_X6_finish_49 ml_6_119 mw_mmax (Nat.le_of_ble_eq_true rfl) ?_
            refine Tr.gen (P := fun v => (v = r40 ∧ r48 ≤ r40) ∨ (v = r48 ∧ r40 ≤ r48)) (f_max_p _ _) (fun r49 er49 br49 => ?_)
            refine Tr.putfS (pc := 52) (P := St Tru ws_X6_finish_74_w1 as_X6_finish_74_w1 M0) d_X6_finish_52 f_6_68 (by decide) (by decide) (ty_74 hS.1.1) (st_74_9 hS (by decide) (by omega) trivial) (fun M52 hS w52 => ?_)
            refine Tr.pick [0, 1, 2, 3] (ls2 := [(0, (2, 74)), (1, (0, r1)), (2, (0, r13)), (3, (0, p17_3))]) rfl ?_
            exact J55 _ hS ((Wr.b w52 rfl).trans k17_28_0) ((Wr.b w52 rfl).trans er23) ((Wr.b w52 rfl).trans er34)
  refine Tr.pick [3, 2, 1, 0] (ls2 := [(0, (2, 74)), (1, (0, r1)), (2, (0, r13)), (3, (0, 0))]) rfl ?_
  exact J17 _ _ _ hS (by omega) er13 (Nat.lt_succ_self _)

def ws_X6_worked_74_w3 : List (Int × Int) := []
def as_X6_worked_74_w3 : List Int := [77]
def q_X6_worked_74_w3 (M0 M' : Mem) (r : Option PV) : Prop := St Tru ws_X6_worked_74_w3 as_X6_worked_74_w3 M0 M' ∧ ∃ v : Int, r = some (0, v) ∧ (-2147483648) ≤ v ∧ v ≤ 2147483647
set_option maxRecDepth 100000 in
set_option maxHeartbeats 4000000 in
theorem sp_X6_worked_74_w3 {l : Launch} {K : EC} {M0 : Mem} (hI : In Tru M0) (en_74_1 : rd M0 74 1 = 27) (a1 : Int) (ha1 : 0 ≤ a1 ∧ a1 ≤ 59)  : Tr l K 3 mX6_worked 0 [(0, (2, 74)), (1, (0, a1))] [] M0 (q_X6_worked_74_w3 M0) := by
  have hS : St Tru ws_X6_worked_74_w3 as_X6_worked_74_w3 M0 M0 := St.rf hI
  refine Tr.aload_n (pc := 0) (i := 0) d_X6_worked_0 rfl rfl ?_
  refine Tr.getf (pc := 1) d_X6_worked_1 f_6_46 (by decide) (by decide) (ty_74 hS.1.1) ?_
  refine Tr.tp 27 ((St.kp hS (by decide) (by decide) (by decide)).trans en_74_1) ?_
  refine Tr.getf (pc := 4) d_X6_worked_4 f_6_50 (by decide) (by decide) (ty_27 hS.1.1) ?_
  refine Tr.tp 35 (fx_27_11 hS.1.1) ?_
  refine Tr.astore_n (pc := 7) (i := 2) (ls2 := [(2, (2, 35)), (0, (2, 74)), (1, (0, a1))]) d_X6_worked_7 rfl (by decide) rfl ?_
  refine Tr.iconst (pc := 8) d_X6_worked_8 (by decide) ?_
  refine Tr.istore_n (pc := 9) (i := 3) (ls2 := [(3, (0, 0)), (2, (2, 35)), (0, (2, 74)), (1, (0, a1))]) d_X6_worked_9 rfl (by decide) rfl ?_
  refine Tr.aload_n (pc := 10) (i := 2) d_X6_worked_10 rfl rfl ?_
  refine Tr.getf (pc := 11) d_X6_worked_11 f_6_226 (by decide) (by decide) (ty_35 hS.1.1) ?_
  refine Tr.tp 38 (fx_35_3 hS.1.1) ?_
  refine Tr.iload_n (pc := 14) (i := 1) d_X6_worked_14 rfl rfl ?_
  refine Tr.iald (pc := 15) d_X6_worked_15 (ty_38 hS.1.1) (by omega) (by omega) ?_
  refine Tr.gen (P := fun v => 0 ≤ v ∧ v ≤ 900) (ar_38 hS.1.2.1 _) (fun r15 er15 br15 => ?_)
  refine Tr.istore (pc := 16) (i := 4) (ls2 := [(4, (0, r15)), (3, (0, 0)), (2, (2, 35)), (0, (2, 74)), (1, (0, a1))]) d_X6_worked_16 (by decide) rfl ?_
  have J18 : ∀ (n18 : Nat) (M : Mem) (p18_3 p18_4 : Int), St Tru ws_X6_worked_74_w3 as_X6_worked_74_w3 M0 M → (0 ≤ p18_3 ∧ p18_3 ≤ 64) → (0 ≤ p18_4 ∧ p18_4 ≤ 900) → rd M 38 a1 = r15 → (900 - p18_4).toNat < n18 → Tr l K 3 mX6_worked 18 [(0, (2, 74)), (1, (0, a1)), (2, (2, 35)), (3, (0, p18_3)), (4, (0, p18_4))] [] M (q_X6_worked_74_w3 M0) := by
    intro n18
    induction n18 with
    | zero => intro M p18_3 p18_4 hS bp18_3 bp18_4 k18_38_a110 hm18; exact absurd hm18 (Nat.not_lt_zero _)
    | succ n18 J18 =>
      intro M p18_3 p18_4 hS bp18_3 bp18_4 k18_38_a110 hm18
      refine Tr.iload (pc := 18) (i := 4) d_X6_worked_18 rfl ?_
      refine Tr.aload_n (pc := 20) (i := 2) d_X6_worked_20 rfl rfl ?_
      refine Tr.getf (pc := 21) d_X6_worked_21 f_6_226 (by decide) (by decide) (ty_35 hS.1.1) ?_
      refine Tr.tp 38 (fx_35_3 hS.1.1) ?_
      refine Tr.iload_n (pc := 24) (i := 1) d_X6_worked_24 rfl rfl ?_
      refine Tr.iconst (pc := 25) d_X6_worked_25 (by decide) ?_
      refine Tr.iadd (pc := 26) d_X6_worked_26 ?_
      refine Tr.tp (a1 + 1) ((w32_id (by omega)).trans (by omega)) ?_
      refine Tr.iald (pc := 27) d_X6_worked_27 (ty_38 hS.1.1) (by omega) (by omega) ?_
      refine Tr.gen (P := fun v => 0 ≤ v ∧ v ≤ 900) (ar_38 hS.1.2.1 _) (fun r27 er27 br27 => ?_)
      refine Tr.icmp_ge (pc := 28) (tgt := 156) d_X6_worked_28 rfl (fun c28 => ?_) (fun c28 => ?_)
      · refine Tr.iload_n (pc := 156) (i := 3) d_X6_worked_156 rfl rfl ?_
        refine Tr.iconst (pc := 157) d_X6_worked_157 (by decide) ?_
        refine Tr.icmp_ne (pc := 158) (tgt := 170) d_X6_worked_158 rfl (fun c158 => ?_) (fun c158 => ?_)
        · refine Tr.iconst (pc := 170) d_X6_worked_170 (by decide) ?_
          exact Tr.iret (pc := 171) d_X6_worked_171 rfl ⟨hS, _, rfl, by omega, by omega⟩
        · refine Tr.aload_n (pc := 161) (i := 0) d_X6_worked_161 rfl rfl ?_
          refine Tr.getf (pc := 162) d_X6_worked_162 f_6_18 (by decide) (by decide) (ty_74 hS.1.1) ?_
          refine Tr.tp 77 (fx_74_4 hS.1.1) ?_
          refine Tr.iconst (pc := 165) d_X6_worked_165 (by decide) ?_
          refine Tr.iald (pc := 166) d_X6_worked_166 (ty_77 hS.1.1) (by omega) (by omega) ?_
          refine Tr.gen (P := fun v => (-2147483648) ≤ v ∧ v ≤ 2147483647) (ar_77 hS.1.2.1 _) (fun r166 er166 br166 => ?_)
          refine Tr.goto (pc := 167) (tgt := 171) d_X6_worked_167 rfl ?_
          exact Tr.iret (pc := 171) d_X6_worked_171 rfl ⟨hS, _, rfl, by omega, by omega⟩
      · refine Tr.aload_n (pc := 31) (i := 2) d_X6_worked_31 rfl rfl ?_
        refine Tr.getf (pc := 32) d_X6_worked_32 f_6_229 (by decide) (by decide) (ty_35 hS.1.1) ?_
        refine Tr.tp 44 (fx_35_9 hS.1.1) ?_
        refine Tr.iload (pc := 35) (i := 4) d_X6_worked_35 rfl ?_
        refine Tr.iald (pc := 37) d_X6_worked_37 (ty_44 hS.1.1) (by omega) (by omega) ?_
        refine Tr.gen (P := fun v => (-2147483648) ≤ v ∧ v ≤ 2147483647) (ar_44 hS.1.2.1 _) (fun r37 er37 br37 => ?_)
        refine Tr.istore (pc := 38) (i := 5) (ls2 := [(5, (0, r37)), (0, (2, 74)), (1, (0, a1)), (2, (2, 35)), (3, (0, p18_3)), (4, (0, p18_4))]) d_X6_worked_38 (by decide) rfl ?_
        refine Tr.iload (pc := 40) (i := 5) d_X6_worked_40 rfl ?_
        refine Tr.iconst (pc := 42) d_X6_worked_42 (by decide) ?_
        have J150 : ∀ (M : Mem) (p150_3 : Int), St Tru ws_X6_worked_74_w3 as_X6_worked_74_w3 M0 M → (1 ≤ p150_3 ∧ p150_3 ≤ 64) → rd M 38 a1 = r15 → rd M 38 (a1 + 1) = r27 → rd M 44 p18_4 = r37 → Tr l K 3 mX6_worked 150 [(0, (2, 74)), (1, (0, a1)), (2, (2, 35)), (3, (0, p150_3)), (4, (0, p18_4))] [] M (q_X6_worked_74_w3 M0) := by
          intro M p150_3 hS bp150_3 k150_38_a110 k150_38_a111 k150_44_p18_410
          refine Tr.iincV (pc := 150) (n2 := (p18_4 + 1)) (ls2 := [(4, (0, (p18_4 + 1))), (0, (2, 74)), (1, (0, a1)), (2, (2, 35)), (3, (0, p150_3))]) d_X6_worked_150 rfl (by decide) ((w32_id (by omega)).trans (by omega)) rfl ?_
          refine Tr.goto (pc := 153) (tgt := 18) d_X6_worked_153 rfl ?_
          refine Tr.pick [1, 2, 3, 4, 0] (ls2 := [(0, (2, 74)), (1, (0, a1)), (2, (2, 35)), (3, (0, p150_3)), (4, (0, (p18_4 + 1)))]) rfl ?_
          exact J18 _ _ _ hS (by omega) (by omega) k150_38_a110 (by omega)
        refine Tr.icmp_ge (pc := 43) (tgt := 79) d_X6_worked_43 rfl (fun c43 => ?_) (fun c43 => ?_)
        · refine Tr.iload (pc := 79) (i := 5) d_X6_worked_79 rfl ?_
          refine Tr.iconst (pc := 81) d_X6_worked_81 (by decide) ?_
          refine Tr.icmp_ne (pc := 82) (tgt := 113) d_X6_worked_82 rfl (fun c82 => ?_) (fun c82 => ?_)
          · refine Tr.iload_n (pc := 113) (i := 3) d_X6_worked_113 rfl rfl ?_
            refine Tr.iconst (pc := 114) d_X6_worked_114 (by decide) ?_
            refine Tr.icmp_ge (pc := 115) (tgt := 120) d_X6_worked_115 rfl (fun c115 => ?_) (fun c115 => ?_)
            · refine Tr.iincV (pc := 120) (n2 := (p18_3 - 1)) (ls2 := [(3, (0, (p18_3 - 1))), (5, (0, r37)), (0, (2, 74)), (1, (0, a1)), (2, (2, 35)), (4, (0, p18_4))]) d_X6_worked_120 rfl (by decide) ((w32_id (by omega)).trans (by omega)) rfl ?_
              refine Tr.aload_n (pc := 123) (i := 0) d_X6_worked_123 rfl rfl ?_
              refine Tr.getf (pc := 124) d_X6_worked_124 f_6_18 (by decide) (by decide) (ty_74 hS.1.1) ?_
              refine Tr.tp 77 (fx_74_4 hS.1.1) ?_
              refine Tr.iload_n (pc := 127) (i := 3) d_X6_worked_127 rfl rfl ?_
              refine Tr.iconst (pc := 128) d_X6_worked_128 (by decide) ?_
              refine Tr.isub (pc := 129) d_X6_worked_129 ?_
              refine Tr.tp (p18_3 - 2) ((w32_id (by omega)).trans (by omega)) ?_
              refine Tr.iload (pc := 130) (i := 5) d_X6_worked_130 rfl ?_
              refine Tr.aload_n (pc := 132) (i := 0) d_X6_worked_132 rfl rfl ?_
              refine Tr.getf (pc := 133) d_X6_worked_133 f_6_18 (by decide) (by decide) (ty_74 hS.1.1) ?_
              refine Tr.tp 77 (fx_74_4 hS.1.1) ?_
              refine Tr.iload_n (pc := 136) (i := 3) d_X6_worked_136 rfl rfl ?_
              refine Tr.iconst (pc := 137) d_X6_worked_137 (by decide) ?_
              refine Tr.isub (pc := 138) d_X6_worked_138 ?_
              refine Tr.tp (p18_3 - 2) ((w32_id (by omega)).trans (by omega)) ?_
              refine Tr.iald (pc := 139) d_X6_worked_139 (ty_77 hS.1.1) (by omega) (by omega) ?_
              refine Tr.gen (P := fun v => (-2147483648) ≤ v ∧ v ≤ 2147483647) (ar_77 hS.1.2.1 _) (fun r139 er139 br139 => ?_)
              refine Tr.aload_n (pc := 140) (i := 0) d_X6_worked_140 rfl rfl ?_
              refine Tr.getf (pc := 141) d_X6_worked_141 f_6_18 (by decide) (by decide) (ty_74 hS.1.1) ?_
              refine Tr.tp 77 (fx_74_4 hS.1.1) ?_
              refine Tr.iload_n (pc := 144) (i := 3) d_X6_worked_144 rfl rfl ?_
              refine Tr.iald (pc := 145) d_X6_worked_145 (ty_77 hS.1.1) (by omega) (by omega) ?_
              refine Tr.gen (P := fun v => (-2147483648) ≤ v ∧ v ≤ 2147483647) (ar_77 hS.1.2.1 _) (fun r145 er145 br145 => ?_)
              refine Tr.callS (pc := 146) (as := [_, _, _]) d_X6_worked_146 s_6_238 ok_X6_joined rfl rfl (Nat.le_of_ble_eq_true rfl) (Nat.le_of_ble_eq_true rfl) ?_
              refine Tr.imp (Tr.deep (by decide) (sp_X6_joined hS.1 r37 (by omega) r139 (by omega) r145 (by omega))) ?_
              rintro M146 _ ⟨h146, r146, rfl, lr146, ur146⟩
              have hS := St.tr hS h146 (by decide) (by decide)
              refine Tr.sc [(0, r146), (0, (p18_3 - 2)), (2, 77)] rfl ?_
              refine Tr.iastS (pc := 149) (P := St Tru ws_X6_worked_74_w3 as_X6_worked_74_w3 M0) d_X6_worked_149 (ty_77 hS.1.1) (by omega) (by omega) (sa_77 hS (by decide) (by omega) trivial) (fun M149 hS w149 => ?_)
              refine Tr.pick [2, 3, 4, 0, 5] (ls2 := [(0, (2, 74)), (1, (0, a1)), (2, (2, 35)), (3, (0, (p18_3 - 1))), (4, (0, p18_4))]) rfl ?_
              exact J150 _ _ hS (by omega) ((Wr.b w149 rfl).trans ((St.ka h146 (by decide) (by decide) (by decide)).trans k18_38_a110)) ((Wr.b w149 rfl).trans ((St.ka h146 (by decide) (by decide) (by decide)).trans er27)) ((Wr.b w149 rfl).trans ((St.ka h146 (by decide) (by decide) (by decide)).trans er37))
            · refine Tr.iconst (pc := 118) d_X6_worked_118 (by decide) ?_
              exact Tr.iret (pc := 119) d_X6_worked_119 rfl ⟨hS, _, rfl, by omega, by omega⟩
          · refine Tr.iload_n (pc := 85) (i := 3) d_X6_worked_85 rfl rfl ?_
            refine Tr.iconst (pc := 86) d_X6_worked_86 (by decide) ?_
            refine Tr.icmp_ge (pc := 87) (tgt := 92) d_X6_worked_87 rfl (fun c87 => ?_) (fun c87 => ?_)
            · refine Tr.aload_n (pc := 92) (i := 0) d_X6_worked_92 rfl rfl ?_
              refine Tr.getf (pc := 93) d_X6_worked_93 f_6_18 (by decide) (by decide) (ty_74 hS.1.1) ?_
              refine Tr.tp 77 (fx_74_4 hS.1.1) ?_
              refine Tr.iload_n (pc := 96) (i := 3) d_X6_worked_96 rfl rfl ?_
              refine Tr.iconst (pc := 97) d_X6_worked_97 (by decide) ?_
              refine Tr.isub (pc := 98) d_X6_worked_98 ?_
              refine Tr.tp (p18_3 - 1) ((w32_id (by omega)).trans (by omega)) ?_
              refine Tr.iconst (pc := 99) d_X6_worked_99 (by decide) ?_
              refine Tr.aload_n (pc := 100) (i := 0) d_X6_worked_100 rfl rfl ?_
              refine Tr.getf (pc := 101) d_X6_worked_101 f_6_18 (by decide) (by decide) (ty_74 hS.1.1) ?_
              refine Tr.tp 77 (fx_74_4 hS.1.1) ?_
              refine Tr.iload_n (pc := 104) (i := 3) d_X6_worked_104 rfl rfl ?_
              refine Tr.iconst (pc := 105) d_X6_worked_105 (by decide) ?_
              refine Tr.isub (pc := 106) d_X6_worked_106 ?_
              refine Tr.tp (p18_3 - 1) ((w32_id (by omega)).trans (by omega)) ?_
              refine Tr.iald (pc := 107) d_X6_worked_107 (ty_77 hS.1.1) (by omega) (by omega) ?_
              refine Tr.gen (P := fun v => (-2147483648) ≤ v ∧ v ≤ 2147483647) (ar_77 hS.1.2.1 _) (fun r107 er107 br107 => ?_)
              refine Tr.isub (pc := 108) d_X6_worked_108 ?_
              refine Tr.gen (P := fun v => (-2147483648) ≤ v ∧ v ≤ 2147483647) (w32_b _) (fun r108 er108 br108 => ?_)
              refine Tr.iastS (pc := 109) (P := St Tru ws_X6_worked_74_w3 as_X6_worked_74_w3 M0) d_X6_worked_109 (ty_77 hS.1.1) (by omega) (by omega) (sa_77 hS (by decide) (by omega) trivial) (fun M109 hS w109 => ?_)
              refine Tr.goto (pc := 110) (tgt := 150) d_X6_worked_110 rfl ?_
              refine Tr.pick [1, 2, 3, 4, 5] (ls2 := [(0, (2, 74)), (1, (0, a1)), (2, (2, 35)), (3, (0, p18_3)), (4, (0, p18_4))]) rfl ?_
              exact J150 _ _ hS (by omega) ((Wr.b w109 rfl).trans k18_38_a110) ((Wr.b w109 rfl).trans er27) ((Wr.b w109 rfl).trans er37)
            · refine Tr.iconst (pc := 90) d_X6_worked_90 (by decide) ?_
              exact Tr.iret (pc := 91) d_X6_worked_91 rfl ⟨hS, _, rfl, by omega, by omega⟩
        · refine Tr.iload_n (pc := 46) (i := 3) d_X6_worked_46 rfl rfl ?_
          refine Tr.bipush (pc := 47) d_X6_worked_47 rfl (by decide) ?_
          refine Tr.icmp_lt (pc := 49) (tgt := 54) d_X6_worked_49 rfl (fun c49 => ?_) (fun c49 => ?_)
          · refine Tr.aload_n (pc := 54) (i := 0) d_X6_worked_54 rfl rfl ?_
            refine Tr.getf (pc := 55) d_X6_worked_55 f_6_18 (by decide) (by decide) (ty_74 hS.1.1) ?_
            refine Tr.tp 77 (fx_74_4 hS.1.1) ?_
            refine Tr.iload_n (pc := 58) (i := 3) d_X6_worked_58 rfl rfl ?_
            refine Tr.aload_n (pc := 59) (i := 0) d_X6_worked_59 rfl rfl ?_
            refine Tr.iload (pc := 60) (i := 5) d_X6_worked_60 rfl ?_
            refine Tr.aload_n (pc := 62) (i := 2) d_X6_worked_62 rfl rfl ?_
            refine Tr.getf (pc := 63) d_X6_worked_63 f_6_232 (by decide) (by decide) (ty_35 hS.1.1) ?_
            refine Tr.tp 45 (fx_35_10 hS.1.1) ?_
            refine Tr.iload (pc := 66) (i := 4) d_X6_worked_66 rfl ?_
            refine Tr.iald (pc := 68) d_X6_worked_68 (ty_45 hS.1.1) (by omega) (by omega) ?_
            refine Tr.gen (P := fun v => ((-2147483648) ≤ v ∧ v ≤ 2147483647) ∧ ((r37 = 1 → 0 ≤ v ∧ v ≤ 2) ∧ (r37 = 2 ∨ r37 = 4 → 0 ≤ v ∧ v ≤ 5))) (by have h8 := gc_at hS.1.2.2 44 45 (by decide) er37; have h9 := (ar_45 hS.1.2.1 (p18_4)); exact ⟨h9, h8⟩) (fun r68 er68 br68 => ?_)
            refine Tr.callV (pc := 69) (as := [_, _]) d_X6_worked_69 s_6_235 ok_X6_single rfl rfl (Nat.le_of_ble_eq_true rfl) (Nat.le_of_ble_eq_true rfl) (by decide) (ty_74 hS.1.1) ?_
            refine Tr.imp (Tr.deep (by decide) (sp_X6_single_74 hS.1 r37 (by omega) r68 (by omega) (by omega))) ?_
            rintro M69 _ ⟨h69, r69, rfl, lr69, ur69⟩
            have hS := St.tr hS h69 (by decide) (by decide)
            refine Tr.sc [(0, r69), (0, p18_3), (2, 77)] rfl ?_
            refine Tr.iastS (pc := 72) (P := St Tru ws_X6_worked_74_w3 as_X6_worked_74_w3 M0) d_X6_worked_72 (ty_77 hS.1.1) (by omega) (by omega) (sa_77 hS (by decide) (by omega) trivial) (fun M72 hS w72 => ?_)
            refine Tr.iincV (pc := 73) (n2 := (p18_3 + 1)) (ls2 := [(3, (0, (p18_3 + 1))), (5, (0, r37)), (0, (2, 74)), (1, (0, a1)), (2, (2, 35)), (4, (0, p18_4))]) d_X6_worked_73 rfl (by decide) ((w32_id (by omega)).trans (by omega)) rfl ?_
            refine Tr.goto (pc := 76) (tgt := 150) d_X6_worked_76 rfl ?_
            refine Tr.pick [2, 3, 4, 0, 5] (ls2 := [(0, (2, 74)), (1, (0, a1)), (2, (2, 35)), (3, (0, (p18_3 + 1))), (4, (0, p18_4))]) rfl ?_
            exact J150 _ _ hS (by omega) ((Wr.b w72 rfl).trans ((St.ka h69 (by decide) (by decide) (by decide)).trans k18_38_a110)) ((Wr.b w72 rfl).trans ((St.ka h69 (by decide) (by decide) (by decide)).trans er27)) ((Wr.b w72 rfl).trans ((St.ka h69 (by decide) (by decide) (by decide)).trans er37))
          · refine Tr.iconst (pc := 52) d_X6_worked_52 (by decide) ?_
            exact Tr.iret (pc := 53) d_X6_worked_53 rfl ⟨hS, _, rfl, by omega, by omega⟩
  refine Tr.pick [3, 4, 2, 1, 0] (ls2 := [(0, (2, 74)), (1, (0, a1)), (2, (2, 35)), (3, (0, 0)), (4, (0, r15))]) rfl ?_
  exact J18 _ _ _ _ hS (by omega) (by omega) er15 (Nat.lt_succ_self _)

def ws_X6_free_74_w3 : List (Int × Int) := []
def as_X6_free_74_w3 : List Int := [79, 80, 81, 83]
def q_X6_free_74_w3 (M0 M' : Mem) (r : Option PV) : Prop := St Tru ws_X6_free_74_w3 as_X6_free_74_w3 M0 M' ∧ r = none
set_option maxRecDepth 100000 in
set_option maxHeartbeats 4000000 in
theorem sp_X6_free_74_w3 {l : Launch} {K : EC} {M0 : Mem} (hI : In Tru M0) (en_74_1 : rd M0 74 1 = 27) (a1 : Int) (ha1 : 0 ≤ a1 ∧ a1 ≤ 59) (a2 : Int) (ha2 : 0 ≤ a2 ∧ a2 ≤ 5)  : Tr l K 2 mX6_free 0 [(0, (2, 74)), (1, (0, a1)), (2, (0, a2))] [] M0 (q_X6_free_74_w3 M0) := by
  have hS : St Tru ws_X6_free_74_w3 as_X6_free_74_w3 M0 M0 := St.rf hI
  refine Tr.aload_n (pc := 0) (i := 0) d_X6_free_0 rfl rfl ?_
  refine Tr.getf (pc := 1) d_X6_free_1 f_6_24 (by decide) (by decide) (ty_74 hS.1.1) ?_
  refine Tr.tp 79 (fx_74_6 hS.1.1) ?_
  refine Tr.iload_n (pc := 4) (i := 2) d_X6_free_4 rfl rfl ?_
  refine Tr.iald (pc := 5) d_X6_free_5 (ty_79 hS.1.1) (by omega) (by omega) ?_
  refine Tr.gen (P := fun v => 0 ≤ v ∧ v ≤ 1) (ar_79 hS.1.2.1 _) (fun r5 er5 br5 => ?_)
  refine Tr.if_ne (pc := 6) (tgt := 10) d_X6_free_6 rfl (fun c6 => ?_) (fun c6 => ?_)
  · refine Tr.aload_n (pc := 10) (i := 0) d_X6_free_10 rfl rfl ?_
    refine Tr.iload_n (pc := 11) (i := 2) d_X6_free_11 rfl rfl ?_
    refine Tr.aload_n (pc := 12) (i := 0) d_X6_free_12 rfl rfl ?_
    refine Tr.getf (pc := 13) d_X6_free_13 f_6_68 (by decide) (by decide) (ty_74 hS.1.1) ?_
    refine Tr.gen (P := fun v => (-2147483648) ≤ v ∧ v ≤ 2147483647) (ir_74_9 hS.1.2.1) (fun r13 er13 br13 => ?_)
    refine Tr.callV (pc := 16) (as := [_, _]) d_X6_free_16 s_6_125 ok_X6_settle rfl rfl (Nat.le_of_ble_eq_true rfl) (Nat.le_of_ble_eq_true rfl) (by decide) (ty_74 hS.1.1) ?_
    refine Tr.imp (Tr.deep (by decide) (sp_X6_settle_74 hS.1 a2 (by omega) r13 (by omega))) ?_
    rintro M16 _ ⟨h16, rfl⟩
    have hS := St.tr hS h16 (by decide) (by decide)
    refine Tr.sc [] rfl ?_
    refine Tr.aload_n (pc := 19) (i := 0) d_X6_free_19 rfl rfl ?_
    refine Tr.getf (pc := 20) d_X6_free_20 f_6_38 (by decide) (by decide) (ty_74 hS.1.1) ?_
    refine Tr.tp 82 (fx_74_0 hS.1.1) ?_
    refine Tr.iload_n (pc := 23) (i := 2) d_X6_free_23 rfl rfl ?_
    refine Tr.aload_n (pc := 24) (i := 0) d_X6_free_24 rfl rfl ?_
    refine Tr.getf (pc := 25) d_X6_free_25 f_6_68 (by decide) (by decide) (ty_74 hS.1.1) ?_
    refine Tr.tp r13 ((St.kp h16 (by decide) (by decide) (by decide)).trans er13) ?_
    refine Tr.callV (pc := 28) (as := [_, _]) d_X6_free_28 s_6_128 ok_X1_letGo rfl rfl (Nat.le_of_ble_eq_true rfl) (Nat.le_of_ble_eq_true rfl) (by decide) (ty_82 hS.1.1) ?_
    refine Tr.imp (Tr.deep (by decide) (sp_X1_letGo_82 hS.1 a2 (by omega) r13 (by omega))) ?_
    rintro M28 _ ⟨h28, rfl⟩
    have hS := St.tr hS h28 (by decide) (by decide)
    refine Tr.sc [] rfl ?_
    refine Tr.aload_n (pc := 31) (i := 0) d_X6_free_31 rfl rfl ?_
    refine Tr.getf (pc := 32) d_X6_free_32 f_6_38 (by decide) (by decide) (ty_74 hS.1.1) ?_
    refine Tr.tp 82 (fx_74_0 hS.1.1) ?_
    refine Tr.iload_n (pc := 35) (i := 2) d_X6_free_35 rfl rfl ?_
    refine Tr.iload_n (pc := 36) (i := 1) d_X6_free_36 rfl rfl ?_
    refine Tr.callV (pc := 37) (as := [_, _]) d_X6_free_37 s_6_214 ok_X1_act rfl rfl (Nat.le_of_ble_eq_true rfl) (Nat.le_of_ble_eq_true rfl) (by decide) (ty_82 hS.1.1) ?_
    refine Tr.imp (Tr.deep (by decide) (sp_X1_act_82_w1 hS.1 a2 (by omega) a1 (by omega))) ?_
    rintro M37 _ ⟨h37, rfl⟩
    have hS := St.tr hS h37 (by decide) (by decide)
    refine Tr.sc [] rfl ?_
    refine Tr.aload_n (pc := 40) (i := 0) d_X6_free_40 rfl rfl ?_
    refine Tr.getf (pc := 41) d_X6_free_41 f_6_24 (by decide) (by decide) (ty_74 hS.1.1) ?_
    refine Tr.tp 79 (fx_74_6 hS.1.1) ?_
    refine Tr.iload_n (pc := 44) (i := 2) d_X6_free_44 rfl rfl ?_
    refine Tr.iconst (pc := 45) d_X6_free_45 (by decide) ?_
    refine Tr.iastS (pc := 46) (P := St Tru ws_X6_free_74_w3 as_X6_free_74_w3 M0) d_X6_free_46 (ty_79 hS.1.1) (by omega) (by omega) (sa_79 hS (by decide) (by omega) trivial) (fun M46 hS w46 => ?_)
    refine Tr.aload_n (pc := 47) (i := 0) d_X6_free_47 rfl rfl ?_
    refine Tr.getf (pc := 48) d_X6_free_48 f_6_27 (by decide) (by decide) (ty_74 hS.1.1) ?_
    refine Tr.tp 80 (fx_74_7 hS.1.1) ?_
    refine Tr.iload_n (pc := 51) (i := 2) d_X6_free_51 rfl rfl ?_
    refine Tr.aload_n (pc := 52) (i := 0) d_X6_free_52 rfl rfl ?_
    refine Tr.getf (pc := 53) d_X6_free_53 f_6_68 (by decide) (by decide) (ty_74 hS.1.1) ?_
    refine Tr.tp r13 ((Wr.b w46 rfl).trans ((St.kp h37 (by decide) (by decide) (by decide)).trans ((St.kp h28 (by decide) (by decide) (by decide)).trans ((St.kp h16 (by decide) (by decide) (by decide)).trans er13)))) ?_
    refine Tr.aload_n (pc := 56) (i := 0) d_X6_free_56 rfl rfl ?_
    refine Tr.getf (pc := 57) d_X6_free_57 f_6_46 (by decide) (by decide) (ty_74 hS.1.1) ?_
    refine Tr.tp 27 ((St.kp hS (by decide) (by decide) (by decide)).trans en_74_1) ?_
    refine Tr.getf (pc := 60) d_X6_free_60 f_6_208 (by decide) (by decide) (ty_27 hS.1.1) ?_
    refine Tr.tp 31 (fx_27_7 hS.1.1) ?_
    refine Tr.iload_n (pc := 63) (i := 2) d_X6_free_63 rfl rfl ?_
    refine Tr.iald (pc := 64) d_X6_free_64 (ty_31 hS.1.1) (by omega) (by omega) ?_
    refine Tr.gen (P := fun v => 0 ≤ v ∧ v ≤ 50) (ar_31 hS.1.2.1 _) (fun r64 er64 br64 => ?_)
    refine Tr.iadd (pc := 65) d_X6_free_65 ?_
    refine Tr.gen (P := fun v => (-2147483648) ≤ v ∧ v ≤ 2147483647) (w32_b _) (fun r65 er65 br65 => ?_)
    refine Tr.iastS (pc := 66) (P := St Tru ws_X6_free_74_w3 as_X6_free_74_w3 M0) d_X6_free_66 (ty_80 hS.1.1) (by omega) (by omega) (sa_80 hS (by decide) (by omega) trivial) (fun M66 hS w66 => ?_)
    exact Tr.vret (pc := 67) d_X6_free_67 rfl ⟨hS, rfl⟩
  · exact Tr.vret (pc := 9) d_X6_free_9 rfl ⟨hS, rfl⟩

def ws_X6_hold_74_w3 : List (Int × Int) := [(74, 9), (74, 14), (74, 17)]
def as_X6_hold_74_w3 : List Int := [79, 80, 81, 83]
def q_X6_hold_74_w3 (a1 : Int) (a2 : Int) (M0 M' : Mem) (r : Option PV) : Prop := St Tru ws_X6_hold_74_w3 as_X6_hold_74_w3 M0 M' ∧ r = none
set_option maxRecDepth 100000 in
set_option maxHeartbeats 4000000 in
theorem sp_X6_hold_74_w3 {l : Launch} {K : EC} {M0 : Mem} (hI : In Tru M0) (en_74_1 : rd M0 74 1 = 27) (a1 : Int) (ha1 : 0 ≤ a1 ∧ a1 ≤ 59) (a2 : Int) (ha2 : 0 ≤ a2 ∧ a2 ≤ 5)  : Tr l K 3 mX6_hold 0 [(0, (2, 74)), (1, (0, a1)), (2, (0, a2))] [] M0 (q_X6_hold_74_w3 a1 a2 M0) := by
  have hS : St Tru ws_X6_hold_74_w3 as_X6_hold_74_w3 M0 M0 := St.rf hI
  refine Tr.aload_n (pc := 0) (i := 0) d_X6_hold_0 rfl rfl ?_
  refine Tr.getf (pc := 1) d_X6_hold_1 f_6_24 (by decide) (by decide) (ty_74 hS.1.1) ?_
  refine Tr.tp 79 (fx_74_6 hS.1.1) ?_
  refine Tr.iload_n (pc := 4) (i := 2) d_X6_hold_4 rfl rfl ?_
  refine Tr.iald (pc := 5) d_X6_hold_5 (ty_79 hS.1.1) (by omega) (by omega) ?_
  refine Tr.gen (P := fun v => 0 ≤ v ∧ v ≤ 1) (ar_79 hS.1.2.1 _) (fun r5 er5 br5 => ?_)
  refine Tr.iconst (pc := 6) d_X6_hold_6 (by decide) ?_
  refine Tr.icmp_ne (pc := 7) (tgt := 11) d_X6_hold_7 rfl (fun c7 => ?_) (fun c7 => ?_)
  · refine Tr.aload_n (pc := 11) (i := 0) d_X6_hold_11 rfl rfl ?_
    refine Tr.getf (pc := 12) d_X6_hold_12 f_6_68 (by decide) (by decide) (ty_74 hS.1.1) ?_
    refine Tr.gen (P := fun v => (-2147483648) ≤ v ∧ v ≤ 2147483647) (ir_74_9 hS.1.2.1) (fun r12 er12 br12 => ?_)
    refine Tr.istore_n (pc := 15) (i := 3) (ls2 := [(3, (0, r12)), (0, (2, 74)), (1, (0, a1)), (2, (0, a2))]) d_X6_hold_15 rfl (by decide) rfl ?_
    refine Tr.aload_n (pc := 16) (i := 0) d_X6_hold_16 rfl rfl ?_
    refine Tr.aload_n (pc := 17) (i := 0) d_X6_hold_17 rfl rfl ?_
    refine Tr.iload_n (pc := 18) (i := 2) d_X6_hold_18 rfl rfl ?_
    refine Tr.callV (pc := 19) (as := [_]) d_X6_hold_19 s_6_199 ok_X6_wakeOf rfl rfl (Nat.le_of_ble_eq_true rfl) (Nat.le_of_ble_eq_true rfl) (by decide) (ty_74 hS.1.1) ?_
    refine Tr.imp (Tr.deep (by decide) (sp_X6_wakeOf_74_w1 hS.1 ((St.kp hS (by decide) (by decide) (by decide)).trans en_74_1) a2 (by omega))) ?_
    rintro M19 _ ⟨h19, r19, rfl, lr19, ur19⟩
    have hS := St.tr hS h19 (by decide) (by decide)
    refine Tr.sc [(0, r19), (2, 74)] rfl ?_
    refine Tr.iload_n (pc := 22) (i := 2) d_X6_hold_22 rfl rfl ?_
    refine Tr.iconst (pc := 23) d_X6_hold_23 (by decide) ?_
    refine Tr.callV (pc := 24) (as := [_, _, _]) d_X6_hold_24 s_6_145 ok_X6_pass rfl rfl (Nat.le_of_ble_eq_true rfl) (Nat.le_of_ble_eq_true rfl) (by decide) (ty_74 hS.1.1) ?_
    refine Tr.imp (Tr.deep (by decide) (sp_X6_pass_74_w8 hS.1 ((St.kp hS (by decide) (by decide) (by decide)).trans en_74_1) r19 (by omega) a2 (by omega) 1 (by omega))) ?_
    rintro M24 _ ⟨h24, r24, rfl, lr24, ur24⟩
    have hS := St.tr hS h24 (by decide) (by decide)
    refine Tr.sc [(0, r24)] rfl ?_
    refine Tr.pop (pc := 27) d_X6_hold_27 ne01 ?_
    refine Tr.aload_n (pc := 28) (i := 0) d_X6_hold_28 rfl rfl ?_
    refine Tr.getf (pc := 29) d_X6_hold_29 f_6_62 (by decide) (by decide) (ty_74 hS.1.1) ?_
    refine Tr.gen (P := fun v => (-2147483648) ≤ v ∧ v ≤ 2147483647) (ir_74_14 hS.1.2.1) (fun r29 er29 br29 => ?_)
    have J44 : ∀ (M : Mem), St Tru ws_X6_hold_74_w3 as_X6_hold_74_w3 M0 M → rd M 74 14 = r29 → rd M 79 a2 = r5 → Tr l K 3 mX6_hold 44 [(0, (2, 74)), (1, (0, a1)), (2, (0, a2)), (3, (0, r12))] [] M (q_X6_hold_74_w3 a1 a2 M0) := by
      intro M  hS  k44_74_14 k44_79_a210
      refine Tr.aload_n (pc := 44) (i := 0) d_X6_hold_44 rfl rfl ?_
      refine Tr.iload_n (pc := 45) (i := 2) d_X6_hold_45 rfl rfl ?_
      refine Tr.iload_n (pc := 46) (i := 3) d_X6_hold_46 rfl rfl ?_
      refine Tr.callV (pc := 47) (as := [_, _]) d_X6_hold_47 s_6_125 ok_X6_settle rfl rfl (Nat.le_of_ble_eq_true rfl) (Nat.le_of_ble_eq_true rfl) (by decide) (ty_74 hS.1.1) ?_
      refine Tr.imp (Tr.deep (by decide) (sp_X6_settle_74 hS.1 a2 (by omega) r12 (by omega))) ?_
      rintro M47 _ ⟨h47, rfl⟩
      have hS := St.tr hS h47 (by decide) (by decide)
      refine Tr.sc [] rfl ?_
      refine Tr.aload_n (pc := 50) (i := 0) d_X6_hold_50 rfl rfl ?_
      refine Tr.iload_n (pc := 51) (i := 1) d_X6_hold_51 rfl rfl ?_
      refine Tr.iload_n (pc := 52) (i := 2) d_X6_hold_52 rfl rfl ?_
      refine Tr.iload_n (pc := 53) (i := 3) d_X6_hold_53 rfl rfl ?_
      refine Tr.aload_n (pc := 54) (i := 0) d_X6_hold_54 rfl rfl ?_
      refine Tr.getf (pc := 55) d_X6_hold_55 f_6_68 (by decide) (by decide) (ty_74 hS.1.1) ?_
      refine Tr.gen (P := fun v => (-2147483648) ≤ v ∧ v ≤ 2147483647) (ir_74_9 hS.1.2.1) (fun r55 er55 br55 => ?_)
      refine Tr.callV (pc := 58) (as := [_, _, _, _]) d_X6_hold_58 s_6_202 ok_X6_bookBusy rfl rfl (Nat.le_of_ble_eq_true rfl) (Nat.le_of_ble_eq_true rfl) (by decide) (ty_74 hS.1.1) ?_
      refine Tr.imp (Tr.deep (by decide) (sp_X6_bookBusy_74_w1 hS.1 a1 (by omega) a2 (by omega) r12 (by omega) r55 (by omega))) ?_
      rintro M58 _ ⟨h58, rfl⟩
      have hS := St.tr hS h58 (by decide) (by decide)
      refine Tr.sc [] rfl ?_
      refine Tr.aload_n (pc := 61) (i := 0) d_X6_hold_61 rfl rfl ?_
      refine Tr.getf (pc := 62) d_X6_hold_62 f_6_38 (by decide) (by decide) (ty_74 hS.1.1) ?_
      refine Tr.tp 82 (fx_74_0 hS.1.1) ?_
      refine Tr.iload_n (pc := 65) (i := 2) d_X6_hold_65 rfl rfl ?_
      refine Tr.iload_n (pc := 66) (i := 1) d_X6_hold_66 rfl rfl ?_
      refine Tr.aload_n (pc := 67) (i := 0) d_X6_hold_67 rfl rfl ?_
      refine Tr.getf (pc := 68) d_X6_hold_68 f_6_68 (by decide) (by decide) (ty_74 hS.1.1) ?_
      refine Tr.tp r55 ((St.kp h58 (by decide) (by decide) (by decide)).trans er55) ?_
      refine Tr.callV (pc := 71) (as := [_, _, _]) d_X6_hold_71 s_6_211 ok_X1_holdFor rfl rfl (Nat.le_of_ble_eq_true rfl) (Nat.le_of_ble_eq_true rfl) (by decide) (ty_82 hS.1.1) ?_
      refine Tr.imp (Tr.deep (by decide) (sp_X1_holdFor_82_w1 hS.1 a2 (by omega) a1 (by omega) r55 (by omega))) ?_
      rintro M71 _ ⟨h71, rfl⟩
      have hS := St.tr hS h71 (by decide) (by decide)
      refine Tr.sc [] rfl ?_
      refine Tr.aload_n (pc := 74) (i := 0) d_X6_hold_74 rfl rfl ?_
      refine Tr.getf (pc := 75) d_X6_hold_75 f_6_62 (by decide) (by decide) (ty_74 hS.1.1) ?_
      refine Tr.tp r29 ((St.kp h71 (by decide) (by decide) (by decide)).trans ((St.kp h58 (by decide) (by decide) (by decide)).trans ((St.kp h47 (by decide) (by decide) (by decide)).trans k44_74_14))) ?_
      refine Tr.if_ne (pc := 78) (tgt := 91) d_X6_hold_78 rfl (fun c78 => ?_) (fun c78 => ?_)
      · refine Tr.aload_n (pc := 91) (i := 0) d_X6_hold_91 rfl rfl ?_
        refine Tr.getf (pc := 92) d_X6_hold_92 f_6_27 (by decide) (by decide) (ty_74 hS.1.1) ?_
        refine Tr.tp 80 (fx_74_7 hS.1.1) ?_
        refine Tr.iload_n (pc := 95) (i := 2) d_X6_hold_95 rfl rfl ?_
        refine Tr.aload_n (pc := 96) (i := 0) d_X6_hold_96 rfl rfl ?_
        refine Tr.getf (pc := 97) d_X6_hold_97 f_6_68 (by decide) (by decide) (ty_74 hS.1.1) ?_
        refine Tr.tp r55 ((St.kp h71 (by decide) (by decide) (by decide)).trans ((St.kp h58 (by decide) (by decide) (by decide)).trans er55)) ?_
        refine Tr.iconst (pc := 100) d_X6_hold_100 (by decide) ?_
        refine Tr.iadd (pc := 101) d_X6_hold_101 ?_
        refine Tr.gen (P := fun v => (-2147483648) ≤ v ∧ v ≤ 2147483647) (w32_b _) (fun r101 er101 br101 => ?_)
        refine Tr.iastS (pc := 102) (P := St Tru ws_X6_hold_74_w3 as_X6_hold_74_w3 M0) d_X6_hold_102 (ty_80 hS.1.1) (by omega) (by omega) (sa_80 hS (by decide) (by omega) trivial) (fun M102 hS w102 => ?_)
        exact Tr.vret (pc := 103) d_X6_hold_103 rfl ⟨hS, rfl⟩
      · refine Tr.aload_n (pc := 81) (i := 0) d_X6_hold_81 rfl rfl ?_
        refine Tr.getf (pc := 82) d_X6_hold_82 f_6_24 (by decide) (by decide) (ty_74 hS.1.1) ?_
        refine Tr.tp 79 (fx_74_6 hS.1.1) ?_
        refine Tr.iload_n (pc := 85) (i := 2) d_X6_hold_85 rfl rfl ?_
        refine Tr.iconst (pc := 86) d_X6_hold_86 (by decide) ?_
        refine Tr.iastS (pc := 87) (P := St Tru ws_X6_hold_74_w3 as_X6_hold_74_w3 M0) d_X6_hold_87 (ty_79 hS.1.1) (by omega) (by omega) (sa_79 hS (by decide) (by omega) trivial) (fun M87 hS w87 => ?_)
        refine Tr.goto (pc := 88) (tgt := 103) d_X6_hold_88 rfl ?_
        exact Tr.vret (pc := 103) d_X6_hold_103 rfl ⟨hS, rfl⟩
    refine Tr.if_eq (pc := 32) (tgt := 44) d_X6_hold_32 rfl (fun c32 => ?_) (fun c32 => ?_)
    · refine Tr.pick [1, 2, 3, 0] (ls2 := [(0, (2, 74)), (1, (0, a1)), (2, (0, a2)), (3, (0, r12))]) rfl ?_
      exact J44 _ hS er29 ((St.ka h24 (by decide) (by decide) (by decide)).trans ((St.ka h19 (by decide) (by decide) (by decide)).trans er5))
    · refine Tr.aload_n (pc := 35) (i := 0) d_X6_hold_35 rfl rfl ?_
      refine Tr.getf (pc := 36) d_X6_hold_36 f_6_68 (by decide) (by decide) (ty_74 hS.1.1) ?_
      refine Tr.gen (P := fun v => (-2147483648) ≤ v ∧ v ≤ 2147483647) (ir_74_9 hS.1.2.1) (fun r36 er36 br36 => ?_)
      refine Tr.iload_n (pc := 39) (i := 3) d_X6_hold_39 rfl rfl ?_
      refine Tr.icmp_ne (pc := 40) (tgt := 44) d_X6_hold_40 rfl (fun c40 => ?_) (fun c40 => ?_)
      · refine Tr.pick [1, 2, 3, 0] (ls2 := [(0, (2, 74)), (1, (0, a1)), (2, (0, a2)), (3, (0, r12))]) rfl ?_
        exact J44 _ hS er29 ((St.ka h24 (by decide) (by decide) (by decide)).trans ((St.ka h19 (by decide) (by decide) (by decide)).trans er5))
      · exact Tr.vret (pc := 43) d_X6_hold_43 rfl ⟨hS, rfl⟩
  · exact Tr.vret (pc := 10) d_X6_hold_10 rfl ⟨hS, rfl⟩
