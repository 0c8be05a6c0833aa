/-! 40.03 -/
section
def ws_X12_works_120_w1 : List (Int × Int) := []
def as_X12_works_120_w1 : List Int := [172]
def q_X12_works_120_w1 (M0 M' : Mem) (r : Option PV) : Prop := St Tru ws_X12_works_120_w1 as_X12_works_120_w1 M0 M' ∧ ∃ v : Int, r = some (1, v) ∧ (-9223372036854775808) ≤ v ∧ v ≤ 9223372036854775807
set_option maxRecDepth 100000 in
set_option maxHeartbeats 4000000 in
theorem sp_X12_works_120_w1 {l : Launch} {K : EC} {M0 : Mem} (hI : In Tru M0) (en_120_12 : rd M0 120 12 = 1) (a1 : Int) (ha1 : 0 ≤ a1 ∧ a1 ≤ 399)  (hq0 : 200 ≤ a1 ∧ a1 < 200 + rd M0 136 1) (hF_Bk1 : Bk1 M0) : Tr l K 2 mX12_works 0 [(0, (2, 120)), (1, (0, a1))] [] M0 (q_X12_works_120_w1 M0) := by
  have hS : St Tru ws_X12_works_120_w1 as_X12_works_120_w1 M0 M0 := St.rf hI
  obtain ⟨g136_1, eg136_1⟩ : ∃ v, rd M0 136 1 = v := ⟨_, rfl⟩
  have bg136_1 : 0 ≤ g136_1 ∧ g136_1 ≤ 200 := by rw [← eg136_1]; exact ir_136_1 hI.2.1
  refine Tr.iconst (pc := 0) d_X12_works_0 (by decide) ?_
  refine Tr.istore_n (pc := 1) (i := 2) (ls2 := [(2, (0, 0)), (0, (2, 120)), (1, (0, a1))]) d_X12_works_1 rfl (by decide) rfl ?_
  refine Tr.sipush (pc := 2) d_X12_works_2 rfl (by decide) ?_
  refine Tr.aload_n (pc := 5) (i := 0) d_X12_works_5 rfl rfl ?_
  refine Tr.getf (pc := 6) d_X12_works_6 f_12_48 (by decide) (by decide) (ty_120 hS.1.1) ?_
  refine Tr.tp 1 ((St.kp hS (by decide) (by decide) (by decide)).trans en_120_12) ?_
  refine Tr.imul (pc := 9) d_X12_works_9 ?_
  refine Tr.tp 900 (by decide) ?_
  refine Tr.aload_n (pc := 10) (i := 0) d_X12_works_10 rfl rfl ?_
  refine Tr.getf (pc := 11) d_X12_works_11 f_12_106 (by decide) (by decide) (ty_120 hS.1.1) ?_
  refine Tr.tp 140 (fx_120_31 hS.1.1) ?_
  refine Tr.iload_n (pc := 14) (i := 1) d_X12_works_14 rfl rfl ?_
  refine Tr.iald (pc := 15) d_X12_works_15 (ty_140 hS.1.1) (by omega) (by omega) ?_
  refine Tr.gen (P := fun v => 0 ≤ v ∧ v ≤ 900) (ar_140 hS.1.2.1 _) (fun r15 er15 br15 => ?_)
  refine Tr.iadd (pc := 16) d_X12_works_16 ?_
  refine Tr.tp (r15 + 900) ((w32_id (by omega)).trans (by omega)) ?_
  refine Tr.istore_n (pc := 17) (i := 3) (ls2 := [(3, (0, (r15 + 900))), (2, (0, 0)), (0, (2, 120)), (1, (0, a1))]) d_X12_works_17 rfl (by decide) rfl ?_
  have J18 : ∀ (n18 : Nat) (M : Mem) (p18_2 p18_3 : Int), St Tru ws_X12_works_120_w1 as_X12_works_120_w1 M0 M → (0 ≤ p18_2 ∧ p18_2 ≤ 950) → (900 ≤ p18_3 ∧ p18_3 ≤ 1800) → rd M 136 1 = g136_1 → rd M 140 a1 = r15 → (p18_2 = dp M0 (900 + rd M0 140 a1) (p18_3 - (900 + rd M0 140 a1)).toNat ∧ (900 + rd M0 140 a1) ≤ p18_3) → (0 ≤ p18_2 ∧ p18_2 ≤ 900) → (1800 - p18_3).toNat < n18 → Tr l K 2 mX12_works 18 [(0, (2, 120)), (1, (0, a1)), (2, (0, p18_2)), (3, (0, p18_3))] [] M (q_X12_works_120_w1 M0) := by
    intro n18
    induction n18 with
    | zero => intro M p18_2 p18_3 hS bp18_2 bp18_3 k18_136_1 k18_140_a110 t18_0 t18_1 hm18; exact absurd hm18 (Nat.not_lt_zero _)
    | succ n18 J18 =>
      intro M p18_2 p18_3 hS bp18_2 bp18_3 k18_136_1 k18_140_a110 t18_0 t18_1 hm18
      refine Tr.iload_n (pc := 18) (i := 3) d_X12_works_18 rfl rfl ?_
      refine Tr.sipush (pc := 19) d_X12_works_19 rfl (by decide) ?_
      refine Tr.aload_n (pc := 22) (i := 0) d_X12_works_22 rfl rfl ?_
      refine Tr.getf (pc := 23) d_X12_works_23 f_12_48 (by decide) (by decide) (ty_120 hS.1.1) ?_
      refine Tr.tp 1 ((St.kp hS (by decide) (by decide) (by decide)).trans en_120_12) ?_
      refine Tr.imul (pc := 26) d_X12_works_26 ?_
      refine Tr.tp 900 (by decide) ?_
      refine Tr.aload_n (pc := 27) (i := 0) d_X12_works_27 rfl rfl ?_
      refine Tr.getf (pc := 28) d_X12_works_28 f_12_109 (by decide) (by decide) (ty_120 hS.1.1) ?_
      refine Tr.tp 141 (fx_120_32 hS.1.1) ?_
      refine Tr.iload_n (pc := 31) (i := 1) d_X12_works_31 rfl rfl ?_
      refine Tr.iald (pc := 32) d_X12_works_32 (ty_141 hS.1.1) (by omega) (by omega) ?_
      refine Tr.gen (P := fun v => 0 ≤ v ∧ v ≤ 900) (ar_141 hS.1.2.1 _) (fun r32 er32 br32 => ?_)
      refine Tr.iadd (pc := 33) d_X12_works_33 ?_
      refine Tr.tp (r32 + 900) ((w32_id (by omega)).trans (by omega)) ?_
      refine Tr.icmp_ge (pc := 34) (tgt := 139) d_X12_works_34 rfl (fun c34 => ?_) (fun c34 => ?_)
      · refine Tr.aload_n (pc := 139) (i := 0) d_X12_works_139 rfl rfl ?_
        refine Tr.getf (pc := 140) d_X12_works_140 f_12_264 (by decide) (by decide) (ty_120 hS.1.1) ?_
        refine Tr.tp 172 (fx_120_83 hS.1.1) ?_
        refine Tr.iconst (pc := 143) d_X12_works_143 (by decide) ?_
        refine Tr.lald (pc := 144) d_X12_works_144 (ty_172 hS.1.1) (by omega) (by omega) ?_
        refine Tr.gen (P := fun v => (-9223372036854775808) ≤ v ∧ v ≤ 9223372036854775807) (ar_172 hS.1.2.1 _) (fun r144 er144 br144 => ?_)
        exact Tr.lret (pc := 145) d_X12_works_145 rfl ⟨hS, _, rfl, by omega, by omega⟩
      · refine Tr.aload_n (pc := 37) (i := 0) d_X12_works_37 rfl rfl ?_
        refine Tr.getf (pc := 38) d_X12_works_38 f_12_115 (by decide) (by decide) (ty_120 hS.1.1) ?_
        refine Tr.tp 143 (fx_120_34 hS.1.1) ?_
        refine Tr.iload_n (pc := 41) (i := 3) d_X12_works_41 rfl rfl ?_
        refine Tr.iald (pc := 42) d_X12_works_42 (ty_143 hS.1.1) (by omega) (by omega) ?_
        refine Tr.gen (P := fun v => (-2147483648) ≤ v ∧ v ≤ 2147483647) (ar_143 hS.1.2.1 _) (fun r42 er42 br42 => ?_)
        have hw0 : rd M0 143 p18_3 = r42 := (St.ka hS (by decide) (by decide) (by decide)).symm.trans er42
        have hw1 := Bk1_wf hF_Bk1 (i := a1) (j := p18_3) (by omega) (by omega) (by omega) (by have h9 : rd M 141 a1 = rd M0 141 a1 := St.ka hS (by decide) (by decide) (by decide); omega)
        rw [hw0, ← t18_0.1] at hw1
        refine Tr.istore (pc := 43) (i := 4) (ls2 := [(4, (0, r42)), (0, (2, 120)), (1, (0, a1)), (2, (0, p18_2)), (3, (0, p18_3))]) d_X12_works_43 (by decide) rfl ?_
        refine Tr.iload (pc := 45) (i := 4) d_X12_works_45 rfl ?_
        refine Tr.iconst (pc := 47) d_X12_works_47 (by decide) ?_
        have J133 : ∀ (M : Mem) (p133_2 : Int), St Tru ws_X12_works_120_w1 as_X12_works_120_w1 M0 M → (1 ≤ p133_2 ∧ p133_2 ≤ 950) → rd M 136 1 = g136_1 → rd M 140 a1 = r15 → rd M 141 a1 = r32 → rd M 143 p18_3 = r42 → (p133_2 = dp M0 (900 + rd M0 140 a1) (p18_3 + 1 - (900 + rd M0 140 a1)).toNat ∧ 0 ≤ p133_2 ∧ p133_2 ≤ 900) → Tr l K 2 mX12_works 133 [(0, (2, 120)), (1, (0, a1)), (2, (0, p133_2)), (3, (0, p18_3))] [] M (q_X12_works_120_w1 M0) := by
          intro M p133_2 hS bp133_2 k133_136_1 k133_140_a110 k133_141_a110 k133_143_p18_310 tp133_0
          refine Tr.iincV (pc := 133) (n2 := (p18_3 + 1)) (ls2 := [(3, (0, (p18_3 + 1))), (0, (2, 120)), (1, (0, a1)), (2, (0, p133_2))]) d_X12_works_133 rfl (by decide) ((w32_id (by omega)).trans (by omega)) rfl ?_
          refine Tr.goto (pc := 136) (tgt := 18) d_X12_works_136 rfl ?_
          refine Tr.pick [1, 2, 3, 0] (ls2 := [(0, (2, 120)), (1, (0, a1)), (2, (0, p133_2)), (3, (0, (p18_3 + 1)))]) rfl ?_
          exact J18 _ _ _ hS (by omega) (by omega) k133_136_1 k133_140_a110 (by omega) (by omega) (by omega)
        refine Tr.icmp_gt (pc := 48) (tgt := 75) d_X12_works_48 rfl (fun c48 => ?_) (fun c48 => ?_)
        · refine Tr.iload (pc := 75) (i := 4) d_X12_works_75 rfl ?_
          refine Tr.bipush (pc := 77) d_X12_works_77 rfl (by decide) ?_
          refine Tr.icmp_ne (pc := 79) (tgt := 103) d_X12_works_79 rfl (fun c79 => ?_) (fun c79 => ?_)
          · refine Tr.iincV (pc := 103) (n2 := (p18_2 - 1)) (ls2 := [(2, (0, (p18_2 - 1))), (4, (0, r42)), (0, (2, 120)), (1, (0, a1)), (3, (0, p18_3))]) d_X12_works_103 rfl (by decide) ((w32_id (by omega)).trans (by omega)) rfl ?_
            refine Tr.aload_n (pc := 106) (i := 0) d_X12_works_106 rfl rfl ?_
            refine Tr.getf (pc := 107) d_X12_works_107 f_12_264 (by decide) (by decide) (ty_120 hS.1.1) ?_
            refine Tr.tp 172 (fx_120_83 hS.1.1) ?_
            refine Tr.iload_n (pc := 110) (i := 2) d_X12_works_110 rfl rfl ?_
            refine Tr.iconst (pc := 111) d_X12_works_111 (by decide) ?_
            refine Tr.isub (pc := 112) d_X12_works_112 ?_
            refine Tr.tp (p18_2 - 2) ((w32_id (by omega)).trans (by omega)) ?_
            refine Tr.iload (pc := 113) (i := 4) d_X12_works_113 rfl ?_
            refine Tr.aload_n (pc := 115) (i := 0) d_X12_works_115 rfl rfl ?_
            refine Tr.getf (pc := 116) d_X12_works_116 f_12_264 (by decide) (by decide) (ty_120 hS.1.1) ?_
            refine Tr.tp 172 (fx_120_83 hS.1.1) ?_
            refine Tr.iload_n (pc := 119) (i := 2) d_X12_works_119 rfl rfl ?_
            refine Tr.iconst (pc := 120) d_X12_works_120 (by decide) ?_
            refine Tr.isub (pc := 121) d_X12_works_121 ?_
            refine Tr.tp (p18_2 - 2) ((w32_id (by omega)).trans (by omega)) ?_
            refine Tr.lald (pc := 122) d_X12_works_122 (ty_172 hS.1.1) (by omega) (by omega) ?_
            refine Tr.gen (P := fun v => (-9223372036854775808) ≤ v ∧ v ≤ 9223372036854775807) (ar_172 hS.1.2.1 _) (fun r122 er122 br122 => ?_)
            refine Tr.aload_n (pc := 123) (i := 0) d_X12_works_123 rfl rfl ?_
            refine Tr.getf (pc := 124) d_X12_works_124 f_12_264 (by decide) (by decide) (ty_120 hS.1.1) ?_
            refine Tr.tp 172 (fx_120_83 hS.1.1) ?_
            refine Tr.iload_n (pc := 127) (i := 2) d_X12_works_127 rfl rfl ?_
            refine Tr.lald (pc := 128) d_X12_works_128 (ty_172 hS.1.1) (by omega) (by omega) ?_
            refine Tr.gen (P := fun v => (-9223372036854775808) ≤ v ∧ v ≤ 9223372036854775807) (ar_172 hS.1.2.1 _) (fun r128 er128 br128 => ?_)
            refine Tr.callS (pc := 129) (as := [_, _, _]) d_X12_works_129 s_12_610 ok_X12_joined rfl rfl (Nat.le_of_ble_eq_true rfl) (Nat.le_of_ble_eq_true rfl) ?_
            refine Tr.imp (Tr.deep (by decide) (sp_X12_joined hS.1 r42 (by omega) r122 (by omega) r128 (by omega))) ?_
            rintro M129 _ ⟨h129, r129, rfl, lr129, ur129⟩
            have hS := St.tr hS h129 (by decide) (by decide)
            refine Tr.sc [(1, r129), (0, (p18_2 - 2)), (2, 172)] rfl ?_
            refine Tr.lastS (pc := 132) (P := St Tru ws_X12_works_120_w1 as_X12_works_120_w1 M0) d_X12_works_132 (ty_172 hS.1.1) (by omega) (by omega) (sa_172 hS (by decide) (by omega) trivial) (fun M132 hS w132 => ?_)
            refine Tr.pick [2, 3, 0, 4] (ls2 := [(0, (2, 120)), (1, (0, a1)), (2, (0, (p18_2 - 1))), (3, (0, p18_3))]) rfl ?_
            exact J133 _ _ hS (by omega) ((Wr.b w132 rfl).trans ((St.kp h129 (by decide) (by decide) (by decide)).trans k18_136_1)) ((Wr.b w132 rfl).trans ((St.ka h129 (by decide) (by decide) (by decide)).trans k18_140_a110)) ((Wr.b w132 rfl).trans ((St.ka h129 (by decide) (by decide) (by decide)).trans er32)) ((Wr.b w132 rfl).trans ((St.ka h129 (by decide) (by decide) (by decide)).trans er42)) ((wk_b2 hw1 (by omega) (by omega)).2.2 (by omega) (by omega))
          · refine Tr.aload_n (pc := 82) (i := 0) d_X12_works_82 rfl rfl ?_
            refine Tr.getf (pc := 83) d_X12_works_83 f_12_264 (by decide) (by decide) (ty_120 hS.1.1) ?_
            refine Tr.tp 172 (fx_120_83 hS.1.1) ?_
            refine Tr.iload_n (pc := 86) (i := 2) d_X12_works_86 rfl rfl ?_
            refine Tr.iconst (pc := 87) d_X12_works_87 (by decide) ?_
            refine Tr.isub (pc := 88) d_X12_works_88 ?_
            refine Tr.tp (p18_2 - 1) ((w32_id (by omega)).trans (by omega)) ?_
            refine Tr.lconst (pc := 89) (v := 1) d_X12_works_89 rfl (by decide) ?_
            refine Tr.aload_n (pc := 90) (i := 0) d_X12_works_90 rfl rfl ?_
            refine Tr.getf (pc := 91) d_X12_works_91 f_12_264 (by decide) (by decide) (ty_120 hS.1.1) ?_
            refine Tr.tp 172 (fx_120_83 hS.1.1) ?_
            refine Tr.iload_n (pc := 94) (i := 2) d_X12_works_94 rfl rfl ?_
            refine Tr.iconst (pc := 95) d_X12_works_95 (by decide) ?_
            refine Tr.isub (pc := 96) d_X12_works_96 ?_
            refine Tr.tp (p18_2 - 1) ((w32_id (by omega)).trans (by omega)) ?_
            refine Tr.lald (pc := 97) d_X12_works_97 (ty_172 hS.1.1) (by omega) (by omega) ?_
            refine Tr.gen (P := fun v => (-9223372036854775808) ≤ v ∧ v ≤ 9223372036854775807) (ar_172 hS.1.2.1 _) (fun r97 er97 br97 => ?_)
            refine Tr.lsub (pc := 98) d_X12_works_98 ?_
            refine Tr.gen (P := fun v => (-9223372036854775808) ≤ v ∧ v ≤ 9223372036854775807) (w64_b _) (fun r98 er98 br98 => ?_)
            refine Tr.lastS (pc := 99) (P := St Tru ws_X12_works_120_w1 as_X12_works_120_w1 M0) d_X12_works_99 (ty_172 hS.1.1) (by omega) (by omega) (sa_172 hS (by decide) (by omega) trivial) (fun M99 hS w99 => ?_)
            refine Tr.goto (pc := 100) (tgt := 133) d_X12_works_100 rfl ?_
            refine Tr.pick [1, 2, 3, 4] (ls2 := [(0, (2, 120)), (1, (0, a1)), (2, (0, p18_2)), (3, (0, p18_3))]) rfl ?_
            exact J133 _ _ hS (by omega) ((Wr.b w99 rfl).trans k18_136_1) ((Wr.b w99 rfl).trans k18_140_a110) ((Wr.b w99 rfl).trans er32) ((Wr.b w99 rfl).trans er42) ((wk_b2 hw1 (by omega) (by omega)).2.1 (by omega))
        · refine Tr.aload_n (pc := 51) (i := 0) d_X12_works_51 rfl rfl ?_
          refine Tr.getf (pc := 52) d_X12_works_52 f_12_264 (by decide) (by decide) (ty_120 hS.1.1) ?_
          refine Tr.tp 172 (fx_120_83 hS.1.1) ?_
          refine Tr.iload_n (pc := 55) (i := 2) d_X12_works_55 rfl rfl ?_
          refine Tr.aload_n (pc := 56) (i := 0) d_X12_works_56 rfl rfl ?_
          refine Tr.iload (pc := 57) (i := 4) d_X12_works_57 rfl ?_
          refine Tr.aload_n (pc := 59) (i := 0) d_X12_works_59 rfl rfl ?_
          refine Tr.getf (pc := 60) d_X12_works_60 f_12_118 (by decide) (by decide) (ty_120 hS.1.1) ?_
          refine Tr.tp 144 (fx_120_35 hS.1.1) ?_
          refine Tr.iload_n (pc := 63) (i := 3) d_X12_works_63 rfl rfl ?_
          refine Tr.iald (pc := 64) d_X12_works_64 (ty_144 hS.1.1) (by omega) (by omega) ?_
          refine Tr.gen (P := fun v => ((-2147483648) ≤ v ∧ v ≤ 2147483647) ∧ ((r42 = 1 → 0 ≤ v ∧ v ≤ 2) ∧ (r42 = 2 ∨ r42 = 4 → 0 ≤ v ∧ v ≤ 5))) (by have h8 := gc_at hS.1.2.2 143 144 (by decide) er42; have h9 := (ar_144 hS.1.2.1 (p18_3)); exact ⟨h9, h8⟩) (fun r64 er64 br64 => ?_)
          refine Tr.callV (pc := 65) (as := [_, _]) d_X12_works_65 s_12_606 ok_X12_leaf rfl rfl (Nat.le_of_ble_eq_true rfl) (Nat.le_of_ble_eq_true rfl) (by decide) (ty_120 hS.1.1) ?_
          refine Tr.imp (Tr.deep (by decide) (sp_X12_leaf_120 hS.1 r42 (by omega) r64 (by omega) (by omega))) ?_
          rintro M65 _ ⟨h65, r65, rfl, lr65, ur65⟩
          have hS := St.tr hS h65 (by decide) (by decide)
          refine Tr.sc [(1, r65), (0, p18_2), (2, 172)] rfl ?_
          refine Tr.lastS (pc := 68) (P := St Tru ws_X12_works_120_w1 as_X12_works_120_w1 M0) d_X12_works_68 (ty_172 hS.1.1) (by omega) (by omega) (sa_172 hS (by decide) (by omega) trivial) (fun M68 hS w68 => ?_)
          refine Tr.iincV (pc := 69) (n2 := (p18_2 + 1)) (ls2 := [(2, (0, (p18_2 + 1))), (4, (0, r42)), (0, (2, 120)), (1, (0, a1)), (3, (0, p18_3))]) d_X12_works_69 rfl (by decide) ((w32_id (by omega)).trans (by omega)) rfl ?_
          refine Tr.goto (pc := 72) (tgt := 133) d_X12_works_72 rfl ?_
          refine Tr.pick [2, 3, 0, 4] (ls2 := [(0, (2, 120)), (1, (0, a1)), (2, (0, (p18_2 + 1))), (3, (0, p18_3))]) rfl ?_
          exact J133 _ _ hS (by omega) ((Wr.b w68 rfl).trans ((St.kp h65 (by decide) (by decide) (by decide)).trans k18_136_1)) ((Wr.b w68 rfl).trans ((St.ka h65 (by decide) (by decide) (by decide)).trans k18_140_a110)) ((Wr.b w68 rfl).trans ((St.ka h65 (by decide) (by decide) (by decide)).trans er32)) ((Wr.b w68 rfl).trans ((St.ka h65 (by decide) (by decide) (by decide)).trans er42)) ((wk_b2 hw1 (by omega) (by omega)).1 (by omega))
  refine Tr.pick [2, 3, 1, 0] (ls2 := [(0, (2, 120)), (1, (0, a1)), (2, (0, 0)), (3, (0, (r15 + 900)))]) rfl ?_
  have hd0 : dp M0 (900 + rd M0 140 a1) ((r15 + 900) - (900 + rd M0 140 a1)).toNat = 0 := by rw [show ((r15 + 900) - (900 + rd M0 140 a1)).toNat = 0 by omega]; rfl
  exact J18 _ _ _ _ hS (by omega) (by omega) eg136_1 er15 (by omega) (by omega) (Nat.lt_succ_self _)

def ws_X12_ticksOf_120_w1 : List (Int × Int) := [(120, 59), (120, 61), (120, 62), (120, 63), (120, 68), (120, 75)]
def as_X12_ticksOf_120_w1 : List Int := [158, 159, 161, 162, 163, 164, 165, 166, 167, 168]
def q_X12_ticksOf_120_w1 (a1 : Int) (a2 : Int) (a3 : Int) (a4 : Int) (a5 : Int) (a6 : Int) (M0 M' : Mem) (r : Option PV) : Prop := St Tb1 ws_X12_ticksOf_120_w1 as_X12_ticksOf_120_w1 M0 M' ∧ ∃ v : Int, r = some (0, v) ∧ 0 ≤ v ∧ v ≤ 1 ∧ (rd M0 120 62 ≤ rd M' 120 62 ∧ rd M' 120 62 ≤ 2000) ∧ (v = 1 ∨ 1 ≤ rd M' 120 68) ∧ (rd M' 120 75 = rd M0 120 75 ∨ (rd M' 120 75 = rd M0 120 75 + 1 ∧ a5 = 1 ∧ 1 ≤ a3)) ∧ (rd M' 120 59 = -1)
set_option maxRecDepth 100000 in
set_option maxHeartbeats 4000000 in
theorem sp_X12_ticksOf_120_w1 {l : Launch} {K : EC} {M0 : Mem} (hI : In Tb1 M0) (en_120_12 : rd M0 120 12 = 1) (a1 : Int) (ha1 : (-1) ≤ a1 ∧ a1 ≤ 5) (a2 : Int) (ha2 : 0 ≤ a2 ∧ a2 ≤ 3) (a3 : Int) (ha3 : (-2147483648) ≤ a3 ∧ a3 ≤ 2147483647) (a4 : Int) (ha4 : 0 ≤ a4 ∧ a4 ≤ 59) (a5 : Int) (ha5 : 0 ≤ a5 ∧ a5 ≤ 1) (a6 : Int) (ha6 : (-2147483648) ≤ a6 ∧ a6 ≤ 2147483647)  (hq0 : rd M0 120 62 ≤ 2000) (hq1 : rd M0 120 75 ≤ 2000) (hq2 : a2 ≠ 2) (hq3 : a5 = 0 ∨ 0 ≤ a1) (hF_Bk1 : Bk1 M0) : Tr l K 4 mX12_ticksOf 0 [(0, (2, 120)), (1, (0, a1)), (2, (0, a2)), (3, (0, a3)), (4, (0, a4)), (5, (0, a5)), (6, (0, a6))] [] M0 (q_X12_ticksOf_120_w1 a1 a2 a3 a4 a5 a6 M0) := by
  have hS : St Tb1 ws_X12_ticksOf_120_w1 as_X12_ticksOf_120_w1 M0 M0 := St.rf hI
  obtain ⟨g120_62, eg120_62⟩ : ∃ v, rd M0 120 62 = v := ⟨_, rfl⟩
  have bg120_62 : 0 ≤ g120_62 ∧ g120_62 ≤ 2060 := by rw [← eg120_62]; exact ir_120_62 hI.2.1
  obtain ⟨g120_68, eg120_68⟩ : ∃ v, rd M0 120 68 = v := ⟨_, rfl⟩
  have bg120_68 : 0 ≤ g120_68 ∧ g120_68 ≤ 2 := by rw [← eg120_68]; exact ir_120_68 hI.2.1
  obtain ⟨g120_75, eg120_75⟩ : ∃ v, rd M0 120 75 = v := ⟨_, rfl⟩
  have bg120_75 : 0 ≤ g120_75 ∧ g120_75 ≤ 2100 := by rw [← eg120_75]; exact ir_120_75 hI.2.1
  obtain ⟨g120_61, eg120_61⟩ : ∃ v, rd M0 120 61 = v := ⟨_, rfl⟩
  have bg120_61 : 0 ≤ g120_61 ∧ g120_61 ≤ 3 := by rw [← eg120_61]; exact ir_120_61 hI.2.1
  refine Tr.aload_n (pc := 0) (i := 0) d_X12_ticksOf_0 rfl rfl ?_
  refine Tr.iload_n (pc := 1) (i := 1) d_X12_ticksOf_1 rfl rfl ?_
  refine Tr.putfS (pc := 2) (P := St Tb1 ws_X12_ticksOf_120_w1 as_X12_ticksOf_120_w1 M0) d_X12_ticksOf_2 f_12_192 (by decide) (by decide) (ty_120 hS.1.1) (st_120_59 hS (by decide) (by omega) (Tb1.of hS.1.2.2.2.2 (fun _ => rd_wb _ rfl) (rd_wb _ rfl))) (fun M2 hS w2 => ?_)
  refine Tr.aload_n (pc := 5) (i := 0) d_X12_ticksOf_5 rfl rfl ?_
  refine Tr.iload_n (pc := 6) (i := 2) d_X12_ticksOf_6 rfl rfl ?_
  refine Tr.putfS (pc := 7) (P := St Tb1 ws_X12_ticksOf_120_w1 as_X12_ticksOf_120_w1 M0) d_X12_ticksOf_7 f_12_198 (by decide) (by decide) (ty_120 hS.1.1) (st_120_61 hS (by decide) (by omega) (Tb1.of hS.1.2.2.2.2 (fun _ => rd_wb _ rfl) (rd_wb _ rfl))) (fun M7 hS w7 => ?_)
  refine Tr.iconst (pc := 10) d_X12_ticksOf_10 (by decide) ?_
  refine Tr.istore (pc := 11) (i := 7) (ls2 := [(7, (0, 1)), (0, (2, 120)), (1, (0, a1)), (2, (0, a2)), (3, (0, a3)), (4, (0, a4)), (5, (0, a5)), (6, (0, a6))]) d_X12_ticksOf_11 (by decide) rfl ?_
  refine Tr.iconst (pc := 13) d_X12_ticksOf_13 (by decide) ?_
  refine Tr.istore (pc := 14) (i := 8) (ls2 := [(8, (0, 0)), (7, (0, 1)), (0, (2, 120)), (1, (0, a1)), (2, (0, a2)), (3, (0, a3)), (4, (0, a4)), (5, (0, a5)), (6, (0, a6))]) d_X12_ticksOf_14 (by decide) rfl ?_
  have J16 : ∀ (n16 : Nat) (M : Mem) (p16_7 p16_8 u16_120_62 u16_120_68 u16_120_75 : Int), St Tb1 ws_X12_ticksOf_120_w1 as_X12_ticksOf_120_w1 M0 M → (0 ≤ p16_7 ∧ p16_7 ≤ 1) → (0 ≤ p16_8 ∧ p16_8 ≤ 2147483647) → (0 ≤ u16_120_62 ∧ u16_120_62 ≤ 2060) → (0 ≤ u16_120_68 ∧ u16_120_68 ≤ 2) → (0 ≤ u16_120_75 ∧ u16_120_75 ≤ 2100) → rd M 120 59 = a1 → rd M 120 61 = a2 → rd M 120 62 = u16_120_62 → rd M 120 68 = u16_120_68 → rd M 120 75 = u16_120_75 → (a2 ≠ 2) → (g120_62 ≤ u16_120_62 ∧ u16_120_62 ≤ 2000) → (p16_7 = 1 ∨ 1 ≤ u16_120_68) → (u16_120_75 = g120_75 ∨ (u16_120_75 = g120_75 + 1 ∧ a5 = 1 ∧ 1 ≤ a3)) → ((0 ≤ p16_8 ∧ u16_120_75 = g120_75) ∨ 1 ≤ p16_8) → (2147483647 - p16_8).toNat < n16 → Tr l K 4 mX12_ticksOf 16 [(0, (2, 120)), (1, (0, a1)), (3, (0, a3)), (4, (0, a4)), (5, (0, a5)), (6, (0, a6)), (7, (0, p16_7)), (8, (0, p16_8))] [] M (q_X12_ticksOf_120_w1 a1 a2 a3 a4 a5 a6 M0) := by
    intro n16
    induction n16 with
    | zero => intro M p16_7 p16_8 u16_120_62 u16_120_68 u16_120_75 hS bp16_7 bp16_8 bu16_120_62 bu16_120_68 bu16_120_75 k16_120_59 k16_120_61 k16_120_62 k16_120_68 k16_120_75 t16_0 t16_1 t16_2 t16_3 t16_4 hm16; exact absurd hm16 (Nat.not_lt_zero _)
    | succ n16 J16 =>
      intro M p16_7 p16_8 u16_120_62 u16_120_68 u16_120_75 hS bp16_7 bp16_8 bu16_120_62 bu16_120_68 bu16_120_75 k16_120_59 k16_120_61 k16_120_62 k16_120_68 k16_120_75 t16_0 t16_1 t16_2 t16_3 t16_4 hm16
      refine Tr.iload (pc := 16) (i := 8) d_X12_ticksOf_16 rfl ?_
      refine Tr.iload_n (pc := 18) (i := 3) d_X12_ticksOf_18 rfl rfl ?_
      refine Tr.icmp_ge (pc := 19) (tgt := 65) d_X12_ticksOf_19 rfl (fun c19 => ?_) (fun c19 => ?_)
      · refine Tr.aload_n (pc := 65) (i := 0) d_X12_ticksOf_65 rfl rfl ?_
        refine Tr.iconst (pc := 66) d_X12_ticksOf_66 (by decide) ?_
        refine Tr.putfS (pc := 67) (P := St Tb1 ws_X12_ticksOf_120_w1 as_X12_ticksOf_120_w1 M0) d_X12_ticksOf_67 f_12_192 (by decide) (by decide) (ty_120 hS.1.1) (st_120_59 hS (by decide) (by omega) (Tb1.of hS.1.2.2.2.2 (fun _ => rd_wb _ rfl) (rd_wb _ rfl))) (fun M67 hS w67 => ?_)
        refine Tr.iload (pc := 70) (i := 7) d_X12_ticksOf_70 rfl ?_
        have kr_120_59 : rd M67 120 59 = (-1) := w67.1
        have kr_120_62 : rd M67 120 62 = u16_120_62 := ((Wr.b w67 rfl).trans k16_120_62)
        have kr_120_68 : rd M67 120 68 = u16_120_68 := ((Wr.b w67 rfl).trans k16_120_68)
        have kr_120_75 : rd M67 120 75 = u16_120_75 := ((Wr.b w67 rfl).trans k16_120_75)
        exact Tr.zret (pc := 72) d_X12_ticksOf_72 rfl (by omega) ⟨hS, _, rfl, by omega, by omega, by omega, by omega, by omega, by omega⟩
      · refine Tr.iload (pc := 22) (i := 7) d_X12_ticksOf_22 rfl ?_
        refine Tr.if_eq (pc := 24) (tgt := 65) d_X12_ticksOf_24 rfl (fun c24 => ?_) (fun c24 => ?_)
        · refine Tr.aload_n (pc := 65) (i := 0) d_X12_ticksOf_65 rfl rfl ?_
          refine Tr.iconst (pc := 66) d_X12_ticksOf_66 (by decide) ?_
          refine Tr.putfS (pc := 67) (P := St Tb1 ws_X12_ticksOf_120_w1 as_X12_ticksOf_120_w1 M0) d_X12_ticksOf_67 f_12_192 (by decide) (by decide) (ty_120 hS.1.1) (st_120_59 hS (by decide) (by omega) (Tb1.of hS.1.2.2.2.2 (fun _ => rd_wb _ rfl) (rd_wb _ rfl))) (fun M67 hS w67 => ?_)
          refine Tr.iload (pc := 70) (i := 7) d_X12_ticksOf_70 rfl ?_
          have kr_120_59 : rd M67 120 59 = (-1) := w67.1
          have kr_120_62 : rd M67 120 62 = u16_120_62 := ((Wr.b w67 rfl).trans k16_120_62)
          have kr_120_68 : rd M67 120 68 = u16_120_68 := ((Wr.b w67 rfl).trans k16_120_68)
          have kr_120_75 : rd M67 120 75 = u16_120_75 := ((Wr.b w67 rfl).trans k16_120_75)
          exact Tr.zret (pc := 72) d_X12_ticksOf_72 rfl (by omega) ⟨hS, _, rfl, by omega, by omega, by omega, by omega, by omega, by omega⟩
        · refine Tr.aload_n (pc := 27) (i := 0) d_X12_ticksOf_27 rfl rfl ?_
          refine Tr.iload (pc := 28) (i := 4) d_X12_ticksOf_28 rfl ?_
          refine Tr.callV (pc := 30) (as := [_]) d_X12_ticksOf_30 s_12_577 ok_X12_tick rfl rfl (Nat.le_of_ble_eq_true rfl) (Nat.le_of_ble_eq_true rfl) (by decide) (ty_120 hS.1.1) ?_
          have kb30_120_59 : rd M 120 59 = a1 := k16_120_59
          have kb30_120_61 : rd M 120 61 = a2 := k16_120_61
          have kb30_120_62 : rd M 120 62 = u16_120_62 := k16_120_62
          have kb30_120_68 : rd M 120 68 = u16_120_68 := k16_120_68
          refine Tr.imp (Tr.deep (by decide) (sp_X12_tick_120_w2 hS.1 ((St.kp hS (by decide) (by decide) (by decide)).trans en_120_12) a4 (by omega) (by omega) (by omega) (Bk1.of hF_Bk1 (fun j => (St.ka hS (by decide) (by decide) (by decide))) (fun j => (St.ka hS (by decide) (by decide) (by decide))) (fun j => (St.ka hS (by decide) (by decide) (by decide))) (fun j => (St.ka hS (by decide) (by decide) (by decide))) (fun j => (St.ka hS (by decide) (by decide) (by decide))) (fun j => (St.ka hS (by decide) (by decide) (by decide))) (fun j => (St.ka hS (by decide) (by decide) (by decide))) (fun j => (St.ka hS (by decide) (by decide) (by decide))) (St.kp hS (by decide) (by decide) (by decide)) (St.kp hS (by decide) (by decide) (by decide)) (St.kp hS (by decide) (by decide) (by decide)) (St.kp hS (by decide) (by decide) (by decide))))) ?_
          rintro M30 _ ⟨h30, r30, rfl, lr30, ur30, z30_0, z30_1, z30_2⟩
          have hS := St.tr hS h30 (by decide) (by decide)
          have ka30_120_59 : rd M30 120 59 = a1 := ((St.kp h30 (by decide) (by decide) (by decide)).trans k16_120_59)
          obtain ⟨s30_120_62, es30_120_62⟩ : ∃ v, rd M30 120 62 = v := ⟨_, rfl⟩
          have bs30_120_62 : 0 ≤ s30_120_62 ∧ s30_120_62 ≤ 2060 := by rw [← es30_120_62]; exact ir_120_62 hS.1.2.1
          obtain ⟨s30_120_68, es30_120_68⟩ : ∃ v, rd M30 120 68 = v := ⟨_, rfl⟩
          have bs30_120_68 : 0 ≤ s30_120_68 ∧ s30_120_68 ≤ 2 := by rw [← es30_120_68]; exact ir_120_68 hS.1.2.1
          refine Tr.sc [(0, r30)] rfl ?_
          refine Tr.istore (pc := 33) (i := 7) (ls2 := [(7, (0, r30)), (0, (2, 120)), (1, (0, a1)), (3, (0, a3)), (4, (0, a4)), (5, (0, a5)), (6, (0, a6)), (8, (0, p16_8))]) d_X12_ticksOf_33 (by decide) rfl ?_
          refine Tr.iload (pc := 35) (i := 7) d_X12_ticksOf_35 rfl ?_
          have J59 : ∀ (M : Mem) (u59_120_75 : Int), St Tb1 ws_X12_ticksOf_120_w1 as_X12_ticksOf_120_w1 M0 M → (0 ≤ u59_120_75 ∧ u59_120_75 ≤ 2100) → rd M 120 59 = a1 → rd M 120 61 = a2 → rd M 120 62 = s30_120_62 → rd M 120 68 = s30_120_68 → rd M 120 75 = u59_120_75 → (a2 ≠ 2) → (g120_62 ≤ s30_120_62 ∧ s30_120_62 ≤ 2000) → (r30 = 1 ∨ 1 ≤ s30_120_68) → (u59_120_75 = g120_75 ∨ (u59_120_75 = g120_75 + 1 ∧ a5 = 1 ∧ 1 ≤ a3)) → (0 ≤ p16_8) → Tr l K 4 mX12_ticksOf 59 [(0, (2, 120)), (1, (0, a1)), (3, (0, a3)), (4, (0, a4)), (5, (0, a5)), (6, (0, a6)), (7, (0, r30)), (8, (0, p16_8))] [] M (q_X12_ticksOf_120_w1 a1 a2 a3 a4 a5 a6 M0) := by
            intro M u59_120_75 hS bu59_120_75 k59_120_59 k59_120_61 k59_120_62 k59_120_68 k59_120_75 t59_0 t59_1 t59_2 t59_3 t59_4
            refine Tr.iincV (pc := 59) (n2 := (p16_8 + 1)) (ls2 := [(8, (0, (p16_8 + 1))), (0, (2, 120)), (1, (0, a1)), (3, (0, a3)), (4, (0, a4)), (5, (0, a5)), (6, (0, a6)), (7, (0, r30))]) d_X12_ticksOf_59 rfl (by decide) ((w32_id (by omega)).trans (by omega)) rfl ?_
            refine Tr.goto (pc := 62) (tgt := 16) d_X12_ticksOf_62 rfl ?_
            refine Tr.pick [1, 2, 3, 4, 5, 6, 7, 0] (ls2 := [(0, (2, 120)), (1, (0, a1)), (3, (0, a3)), (4, (0, a4)), (5, (0, a5)), (6, (0, a6)), (7, (0, r30)), (8, (0, (p16_8 + 1)))]) rfl ?_
            exact J16 _ _ _ _ _ _ hS (by omega) (by omega) (by omega) (by omega) (by omega) k59_120_59 k59_120_61 k59_120_62 k59_120_68 k59_120_75 (by omega) (by omega) (by first | assumption | omega) (by first | assumption | omega) (by first | assumption | omega) (by omega)
          refine Tr.if_eq (pc := 37) (tgt := 59) d_X12_ticksOf_37 rfl (fun c37 => ?_) (fun c37 => ?_)
          · refine Tr.pick [1, 2, 3, 4, 5, 6, 0, 7] (ls2 := [(0, (2, 120)), (1, (0, a1)), (3, (0, a3)), (4, (0, a4)), (5, (0, a5)), (6, (0, a6)), (7, (0, r30)), (8, (0, p16_8))]) rfl ?_
            exact J59 _ _ hS (by omega) ((St.kp h30 (by decide) (by decide) (by decide)).trans k16_120_59) ((St.kp h30 (by decide) (by decide) (by decide)).trans k16_120_61) es30_120_62 es30_120_68 ((St.kp h30 (by decide) (by decide) (by decide)).trans k16_120_75) (by omega) (by omega) (by first | assumption | omega) (by first | assumption | omega) (by omega)
          · refine Tr.iload (pc := 40) (i := 5) d_X12_ticksOf_40 rfl ?_
            refine Tr.if_eq (pc := 42) (tgt := 59) d_X12_ticksOf_42 rfl (fun c42 => ?_) (fun c42 => ?_)
            · refine Tr.pick [1, 2, 3, 4, 5, 6, 0, 7] (ls2 := [(0, (2, 120)), (1, (0, a1)), (3, (0, a3)), (4, (0, a4)), (5, (0, a5)), (6, (0, a6)), (7, (0, r30)), (8, (0, p16_8))]) rfl ?_
              exact J59 _ _ hS (by omega) ((St.kp h30 (by decide) (by decide) (by decide)).trans k16_120_59) ((St.kp h30 (by decide) (by decide) (by decide)).trans k16_120_61) es30_120_62 es30_120_68 ((St.kp h30 (by decide) (by decide) (by decide)).trans k16_120_75) (by omega) (by omega) (by first | assumption | omega) (by first | assumption | omega) (by omega)
            · refine Tr.iload (pc := 45) (i := 8) d_X12_ticksOf_45 rfl ?_
              refine Tr.if_ne (pc := 47) (tgt := 59) d_X12_ticksOf_47 rfl (fun c47 => ?_) (fun c47 => ?_)
              · refine Tr.pick [1, 2, 3, 4, 5, 6, 0, 7] (ls2 := [(0, (2, 120)), (1, (0, a1)), (3, (0, a3)), (4, (0, a4)), (5, (0, a5)), (6, (0, a6)), (7, (0, r30)), (8, (0, p16_8))]) rfl ?_
                exact J59 _ _ hS (by omega) ((St.kp h30 (by decide) (by decide) (by decide)).trans k16_120_59) ((St.kp h30 (by decide) (by decide) (by decide)).trans k16_120_61) es30_120_62 es30_120_68 ((St.kp h30 (by decide) (by decide) (by decide)).trans k16_120_75) (by omega) (by omega) (by first | assumption | omega) (by first | assumption | omega) (by omega)
              · refine Tr.aload_n (pc := 50) (i := 0) d_X12_ticksOf_50 rfl rfl ?_
                refine Tr.iload_n (pc := 51) (i := 1) d_X12_ticksOf_51 rfl rfl ?_
                refine Tr.iload (pc := 52) (i := 4) d_X12_ticksOf_52 rfl ?_
                refine Tr.iload (pc := 54) (i := 6) d_X12_ticksOf_54 rfl ?_
                refine Tr.callV (pc := 56) (as := [_, _, _]) d_X12_ticksOf_56 s_12_580 ok_X12_acts rfl rfl (Nat.le_of_ble_eq_true rfl) (Nat.le_of_ble_eq_true rfl) (by decide) (ty_120 hS.1.1) ?_
                have kb56_120_75 : rd M30 120 75 = u16_120_75 := ((St.kp h30 (by decide) (by decide) (by decide)).trans k16_120_75)
                refine Tr.imp (Tr.deep (by decide) (sp_X12_acts_120 hS.1.wk a1 (by omega) a4 (by omega) a6 (by omega) (by omega))) ?_
                rintro M56 _ ⟨h56, rfl, z56_0⟩
                have h56 := St.rn h56 (Tb1.of hS.1.2.2.2.2 (fun _ => (St.ka h56 (by decide) (by decide) (by decide))) (St.kp h56 (by decide) (by decide) (by decide)))
                have hS := St.tr hS h56 (by decide) (by decide)
                obtain ⟨s56_120_75, es56_120_75⟩ : ∃ v, rd M56 120 75 = v := ⟨_, rfl⟩
                have bs56_120_75 : 0 ≤ s56_120_75 ∧ s56_120_75 ≤ 2100 := by rw [← es56_120_75]; exact ir_120_75 hS.1.2.1
                refine Tr.sc [] rfl ?_
                refine Tr.pick [1, 2, 3, 4, 5, 6, 0, 7] (ls2 := [(0, (2, 120)), (1, (0, a1)), (3, (0, a3)), (4, (0, a4)), (5, (0, a5)), (6, (0, a6)), (7, (0, r30)), (8, (0, p16_8))]) rfl ?_
                exact J59 _ _ hS (by omega) ((St.kp h56 (by decide) (by decide) (by decide)).trans ((St.kp h30 (by decide) (by decide) (by decide)).trans k16_120_59)) ((St.kp h56 (by decide) (by decide) (by decide)).trans ((St.kp h30 (by decide) (by decide) (by decide)).trans k16_120_61)) ((St.kp h56 (by decide) (by decide) (by decide)).trans es30_120_62) ((St.kp h56 (by decide) (by decide) (by decide)).trans es30_120_68) es56_120_75 (by omega) (by omega) (by first | assumption | omega) (by first | assumption | omega) (by omega)
  refine Tr.pick [2, 3, 5, 6, 7, 8, 1, 0] (ls2 := [(0, (2, 120)), (1, (0, a1)), (3, (0, a3)), (4, (0, a4)), (5, (0, a5)), (6, (0, a6)), (7, (0, 1)), (8, (0, 0))]) rfl ?_
  exact J16 _ _ _ _ _ _ _ hS (by omega) (by omega) (by omega) (by omega) (by omega) ((Wr.b w7 rfl).trans w2.1) w7.1 ((Wr.b w7 rfl).trans ((Wr.b w2 rfl).trans eg120_62)) ((Wr.b w7 rfl).trans ((Wr.b w2 rfl).trans eg120_68)) ((Wr.b w7 rfl).trans ((Wr.b w2 rfl).trans eg120_75)) (by omega) (by omega) (by first | assumption | omega) (by first | assumption | omega) (by first | assumption | omega) (Nat.lt_succ_self _)

def ws_X12_touches_120_w1 : List (Int × Int) := [(120, 59), (120, 61), (120, 62), (120, 63), (120, 65), (120, 66), (120, 68), (120, 75)]
def as_X12_touches_120_w1 : List Int := [158, 159, 160, 161, 162, 163, 164, 165, 166, 167, 168]
def q_X12_touches_120_w1 (a1 : Int) (a2 : Int) (M0 M' : Mem) (r : Option PV) : Prop := St Tb1 ws_X12_touches_120_w1 as_X12_touches_120_w1 M0 M' ∧ ∃ v : Int, r = some (0, v) ∧ 0 ≤ v ∧ v ≤ 1 ∧ (rd M' 120 75 ≤ rd M' 120 62) ∧ (rd M0 120 62 ≤ rd M' 120 62 ∧ rd M' 120 62 ≤ 2000) ∧ (v = 1 ∨ 1 ≤ rd M' 120 68) ∧ (rd M' 120 59 = -1)
set_option maxRecDepth 100000 in
set_option maxHeartbeats 4000000 in
theorem sp_X12_touches_120_w1 {l : Launch} {K : EC} {M0 : Mem} (hI : In Tb1 M0) (en_120_12 : rd M0 120 12 = 1) (a1 : Int) (ha1 : 0 ≤ a1 ∧ a1 ≤ 999) (a2 : Int) (ha2 : 0 ≤ a2 ∧ a2 ≤ 59)  (hq0 : rd M0 120 75 + 1 ≤ rd M0 120 62) (hq1 : rd M0 120 62 ≤ 2000) (hq2 : rd M0 120 59 = -1) (hF_Bk1 : Bk1 M0) : Tr l K 5 mX12_touches 0 [(0, (2, 120)), (1, (0, a1)), (2, (0, a2))] [] M0 (q_X12_touches_120_w1 a1 a2 M0) := by
  have hS : St Tb1 ws_X12_touches_120_w1 as_X12_touches_120_w1 M0 M0 := St.rf hI
  obtain ⟨g120_62, eg120_62⟩ : ∃ v, rd M0 120 62 = v := ⟨_, rfl⟩
  have bg120_62 : 0 ≤ g120_62 ∧ g120_62 ≤ 2060 := by rw [← eg120_62]; exact ir_120_62 hI.2.1
  obtain ⟨g120_68, eg120_68⟩ : ∃ v, rd M0 120 68 = v := ⟨_, rfl⟩
  have bg120_68 : 0 ≤ g120_68 ∧ g120_68 ≤ 2 := by rw [← eg120_68]; exact ir_120_68 hI.2.1
  obtain ⟨g120_75, eg120_75⟩ : ∃ v, rd M0 120 75 = v := ⟨_, rfl⟩
  have bg120_75 : 0 ≤ g120_75 ∧ g120_75 ≤ 2100 := by rw [← eg120_75]; exact ir_120_75 hI.2.1
  obtain ⟨g120_59, eg120_59⟩ : ∃ v, rd M0 120 59 = v := ⟨_, rfl⟩
  have bg120_59 : (-1) ≤ g120_59 ∧ g120_59 ≤ 5 := by rw [← eg120_59]; exact ir_120_59 hI.2.1
  obtain ⟨g123_1, eg123_1⟩ : ∃ v, rd M0 123 1 = v := ⟨_, rfl⟩
  have bg123_1 : (-2147483648) ≤ g123_1 ∧ g123_1 ≤ 2147483647 := by rw [← eg123_1]; exact ir_123_1 hI.2.1
  obtain ⟨g124_1, eg124_1⟩ : ∃ v, rd M0 124 1 = v := ⟨_, rfl⟩
  have bg124_1 : (-2147483648) ≤ g124_1 ∧ g124_1 ≤ 2147483647 := by rw [← eg124_1]; exact ir_124_1 hI.2.1
  refine Tr.aload_n (pc := 0) (i := 0) d_X12_touches_0 rfl rfl ?_
  refine Tr.dup (pc := 1) d_X12_touches_1 ne21 ?_
  refine Tr.getf (pc := 2) d_X12_touches_2 f_12_213 (by decide) (by decide) (ty_120 hS.1.1) ?_
  refine Tr.gen (P := fun v => (-2147483648) ≤ v ∧ v ≤ 2147483647) (ir_120_66 hS.1.2.1) (fun r2 er2 br2 => ?_)
  refine Tr.iconst (pc := 5) d_X12_touches_5 (by decide) ?_
  refine Tr.iadd (pc := 6) d_X12_touches_6 ?_
  refine Tr.gen (P := fun v => (-2147483648) ≤ v ∧ v ≤ 2147483647) (w32_b _) (fun r6 er6 br6 => ?_)
  refine Tr.putfS (pc := 7) (P := St Tb1 ws_X12_touches_120_w1 as_X12_touches_120_w1 M0) d_X12_touches_7 f_12_213 (by decide) (by decide) (ty_120 hS.1.1) (st_120_66 hS (by decide) (by omega) (Tb1.of hS.1.2.2.2.2 (fun _ => rd_wb _ rfl) (rd_wb _ rfl))) (fun M7 hS w7 => ?_)
  refine Tr.iload_n (pc := 10) (i := 1) d_X12_touches_10 rfl rfl ?_
  refine Tr.aload_n (pc := 11) (i := 0) d_X12_touches_11 rfl rfl ?_
  refine Tr.getf (pc := 12) d_X12_touches_12 f_12_57 (by decide) (by decide) (ty_120 hS.1.1) ?_
  refine Tr.tp 124 (fx_120_15 hS.1.1) ?_
  refine Tr.aload_n (pc := 15) (i := 0) d_X12_touches_15 rfl rfl ?_
  refine Tr.getf (pc := 16) d_X12_touches_16 f_12_48 (by decide) (by decide) (ty_120 hS.1.1) ?_
  refine Tr.tp 1 ((St.kp hS (by decide) (by decide) (by decide)).trans en_120_12) ?_
  refine Tr.iald (pc := 19) d_X12_touches_19 (ty_124 hS.1.1) (by omega) (by omega) ?_
  refine Tr.tp g124_1 ((Wr.b w7 rfl).trans eg124_1) ?_
  have ksw_123_1 : rd M7 123 1 = g123_1 := ((Wr.b w7 rfl).trans eg123_1)
  have ksw_124_1 : rd M7 124 1 = g124_1 := ((Wr.b w7 rfl).trans eg124_1)
  have hsw := (Bk1.of hF_Bk1 (fun j => (St.ka hS (by decide) (by decide) (by decide))) (fun j => (St.ka hS (by decide) (by decide) (by decide))) (fun j => (St.ka hS (by decide) (by decide) (by decide))) (fun j => (St.ka hS (by decide) (by decide) (by decide))) (fun j => (St.ka hS (by decide) (by decide) (by decide))) (fun j => (St.ka hS (by decide) (by decide) (by decide))) (fun j => (St.ka hS (by decide) (by decide) (by decide))) (fun j => (St.ka hS (by decide) (by decide) (by decide))) (St.kp hS (by decide) (by decide) (by decide)) (St.kp hS (by decide) (by decide) (by decide)) (St.kp hS (by decide) (by decide) (by decide)) (St.kp hS (by decide) (by decide) (by decide))).2.2.2.2.1
  refine Tr.idiv (pc := 20) d_X12_touches_20 (by omega) ?_
  refine Tr.gen (P := fun v => 0 ≤ v ∧ v ≤ 999) (div32_p (A := 999) (by omega) (by omega) (by omega) (by omega)) (fun r20 er20 br20 => ?_)
  refine Tr.istore_n (pc := 21) (i := 3) (ls2 := [(3, (0, r20)), (0, (2, 120)), (1, (0, a1)), (2, (0, a2))]) d_X12_touches_21 rfl (by decide) rfl ?_
  refine Tr.iload_n (pc := 22) (i := 3) d_X12_touches_22 rfl rfl ?_
  refine Tr.aload_n (pc := 23) (i := 0) d_X12_touches_23 rfl rfl ?_
  refine Tr.getf (pc := 24) d_X12_touches_24 f_12_54 (by decide) (by decide) (ty_120 hS.1.1) ?_
  refine Tr.tp 123 (fx_120_14 hS.1.1) ?_
  refine Tr.aload_n (pc := 27) (i := 0) d_X12_touches_27 rfl rfl ?_
  refine Tr.getf (pc := 28) d_X12_touches_28 f_12_48 (by decide) (by decide) (ty_120 hS.1.1) ?_
  refine Tr.tp 1 ((St.kp hS (by decide) (by decide) (by decide)).trans en_120_12) ?_
  refine Tr.iald (pc := 31) d_X12_touches_31 (ty_123 hS.1.1) (by omega) (by omega) ?_
  refine Tr.tp g123_1 ((Wr.b w7 rfl).trans eg123_1) ?_
  refine Tr.irem (pc := 32) d_X12_touches_32 (by omega) ?_
  refine Tr.gen (P := fun v => 0 ≤ v ∧ v ≤ 7) (rem_p (A := 7) (by omega) (by omega) (Or.inr (by omega))) (fun r32 er32 br32 => ?_)
  refine Tr.istore (pc := 33) (i := 4) (ls2 := [(4, (0, r32)), (3, (0, r20)), (0, (2, 120)), (1, (0, a1)), (2, (0, a2))]) d_X12_touches_33 (by decide) rfl ?_
  refine Tr.aload_n (pc := 35) (i := 0) d_X12_touches_35 rfl rfl ?_
  refine Tr.getf (pc := 36) d_X12_touches_36 f_12_189 (by decide) (by decide) (ty_120 hS.1.1) ?_
  refine Tr.tp 160 (fx_120_58 hS.1.1) ?_
  refine Tr.iload (pc := 39) (i := 4) d_X12_touches_39 rfl ?_
  refine Tr.iald (pc := 41) d_X12_touches_41 (ty_160 hS.1.1) (by omega) (by omega) ?_
  refine Tr.gen (P := fun v => (-2147483648) ≤ v ∧ v ≤ 2147483647) (ar_160 hS.1.2.1 _) (fun r41 er41 br41 => ?_)
  refine Tr.iload_n (pc := 42) (i := 3) d_X12_touches_42 rfl rfl ?_
  refine Tr.icmp_ne (pc := 43) (tgt := 48) d_X12_touches_43 rfl (fun c43 => ?_) (fun c43 => ?_)
  · refine Tr.aload_n (pc := 48) (i := 0) d_X12_touches_48 rfl rfl ?_
    refine Tr.dup (pc := 49) d_X12_touches_49 ne21 ?_
    refine Tr.getf (pc := 50) d_X12_touches_50 f_12_210 (by decide) (by decide) (ty_120 hS.1.1) ?_
    refine Tr.gen (P := fun v => (-2147483648) ≤ v ∧ v ≤ 2147483647) (ir_120_65 hS.1.2.1) (fun r50 er50 br50 => ?_)
    refine Tr.iconst (pc := 53) d_X12_touches_53 (by decide) ?_
    refine Tr.iadd (pc := 54) d_X12_touches_54 ?_
    refine Tr.gen (P := fun v => (-2147483648) ≤ v ∧ v ≤ 2147483647) (w32_b _) (fun r54 er54 br54 => ?_)
    refine Tr.putfS (pc := 55) (P := St Tb1 ws_X12_touches_120_w1 as_X12_touches_120_w1 M0) d_X12_touches_55 f_12_210 (by decide) (by decide) (ty_120 hS.1.1) (st_120_65 hS (by decide) (by omega) (Tb1.of hS.1.2.2.2.2 (fun _ => rd_wb _ rfl) (rd_wb _ rfl))) (fun M55 hS w55 => ?_)
    refine Tr.aload_n (pc := 58) (i := 0) d_X12_touches_58 rfl rfl ?_
    refine Tr.getf (pc := 59) d_X12_touches_59 f_12_189 (by decide) (by decide) (ty_120 hS.1.1) ?_
    refine Tr.tp 160 (fx_120_58 hS.1.1) ?_
    refine Tr.iload (pc := 62) (i := 4) d_X12_touches_62 rfl ?_
    refine Tr.iload_n (pc := 64) (i := 3) d_X12_touches_64 rfl rfl ?_
    refine Tr.iastS (pc := 65) (P := St Tb1 ws_X12_touches_120_w1 as_X12_touches_120_w1 M0) d_X12_touches_65 (ty_160 hS.1.1) (by omega) (by omega) (sa_160 hS (by decide) (by omega) (Tb1.of hS.1.2.2.2.2 (fun _ => rd_wb _ rfl) (rd_wb _ rfl))) (fun M65 hS w65 => ?_)
    refine Tr.aload_n (pc := 66) (i := 0) d_X12_touches_66 rfl rfl ?_
    refine Tr.iconst (pc := 67) d_X12_touches_67 (by decide) ?_
    refine Tr.iconst (pc := 68) d_X12_touches_68 (by decide) ?_
    refine Tr.aload_n (pc := 69) (i := 0) d_X12_touches_69 rfl rfl ?_
    refine Tr.getf (pc := 70) d_X12_touches_70 f_12_60 (by decide) (by decide) (ty_120 hS.1.1) ?_
    refine Tr.tp 125 (fx_120_16 hS.1.1) ?_
    refine Tr.aload_n (pc := 73) (i := 0) d_X12_touches_73 rfl rfl ?_
    refine Tr.getf (pc := 74) d_X12_touches_74 f_12_48 (by decide) (by decide) (ty_120 hS.1.1) ?_
    refine Tr.tp 1 ((St.kp hS (by decide) (by decide) (by decide)).trans en_120_12) ?_
    refine Tr.iald (pc := 77) d_X12_touches_77 (ty_125 hS.1.1) (by omega) (by omega) ?_
    refine Tr.gen (P := fun v => (-2147483648) ≤ v ∧ v ≤ 2147483647) (ir_125_1 hS.1.2.1) (fun r77 er77 br77 => ?_)
    refine Tr.iload_n (pc := 78) (i := 2) d_X12_touches_78 rfl rfl ?_
    refine Tr.iconst (pc := 79) d_X12_touches_79 (by decide) ?_
    refine Tr.iconst (pc := 80) d_X12_touches_80 (by decide) ?_
    refine Tr.callV (pc := 81) (as := [_, _, _, _, _, _]) d_X12_touches_81 s_12_587 ok_X12_ticksOf rfl rfl (Nat.le_of_ble_eq_true rfl) (Nat.le_of_ble_eq_true rfl) (by decide) (ty_120 hS.1.1) ?_
    have kb81_120_62 : rd M65 120 62 = g120_62 := ((Wr.b w65 rfl).trans ((Wr.b w55 rfl).trans ((Wr.b w7 rfl).trans eg120_62)))
    have kb81_120_75 : rd M65 120 75 = g120_75 := ((Wr.b w65 rfl).trans ((Wr.b w55 rfl).trans ((Wr.b w7 rfl).trans eg120_75)))
    refine Tr.imp (Tr.deep (by decide) (sp_X12_ticksOf_120_w1 hS.1 ((St.kp hS (by decide) (by decide) (by decide)).trans en_120_12) (-1) (by omega) 0 (by omega) r77 (by omega) a2 (by omega) 0 (by omega) 0 (by omega) (by omega) (by omega) (by omega) (by omega) (Bk1.of hF_Bk1 (fun j => (St.ka hS (by decide) (by decide) (by decide))) (fun j => (St.ka hS (by decide) (by decide) (by decide))) (fun j => (St.ka hS (by decide) (by decide) (by decide))) (fun j => (St.ka hS (by decide) (by decide) (by decide))) (fun j => (St.ka hS (by decide) (by decide) (by decide))) (fun j => (St.ka hS (by decide) (by decide) (by decide))) (fun j => (St.ka hS (by decide) (by decide) (by decide))) (fun j => (St.ka hS (by decide) (by decide) (by decide))) (St.kp hS (by decide) (by decide) (by decide)) (St.kp hS (by decide) (by decide) (by decide)) (St.kp hS (by decide) (by decide) (by decide)) (St.kp hS (by decide) (by decide) (by decide))))) ?_
    rintro M81 _ ⟨h81, r81, rfl, lr81, ur81, z81_0, z81_1, z81_2, z81_3⟩
    have hS := St.tr hS h81 (by decide) (by decide)
    obtain ⟨s81_120_59, es81_120_59⟩ : ∃ v, rd M81 120 59 = v := ⟨_, rfl⟩
    have bs81_120_59 : (-1) ≤ s81_120_59 ∧ s81_120_59 ≤ 5 := by rw [← es81_120_59]; exact ir_120_59 hS.1.2.1
    obtain ⟨s81_120_62, es81_120_62⟩ : ∃ v, rd M81 120 62 = v := ⟨_, rfl⟩
    have bs81_120_62 : 0 ≤ s81_120_62 ∧ s81_120_62 ≤ 2060 := by rw [← es81_120_62]; exact ir_120_62 hS.1.2.1
    obtain ⟨s81_120_68, es81_120_68⟩ : ∃ v, rd M81 120 68 = v := ⟨_, rfl⟩
    have bs81_120_68 : 0 ≤ s81_120_68 ∧ s81_120_68 ≤ 2 := by rw [← es81_120_68]; exact ir_120_68 hS.1.2.1
    obtain ⟨s81_120_75, es81_120_75⟩ : ∃ v, rd M81 120 75 = v := ⟨_, rfl⟩
    have bs81_120_75 : 0 ≤ s81_120_75 ∧ s81_120_75 ≤ 2100 := by rw [← es81_120_75]; exact ir_120_75 hS.1.2.1
    refine Tr.sc [(0, r81)] rfl ?_
    have kr_120_59 : rd M81 120 59 = s81_120_59 := es81_120_59
    have kr_120_62 : rd M81 120 62 = s81_120_62 := es81_120_62
    have kr_120_68 : rd M81 120 68 = s81_120_68 := es81_120_68
    have kr_120_75 : rd M81 120 75 = s81_120_75 := es81_120_75
    exact Tr.zret (pc := 84) d_X12_touches_84 rfl (by omega) ⟨hS, _, rfl, by omega, by omega, by omega, by omega, by omega, by omega⟩
  · refine Tr.iconst (pc := 46) d_X12_touches_46 (by decide) ?_
    have kr_120_59 : rd M7 120 59 = g120_59 := ((Wr.b w7 rfl).trans eg120_59)
    have kr_120_62 : rd M7 120 62 = g120_62 := ((Wr.b w7 rfl).trans eg120_62)
    have kr_120_68 : rd M7 120 68 = g120_68 := ((Wr.b w7 rfl).trans eg120_68)
    have kr_120_75 : rd M7 120 75 = g120_75 := ((Wr.b w7 rfl).trans eg120_75)
    exact Tr.zret (pc := 47) d_X12_touches_47 rfl (by omega) ⟨hS, _, rfl, by omega, by omega, by omega, by omega, by omega, by omega⟩

def ws_X12_frees_120_w1 : List (Int × Int) := [(120, 75)]
def as_X12_frees_120_w1 : List Int := [156, 158, 159, 166, 167, 168]
def q_X12_frees_120_w1 (a1 : Int) (a2 : Int) (M0 M' : Mem) (r : Option PV) : Prop := St Tb1 ws_X12_frees_120_w1 as_X12_frees_120_w1 M0 M' ∧ r = none ∧ (rd M' 120 75 ≤ rd M' 120 62)
set_option maxRecDepth 100000 in
set_option maxHeartbeats 4000000 in
theorem sp_X12_frees_120_w1 {l : Launch} {K : EC} {M0 : Mem} (hI : In Tb1 M0) (en_120_12 : rd M0 120 12 = 1) (a1 : Int) (ha1 : 0 ≤ a1 ∧ a1 ≤ 5) (a2 : Int) (ha2 : 0 ≤ a2 ∧ a2 ≤ 59)  (hq0 : rd M0 120 75 + 1 ≤ rd M0 120 62) (hF_Bk1 : Bk1 M0) : Tr l K 2 mX12_frees 0 [(0, (2, 120)), (1, (0, a1)), (2, (0, a2))] [] M0 (q_X12_frees_120_w1 a1 a2 M0) := by
  have hS : St Tb1 ws_X12_frees_120_w1 as_X12_frees_120_w1 M0 M0 := St.rf hI
  obtain ⟨g120_62, eg120_62⟩ : ∃ v, rd M0 120 62 = v := ⟨_, rfl⟩
  have bg120_62 : 0 ≤ g120_62 ∧ g120_62 ≤ 2060 := by rw [← eg120_62]; exact ir_120_62 hI.2.1
  obtain ⟨g120_75, eg120_75⟩ : ∃ v, rd M0 120 75 = v := ⟨_, rfl⟩
  have bg120_75 : 0 ≤ g120_75 ∧ g120_75 ≤ 2100 := by rw [← eg120_75]; exact ir_120_75 hI.2.1
  obtain ⟨g126_1, eg126_1⟩ : ∃ v, rd M0 126 1 = v := ⟨_, rfl⟩
  have bg126_1 : 0 ≤ g126_1 ∧ g126_1 ≤ 6 := by rw [← eg126_1]; exact ir_126_1 hI.2.1
  refine Tr.aload_n (pc := 0) (i := 0) d_X12_frees_0 rfl rfl ?_
  refine Tr.getf (pc := 1) d_X12_frees_1 f_12_177 (by decide) (by decide) (ty_120 hS.1.1) ?_
  refine Tr.tp 156 (fx_120_54 hS.1.1) ?_
  refine Tr.iload_n (pc := 4) (i := 1) d_X12_frees_4 rfl rfl ?_
  refine Tr.zald (pc := 5) d_X12_frees_5 (ty_156 hS.1.1) (by omega) (by omega) ?_
  refine Tr.gen (P := fun v => 0 ≤ v ∧ v ≤ 1) (ar_156 hS.1.2.1 _) (fun r5 er5 br5 => ?_)
  refine Tr.if_ne (pc := 6) (tgt := 10) d_X12_frees_6 rfl (fun c6 => ?_) (fun c6 => ?_)
  · refine Tr.aload_n (pc := 10) (i := 0) d_X12_frees_10 rfl rfl ?_
    refine Tr.iload_n (pc := 11) (i := 1) d_X12_frees_11 rfl rfl ?_
    refine Tr.iload_n (pc := 12) (i := 2) d_X12_frees_12 rfl rfl ?_
    refine Tr.aload_n (pc := 13) (i := 0) d_X12_frees_13 rfl rfl ?_
    refine Tr.getf (pc := 14) d_X12_frees_14 f_12_201 (by decide) (by decide) (ty_120 hS.1.1) ?_
    refine Tr.tp g120_62 eg120_62 ?_
    refine Tr.iconst (pc := 17) d_X12_frees_17 (by decide) ?_
    refine Tr.isub (pc := 18) d_X12_frees_18 ?_
    refine Tr.tp (g120_62 - 1) ((w32_id (by omega)).trans (by omega)) ?_
    refine Tr.callV (pc := 19) (as := [_, _, _]) d_X12_frees_19 s_12_580 ok_X12_acts rfl rfl (Nat.le_of_ble_eq_true rfl) (Nat.le_of_ble_eq_true rfl) (by decide) (ty_120 hS.1.1) ?_
    have kb19_120_75 : rd M0 120 75 = g120_75 := eg120_75
    refine Tr.imp (Tr.deep (by decide) (sp_X12_acts_120 hS.1.wk a1 (by omega) a2 (by omega) (g120_62 - 1) (by omega) (by omega))) ?_
    rintro M19 _ ⟨h19, rfl, z19_0⟩
    have h19 := St.rn h19 (Tb1.of hS.1.2.2.2.2 (fun _ => (St.ka h19 (by decide) (by decide) (by decide))) (St.kp h19 (by decide) (by decide) (by decide)))
    have hS := St.tr hS h19 (by decide) (by decide)
    obtain ⟨s19_120_75, es19_120_75⟩ : ∃ v, rd M19 120 75 = v := ⟨_, rfl⟩
    have bs19_120_75 : 0 ≤ s19_120_75 ∧ s19_120_75 ≤ 2100 := by rw [← es19_120_75]; exact ir_120_75 hS.1.2.1
    refine Tr.sc [] rfl ?_
    refine Tr.aload_n (pc := 22) (i := 0) d_X12_frees_22 rfl rfl ?_
    refine Tr.getf (pc := 23) d_X12_frees_23 f_12_177 (by decide) (by decide) (ty_120 hS.1.1) ?_
    refine Tr.tp 156 (fx_120_54 hS.1.1) ?_
    refine Tr.iload_n (pc := 26) (i := 1) d_X12_frees_26 rfl rfl ?_
    refine Tr.iconst (pc := 27) d_X12_frees_27 (by decide) ?_
    refine Tr.zastS (pc := 28) (P := St Tb1 ws_X12_frees_120_w1 as_X12_frees_120_w1 M0) d_X12_frees_28 (ty_156 hS.1.1) (by omega) (by omega) (by omega) (sa_156 hS (by decide) (by omega) (Tb1.of hS.1.2.2.2.2 (fun _ => rd_wb _ rfl) (rd_wb _ rfl))) (fun M28 hS w28 => ?_)
    refine Tr.aload_n (pc := 29) (i := 0) d_X12_frees_29 rfl rfl ?_
    refine Tr.getf (pc := 30) d_X12_frees_30 f_12_183 (by decide) (by decide) (ty_120 hS.1.1) ?_
    refine Tr.tp 158 (fx_120_56 hS.1.1) ?_
    refine Tr.iload_n (pc := 33) (i := 1) d_X12_frees_33 rfl rfl ?_
    refine Tr.aload_n (pc := 34) (i := 0) d_X12_frees_34 rfl rfl ?_
    refine Tr.iload_n (pc := 35) (i := 1) d_X12_frees_35 rfl rfl ?_
    refine Tr.callV (pc := 36) (as := [_]) d_X12_frees_36 s_12_591 ok_X12_tails rfl rfl (Nat.le_of_ble_eq_true rfl) (Nat.le_of_ble_eq_true rfl) (by decide) (ty_120 hS.1.1) ?_
    refine Tr.imp (Tr.deep (by decide) (sp_X12_tails_120_w1 hS.1.wk ((St.kp hS (by decide) (by decide) (by decide)).trans en_120_12) a1 (by omega) (Bk1.of hF_Bk1 (fun j => (St.ka hS (by decide) (by decide) (by decide))) (fun j => (St.ka hS (by decide) (by decide) (by decide))) (fun j => (St.ka hS (by decide) (by decide) (by decide))) (fun j => (St.ka hS (by decide) (by decide) (by decide))) (fun j => (St.ka hS (by decide) (by decide) (by decide))) (fun j => (St.ka hS (by decide) (by decide) (by decide))) (fun j => (St.ka hS (by decide) (by decide) (by decide))) (fun j => (St.ka hS (by decide) (by decide) (by decide))) (St.kp hS (by decide) (by decide) (by decide)) (St.kp hS (by decide) (by decide) (by decide)) (St.kp hS (by decide) (by decide) (by decide)) (St.kp hS (by decide) (by decide) (by decide))))) ?_
    rintro M36 _ ⟨h36, r36, rfl, lr36, ur36, z36_0⟩
    have h36 := St.rn h36 (Tb1.of hS.1.2.2.2.2 (fun _ => (St.ka h36 (by decide) (by decide) (by decide))) (St.kp h36 (by decide) (by decide) (by decide)))
    have hS := St.tr hS h36 (by decide) (by decide)
    have ka36_126_1 : rd M36 126 1 = g126_1 := ((St.kp h36 (by decide) (by decide) (by decide)).trans ((Wr.b w28 rfl).trans ((St.kp h19 (by decide) (by decide) (by decide)).trans eg126_1)))
    refine Tr.sc [(0, r36), (0, a1), (2, 158)] rfl ?_
    refine Tr.iastS (pc := 39) (P := St Tb1 ws_X12_frees_120_w1 as_X12_frees_120_w1 M0) d_X12_frees_39 (ty_158 hS.1.1) (by omega) (by omega) (sa_158 hS (by decide) (by omega) (Tb1_wr hS.1.2.2.2.2 (fun i0 i1 => by omega))) (fun M39 hS w39 => ?_)
    have kr_120_62 : rd M39 120 62 = g120_62 := ((Wr.b w39 rfl).trans ((St.kp h36 (by decide) (by decide) (by decide)).trans ((Wr.b w28 rfl).trans ((St.kp h19 (by decide) (by decide) (by decide)).trans eg120_62))))
    have kr_120_75 : rd M39 120 75 = s19_120_75 := ((Wr.b w39 rfl).trans ((St.kp h36 (by decide) (by decide) (by decide)).trans ((Wr.b w28 rfl).trans es19_120_75)))
    exact Tr.vret (pc := 40) d_X12_frees_40 rfl ⟨hS, rfl, by omega⟩
  · have kr_120_62 : rd M0 120 62 = g120_62 := eg120_62
    have kr_120_75 : rd M0 120 75 = g120_75 := eg120_75
    exact Tr.vret (pc := 9) d_X12_frees_9 rfl ⟨hS, rfl, by omega⟩

def ws_X12_wakes_120_w1 : List (Int × Int) := []
def as_X12_wakes_120_w1 : List Int := []
def q_X12_wakes_120_w1 (M0 M' : Mem) (r : Option PV) : Prop := St Tru ws_X12_wakes_120_w1 as_X12_wakes_120_w1 M0 M' ∧ ∃ v : Int, r = some (0, v) ∧ (-2147483648) ≤ v ∧ v ≤ 2147483647
set_option maxRecDepth 100000 in
set_option maxHeartbeats 4000000 in
theorem sp_X12_wakes_120_w1 {l : Launch} {K : EC} {M0 : Mem} (hI : In Tru M0) (en_120_12 : rd M0 120 12 = 1) (a1 : Int) (ha1 : 0 ≤ a1 ∧ a1 ≤ 5)  (hF_Bk1 : Bk1 M0) : Tr l K 1 mX12_wakes 0 [(0, (2, 120)), (1, (0, a1))] [] M0 (q_X12_wakes_120_w1 M0) := by
  have hS : St Tru ws_X12_wakes_120_w1 as_X12_wakes_120_w1 M0 M0 := St.rf hI
  refine Tr.aload_n (pc := 0) (i := 0) d_X12_wakes_0 rfl rfl ?_
  refine Tr.iload_n (pc := 1) (i := 1) d_X12_wakes_1 rfl rfl ?_
  refine Tr.iconst (pc := 2) d_X12_wakes_2 (by decide) ?_
  refine Tr.callV (pc := 3) (as := [_, _]) d_X12_wakes_3 s_12_565 ok_X12_rate rfl rfl (Nat.le_of_ble_eq_true rfl) (Nat.le_of_ble_eq_true rfl) (by decide) (ty_120 hS.1.1) ?_
  refine Tr.imp (Tr.deep (by decide) (sp_X12_rate_120_w1 hS.1 ((St.kp hS (by decide) (by decide) (by decide)).trans en_120_12) a1 (by omega) 1 (by omega) (Bk1.of hF_Bk1 (fun j => (St.ka hS (by decide) (by decide) (by decide))) (fun j => (St.ka hS (by decide) (by decide) (by decide))) (fun j => (St.ka hS (by decide) (by decide) (by decide))) (fun j => (St.ka hS (by decide) (by decide) (by decide))) (fun j => (St.ka hS (by decide) (by decide) (by decide))) (fun j => (St.ka hS (by decide) (by decide) (by decide))) (fun j => (St.ka hS (by decide) (by decide) (by decide))) (fun j => (St.ka hS (by decide) (by decide) (by decide))) (St.kp hS (by decide) (by decide) (by decide)) (St.kp hS (by decide) (by decide) (by decide)) (St.kp hS (by decide) (by decide) (by decide)) (St.kp hS (by decide) (by decide) (by decide))))) ?_
  rintro M3 _ ⟨h3, r3, rfl, lr3, ur3, z3_0⟩
  have hS := St.tr hS h3 (by decide) (by decide)
  obtain ⟨w3_126_1, ew3_126_1⟩ : ∃ v, rd M3 126 1 = v := ⟨_, rfl⟩
  have bw3_126_1 : 0 ≤ w3_126_1 ∧ w3_126_1 ≤ 6 := by rw [← ew3_126_1]; exact ir_126_1 hS.1.2.1
  have ka3_126_1 : rd M3 126 1 = w3_126_1 := ew3_126_1
  refine Tr.sc [(0, r3)] rfl ?_
  exact Tr.iret (pc := 6) d_X12_wakes_6 rfl ⟨hS, _, rfl, by omega, by omega⟩

def ws_X12_holds_120_w1 : List (Int × Int) := [(120, 59), (120, 60), (120, 61), (120, 62), (120, 63), (120, 68), (120, 75)]
def as_X12_holds_120_w1 : List Int := [156, 157, 158, 159, 161, 162, 163, 164, 165, 166, 167, 168]
def q_X12_holds_120_w1 (a1 : Int) (a2 : Int) (M0 M' : Mem) (r : Option PV) : Prop := St Tb1 ws_X12_holds_120_w1 as_X12_holds_120_w1 M0 M' ∧ ∃ v : Int, r = some (0, v) ∧ 0 ≤ v ∧ v ≤ 1 ∧ (rd M' 120 75 ≤ rd M' 120 62) ∧ (rd M0 120 62 ≤ rd M' 120 62 ∧ rd M' 120 62 ≤ 2000) ∧ (v = 1 ∨ 1 ≤ rd M' 120 68) ∧ (rd M' 120 59 = -1)
set_option maxRecDepth 100000 in
set_option maxHeartbeats 4000000 in
theorem sp_X12_holds_120_w1 {l : Launch} {K : EC} {M0 : Mem} (hI : In Tb1 M0) (en_120_12 : rd M0 120 12 = 1) (a1 : Int) (ha1 : 0 ≤ a1 ∧ a1 ≤ 5) (a2 : Int) (ha2 : 0 ≤ a2 ∧ a2 ≤ 59)  (hq0 : rd M0 120 75 + 1 ≤ rd M0 120 62) (hq1 : rd M0 120 62 ≤ 2000) (hq2 : rd M0 120 59 = -1) (hF_Bk1 : Bk1 M0) : Tr l K 5 mX12_holds 0 [(0, (2, 120)), (1, (0, a1)), (2, (0, a2))] [] M0 (q_X12_holds_120_w1 a1 a2 M0) := by
  have hS : St Tb1 ws_X12_holds_120_w1 as_X12_holds_120_w1 M0 M0 := St.rf hI
  obtain ⟨g120_62, eg120_62⟩ : ∃ v, rd M0 120 62 = v := ⟨_, rfl⟩
  have bg120_62 : 0 ≤ g120_62 ∧ g120_62 ≤ 2060 := by rw [← eg120_62]; exact ir_120_62 hI.2.1
  obtain ⟨g120_68, eg120_68⟩ : ∃ v, rd M0 120 68 = v := ⟨_, rfl⟩
  have bg120_68 : 0 ≤ g120_68 ∧ g120_68 ≤ 2 := by rw [← eg120_68]; exact ir_120_68 hI.2.1
  obtain ⟨g120_75, eg120_75⟩ : ∃ v, rd M0 120 75 = v := ⟨_, rfl⟩
  have bg120_75 : 0 ≤ g120_75 ∧ g120_75 ≤ 2100 := by rw [← eg120_75]; exact ir_120_75 hI.2.1
  obtain ⟨g120_59, eg120_59⟩ : ∃ v, rd M0 120 59 = v := ⟨_, rfl⟩
  have bg120_59 : (-1) ≤ g120_59 ∧ g120_59 ≤ 5 := by rw [← eg120_59]; exact ir_120_59 hI.2.1
  refine Tr.aload_n (pc := 0) (i := 0) d_X12_holds_0 rfl rfl ?_
  refine Tr.getf (pc := 1) d_X12_holds_1 f_12_177 (by decide) (by decide) (ty_120 hS.1.1) ?_
  refine Tr.tp 156 (fx_120_54 hS.1.1) ?_
  refine Tr.iload_n (pc := 4) (i := 1) d_X12_holds_4 rfl rfl ?_
  refine Tr.zald (pc := 5) d_X12_holds_5 (ty_156 hS.1.1) (by omega) (by omega) ?_
  refine Tr.gen (P := fun v => 0 ≤ v ∧ v ≤ 1) (ar_156 hS.1.2.1 _) (fun r5 er5 br5 => ?_)
  refine Tr.if_eq (pc := 6) (tgt := 11) d_X12_holds_6 rfl (fun c6 => ?_) (fun c6 => ?_)
  · refine Tr.aload_n (pc := 11) (i := 0) d_X12_holds_11 rfl rfl ?_
    refine Tr.getf (pc := 12) d_X12_holds_12 f_12_201 (by decide) (by decide) (ty_120 hS.1.1) ?_
    refine Tr.tp g120_62 eg120_62 ?_
    refine Tr.iconst (pc := 15) d_X12_holds_15 (by decide) ?_
    refine Tr.isub (pc := 16) d_X12_holds_16 ?_
    refine Tr.tp (g120_62 - 1) ((w32_id (by omega)).trans (by omega)) ?_
    refine Tr.istore_n (pc := 17) (i := 3) (ls2 := [(3, (0, (g120_62 - 1))), (0, (2, 120)), (1, (0, a1)), (2, (0, a2))]) d_X12_holds_17 rfl (by decide) rfl ?_
    refine Tr.aload_n (pc := 18) (i := 0) d_X12_holds_18 rfl rfl ?_
    refine Tr.iload_n (pc := 19) (i := 1) d_X12_holds_19 rfl rfl ?_
    refine Tr.callV (pc := 20) (as := [_]) d_X12_holds_20 s_12_571 ok_X12_stateOf rfl rfl (Nat.le_of_ble_eq_true rfl) (Nat.le_of_ble_eq_true rfl) (by decide) (ty_120 hS.1.1) ?_
    refine Tr.imp (Tr.deep (by decide) (sp_X12_stateOf_120 hS.1.wk a1 (by omega))) ?_
    rintro M20 _ ⟨h20, r20, rfl, lr20, ur20, z20_0⟩
    have h20 := St.rn h20 (Tb1.of hS.1.2.2.2.2 (fun _ => (St.ka h20 (by decide) (by decide) (by decide))) (St.kp h20 (by decide) (by decide) (by decide)))
    have hS := St.tr hS h20 (by decide) (by decide)
    have ka20_120_59 : rd M20 120 59 = g120_59 := ((St.kp h20 (by decide) (by decide) (by decide)).trans eg120_59)
    obtain ⟨w20_120_61, ew20_120_61⟩ : ∃ v, rd M20 120 61 = v := ⟨_, rfl⟩
    have bw20_120_61 : 0 ≤ w20_120_61 ∧ w20_120_61 ≤ 3 := by rw [← ew20_120_61]; exact ir_120_61 hS.1.2.1
    have ka20_120_61 : rd M20 120 61 = w20_120_61 := ew20_120_61
    refine Tr.sc [(0, r20)] rfl ?_
    have J35 : ∀ (M : Mem) (q35_0 : Int), St Tb1 ws_X12_holds_120_w1 as_X12_holds_120_w1 M0 M → ((-2147483648) ≤ q35_0 ∧ q35_0 ≤ 2147483647) → rd M 120 59 = g120_59 → rd M 120 61 = w20_120_61 → rd M 120 62 = g120_62 → rd M 120 68 = g120_68 → rd M 120 75 = g120_75 → rd M 156 a1 = r5 → Tr l K 5 mX12_holds 35 [(0, (2, 120)), (1, (0, a1)), (2, (0, a2)), (3, (0, (g120_62 - 1)))] [(0, q35_0)] M (q_X12_holds_120_w1 a1 a2 M0) := by
      intro M q35_0 hS bq35_0 k35_120_59 k35_120_61 k35_120_62 k35_120_68 k35_120_75 k35_156_a110
      refine Tr.istore (pc := 35) (i := 4) (ls2 := [(4, (0, q35_0)), (0, (2, 120)), (1, (0, a1)), (2, (0, a2)), (3, (0, (g120_62 - 1)))]) d_X12_holds_35 (by decide) rfl ?_
      refine Tr.aload_n (pc := 37) (i := 0) d_X12_holds_37 rfl rfl ?_
      refine Tr.iload_n (pc := 38) (i := 1) d_X12_holds_38 rfl rfl ?_
      refine Tr.iconst (pc := 39) d_X12_holds_39 (by decide) ?_
      refine Tr.iload (pc := 40) (i := 4) d_X12_holds_40 rfl ?_
      refine Tr.iload_n (pc := 42) (i := 2) d_X12_holds_42 rfl rfl ?_
      refine Tr.iconst (pc := 43) d_X12_holds_43 (by decide) ?_
      refine Tr.iload_n (pc := 44) (i := 3) d_X12_holds_44 rfl rfl ?_
      refine Tr.callV (pc := 45) (as := [_, _, _, _, _, _]) d_X12_holds_45 s_12_587 ok_X12_ticksOf rfl rfl (Nat.le_of_ble_eq_true rfl) (Nat.le_of_ble_eq_true rfl) (by decide) (ty_120 hS.1.1) ?_
      have kb45_120_62 : rd M 120 62 = g120_62 := k35_120_62
      have kb45_120_75 : rd M 120 75 = g120_75 := k35_120_75
      refine Tr.imp (Tr.deep (by decide) (sp_X12_ticksOf_120_w1 hS.1 ((St.kp hS (by decide) (by decide) (by decide)).trans en_120_12) a1 (by omega) 1 (by omega) q35_0 (by omega) a2 (by omega) 1 (by omega) (g120_62 - 1) (by omega) (by omega) (by omega) (by omega) (by omega) (Bk1.of hF_Bk1 (fun j => (St.ka hS (by decide) (by decide) (by decide))) (fun j => (St.ka hS (by decide) (by decide) (by decide))) (fun j => (St.ka hS (by decide) (by decide) (by decide))) (fun j => (St.ka hS (by decide) (by decide) (by decide))) (fun j => (St.ka hS (by decide) (by decide) (by decide))) (fun j => (St.ka hS (by decide) (by decide) (by decide))) (fun j => (St.ka hS (by decide) (by decide) (by decide))) (fun j => (St.ka hS (by decide) (by decide) (by decide))) (St.kp hS (by decide) (by decide) (by decide)) (St.kp hS (by decide) (by decide) (by decide)) (St.kp hS (by decide) (by decide) (by decide)) (St.kp hS (by decide) (by decide) (by decide))))) ?_
      rintro M45 _ ⟨h45, r45, rfl, lr45, ur45, z45_0, z45_1, z45_2, z45_3⟩
      have hS := St.tr hS h45 (by decide) (by decide)
      obtain ⟨s45_120_59, es45_120_59⟩ : ∃ v, rd M45 120 59 = v := ⟨_, rfl⟩
      have bs45_120_59 : (-1) ≤ s45_120_59 ∧ s45_120_59 ≤ 5 := by rw [← es45_120_59]; exact ir_120_59 hS.1.2.1
      obtain ⟨s45_120_62, es45_120_62⟩ : ∃ v, rd M45 120 62 = v := ⟨_, rfl⟩
      have bs45_120_62 : 0 ≤ s45_120_62 ∧ s45_120_62 ≤ 2060 := by rw [← es45_120_62]; exact ir_120_62 hS.1.2.1
      obtain ⟨s45_120_68, es45_120_68⟩ : ∃ v, rd M45 120 68 = v := ⟨_, rfl⟩
      have bs45_120_68 : 0 ≤ s45_120_68 ∧ s45_120_68 ≤ 2 := by rw [← es45_120_68]; exact ir_120_68 hS.1.2.1
      obtain ⟨s45_120_75, es45_120_75⟩ : ∃ v, rd M45 120 75 = v := ⟨_, rfl⟩
      have bs45_120_75 : 0 ≤ s45_120_75 ∧ s45_120_75 ≤ 2100 := by rw [← es45_120_75]; exact ir_120_75 hS.1.2.1
      refine Tr.sc [(0, r45)] rfl ?_
      refine Tr.if_ne (pc := 48) (tgt := 72) d_X12_holds_48 rfl (fun c48 => ?_) (fun c48 => ?_)
      · refine Tr.iload (pc := 72) (i := 4) d_X12_holds_72 rfl ?_
        have J84 : ∀ (M : Mem) (u84_120_75 : Int), St Tb1 ws_X12_holds_120_w1 as_X12_holds_120_w1 M0 M → (0 ≤ u84_120_75 ∧ u84_120_75 ≤ 2100) → rd M 120 59 = s45_120_59 → rd M 120 62 = s45_120_62 → rd M 120 68 = s45_120_68 → rd M 120 75 = u84_120_75 → rd M 156 a1 = r5 → (u84_120_75 ≤ g120_75 + 1) → (g120_62 ≤ s45_120_62 ∧ s45_120_62 ≤ 2000) → (s45_120_59 = -1) → Tr l K 5 mX12_holds 84 [(0, (2, 120)), (1, (0, a1)), (2, (0, a2))] [] M (q_X12_holds_120_w1 a1 a2 M0) := by
          intro M u84_120_75 hS bu84_120_75 k84_120_59 k84_120_62 k84_120_68 k84_120_75 k84_156_a110 t84_0 t84_1 t84_2
          refine Tr.aload_n (pc := 84) (i := 0) d_X12_holds_84 rfl rfl ?_
          refine Tr.getf (pc := 85) d_X12_holds_85 f_12_177 (by decide) (by decide) (ty_120 hS.1.1) ?_
          refine Tr.tp 156 (fx_120_54 hS.1.1) ?_
          refine Tr.iload_n (pc := 88) (i := 1) d_X12_holds_88 rfl rfl ?_
          refine Tr.iconst (pc := 89) d_X12_holds_89 (by decide) ?_
          refine Tr.zastS (pc := 90) (P := St Tb1 ws_X12_holds_120_w1 as_X12_holds_120_w1 M0) d_X12_holds_90 (ty_156 hS.1.1) (by omega) (by omega) (by omega) (sa_156 hS (by decide) (by omega) (Tb1.of hS.1.2.2.2.2 (fun _ => rd_wb _ rfl) (rd_wb _ rfl))) (fun M90 hS w90 => ?_)
          refine Tr.aload_n (pc := 91) (i := 0) d_X12_holds_91 rfl rfl ?_
          refine Tr.getf (pc := 92) d_X12_holds_92 f_12_180 (by decide) (by decide) (ty_120 hS.1.1) ?_
          refine Tr.tp 157 (fx_120_55 hS.1.1) ?_
          refine Tr.iload_n (pc := 95) (i := 1) d_X12_holds_95 rfl rfl ?_
          refine Tr.iload_n (pc := 96) (i := 2) d_X12_holds_96 rfl rfl ?_
          refine Tr.iastS (pc := 97) (P := St Tb1 ws_X12_holds_120_w1 as_X12_holds_120_w1 M0) d_X12_holds_97 (ty_157 hS.1.1) (by omega) (by omega) (sa_157 hS (by decide) (by omega) (Tb1.of hS.1.2.2.2.2 (fun _ => rd_wb _ rfl) (rd_wb _ rfl))) (fun M97 hS w97 => ?_)
          refine Tr.iconst (pc := 98) d_X12_holds_98 (by decide) ?_
          have kr_120_59 : rd M97 120 59 = s45_120_59 := ((Wr.b w97 rfl).trans ((Wr.b w90 rfl).trans k84_120_59))
          have kr_120_62 : rd M97 120 62 = s45_120_62 := ((Wr.b w97 rfl).trans ((Wr.b w90 rfl).trans k84_120_62))
          have kr_120_68 : rd M97 120 68 = s45_120_68 := ((Wr.b w97 rfl).trans ((Wr.b w90 rfl).trans k84_120_68))
          have kr_120_75 : rd M97 120 75 = u84_120_75 := ((Wr.b w97 rfl).trans ((Wr.b w90 rfl).trans k84_120_75))
          exact Tr.zret (pc := 99) d_X12_holds_99 rfl (by omega) ⟨hS, _, rfl, by omega, by omega, by omega, by omega, by omega, by omega⟩
        refine Tr.if_ne (pc := 74) (tgt := 84) d_X12_holds_74 rfl (fun c74 => ?_) (fun c74 => ?_)
        · refine Tr.pick [1, 2, 3] (ls2 := [(0, (2, 120)), (1, (0, a1)), (2, (0, a2))]) rfl ?_
          exact J84 _ _ hS (by omega) es45_120_59 es45_120_62 es45_120_68 es45_120_75 ((St.ka h45 (by decide) (by decide) (by decide)).trans k35_156_a110) (by omega) (by omega) (by omega)
        · refine Tr.aload_n (pc := 77) (i := 0) d_X12_holds_77 rfl rfl ?_
          refine Tr.iload_n (pc := 78) (i := 1) d_X12_holds_78 rfl rfl ?_
          refine Tr.iload_n (pc := 79) (i := 2) d_X12_holds_79 rfl rfl ?_
          refine Tr.iload_n (pc := 80) (i := 3) d_X12_holds_80 rfl rfl ?_
          refine Tr.callV (pc := 81) (as := [_, _, _]) d_X12_holds_81 s_12_580 ok_X12_acts rfl rfl (Nat.le_of_ble_eq_true rfl) (Nat.le_of_ble_eq_true rfl) (by decide) (ty_120 hS.1.1) ?_
          have kb81_120_75 : rd M45 120 75 = s45_120_75 := es45_120_75
          refine Tr.imp (Tr.deep (by decide) (sp_X12_acts_120 hS.1.wk a1 (by omega) a2 (by omega) (g120_62 - 1) (by omega) (by omega))) ?_
          rintro M81 _ ⟨h81, rfl, z81_0⟩
          have h81 := St.rn h81 (Tb1.of hS.1.2.2.2.2 (fun _ => (St.ka h81 (by decide) (by decide) (by decide))) (St.kp h81 (by decide) (by decide) (by decide)))
          have hS := St.tr hS h81 (by decide) (by decide)
          obtain ⟨s81_120_75, es81_120_75⟩ : ∃ v, rd M81 120 75 = v := ⟨_, rfl⟩
          have bs81_120_75 : 0 ≤ s81_120_75 ∧ s81_120_75 ≤ 2100 := by rw [← es81_120_75]; exact ir_120_75 hS.1.2.1
          refine Tr.sc [] rfl ?_
          refine Tr.pick [1, 2, 3] (ls2 := [(0, (2, 120)), (1, (0, a1)), (2, (0, a2))]) rfl ?_
          exact J84 _ _ hS (by omega) ((St.kp h81 (by decide) (by decide) (by decide)).trans es45_120_59) ((St.kp h81 (by decide) (by decide) (by decide)).trans es45_120_62) ((St.kp h81 (by decide) (by decide) (by decide)).trans es45_120_68) es81_120_75 ((St.ka h81 (by decide) (by decide) (by decide)).trans ((St.ka h45 (by decide) (by decide) (by decide)).trans k35_156_a110)) (by omega) (by omega) (by omega)
      · refine Tr.aload_n (pc := 51) (i := 0) d_X12_holds_51 rfl rfl ?_
        refine Tr.aload_n (pc := 52) (i := 0) d_X12_holds_52 rfl rfl ?_
        refine Tr.getf (pc := 53) d_X12_holds_53 f_12_201 (by decide) (by decide) (ty_120 hS.1.1) ?_
        refine Tr.tp s45_120_62 es45_120_62 ?_
        refine Tr.iload_n (pc := 56) (i := 3) d_X12_holds_56 rfl rfl ?_
        refine Tr.iconst (pc := 57) d_X12_holds_57 (by decide) ?_
        refine Tr.iadd (pc := 58) d_X12_holds_58 ?_
        refine Tr.tp g120_62 ((w32_id (by omega)).trans (by omega)) ?_
        refine Tr.icmp_le (pc := 59) (tgt := 66) d_X12_holds_59 rfl (fun c59 => ?_) (fun c59 => ?_)
        · refine Tr.iconst (pc := 66) d_X12_holds_66 (by decide) ?_
          refine Tr.putfS (pc := 67) (P := St Tb1 ws_X12_holds_120_w1 as_X12_holds_120_w1 M0) d_X12_holds_67 f_12_195 (by decide) (by decide) (ty_120 hS.1.1) (st_120_60 hS (by decide) (by omega) (Tb1.of hS.1.2.2.2.2 (fun _ => rd_wb _ rfl) (rd_wb _ rfl))) (fun M67 hS w67 => ?_)
          refine Tr.iconst (pc := 70) d_X12_holds_70 (by decide) ?_
          have kr_120_59 : rd M67 120 59 = s45_120_59 := ((Wr.b w67 rfl).trans es45_120_59)
          have kr_120_62 : rd M67 120 62 = s45_120_62 := ((Wr.b w67 rfl).trans es45_120_62)
          have kr_120_68 : rd M67 120 68 = s45_120_68 := ((Wr.b w67 rfl).trans es45_120_68)
          have kr_120_75 : rd M67 120 75 = s45_120_75 := ((Wr.b w67 rfl).trans es45_120_75)
          exact Tr.zret (pc := 71) d_X12_holds_71 rfl (by omega) ⟨hS, _, rfl, by omega, by omega, by omega, by omega, by omega, by omega⟩
        · refine Tr.iload_n (pc := 62) (i := 1) d_X12_holds_62 rfl rfl ?_
          refine Tr.goto (pc := 63) (tgt := 67) d_X12_holds_63 rfl ?_
          refine Tr.putfS (pc := 67) (P := St Tb1 ws_X12_holds_120_w1 as_X12_holds_120_w1 M0) d_X12_holds_67 f_12_195 (by decide) (by decide) (ty_120 hS.1.1) (st_120_60 hS (by decide) (by omega) (Tb1.of hS.1.2.2.2.2 (fun _ => rd_wb _ rfl) (rd_wb _ rfl))) (fun M67 hS w67 => ?_)
          refine Tr.iconst (pc := 70) d_X12_holds_70 (by decide) ?_
          have kr_120_59 : rd M67 120 59 = s45_120_59 := ((Wr.b w67 rfl).trans es45_120_59)
          have kr_120_62 : rd M67 120 62 = s45_120_62 := ((Wr.b w67 rfl).trans es45_120_62)
          have kr_120_68 : rd M67 120 68 = s45_120_68 := ((Wr.b w67 rfl).trans es45_120_68)
          have kr_120_75 : rd M67 120 75 = s45_120_75 := ((Wr.b w67 rfl).trans es45_120_75)
          exact Tr.zret (pc := 71) d_X12_holds_71 rfl (by omega) ⟨hS, _, rfl, by omega, by omega, by omega, by omega, by omega, by omega⟩
    refine Tr.if_ne (pc := 23) (tgt := 34) d_X12_holds_23 rfl (fun c23 => ?_) (fun c23 => ?_)
    · refine Tr.iconst (pc := 34) d_X12_holds_34 (by decide) ?_
      refine Tr.pick [1, 2, 3, 0] (ls2 := [(0, (2, 120)), (1, (0, a1)), (2, (0, a2)), (3, (0, (g120_62 - 1)))]) rfl ?_
      exact J35 _ _ hS (by omega) ((St.kp h20 (by decide) (by decide) (by decide)).trans eg120_59) ew20_120_61 ((St.kp h20 (by decide) (by decide) (by decide)).trans eg120_62) ((St.kp h20 (by decide) (by decide) (by decide)).trans eg120_68) ((St.kp h20 (by decide) (by decide) (by decide)).trans eg120_75) ((St.ka h20 (by decide) (by decide) (by decide)).trans er5)
    · refine Tr.aload_n (pc := 26) (i := 0) d_X12_holds_26 rfl rfl ?_
      refine Tr.iload_n (pc := 27) (i := 1) d_X12_holds_27 rfl rfl ?_
      refine Tr.callV (pc := 28) (as := [_]) d_X12_holds_28 s_12_584 ok_X12_wakes rfl rfl (Nat.le_of_ble_eq_true rfl) (Nat.le_of_ble_eq_true rfl) (by decide) (ty_120 hS.1.1) ?_
      refine Tr.imp (Tr.deep (by decide) (sp_X12_wakes_120_w1 hS.1.wk ((St.kp hS (by decide) (by decide) (by decide)).trans en_120_12) a1 (by omega) (Bk1.of hF_Bk1 (fun j => (St.ka hS (by decide) (by decide) (by decide))) (fun j => (St.ka hS (by decide) (by decide) (by decide))) (fun j => (St.ka hS (by decide) (by decide) (by decide))) (fun j => (St.ka hS (by decide) (by decide) (by decide))) (fun j => (St.ka hS (by decide) (by decide) (by decide))) (fun j => (St.ka hS (by decide) (by decide) (by decide))) (fun j => (St.ka hS (by decide) (by decide) (by decide))) (fun j => (St.ka hS (by decide) (by decide) (by decide))) (St.kp hS (by decide) (by decide) (by decide)) (St.kp hS (by decide) (by decide) (by decide)) (St.kp hS (by decide) (by decide) (by decide)) (St.kp hS (by decide) (by decide) (by decide))))) ?_
      rintro M28 _ ⟨h28, r28, rfl, lr28, ur28⟩
      have h28 := St.rn h28 (Tb1.of hS.1.2.2.2.2 (fun _ => (St.ka h28 (by decide) (by decide) (by decide))) (St.kp h28 (by decide) (by decide) (by decide)))
      have hS := St.tr hS h28 (by decide) (by decide)
      refine Tr.sc [(0, r28)] rfl ?_
      refine Tr.goto (pc := 31) (tgt := 35) d_X12_holds_31 rfl ?_
      refine Tr.pick [1, 2, 3, 0] (ls2 := [(0, (2, 120)), (1, (0, a1)), (2, (0, a2)), (3, (0, (g120_62 - 1)))]) rfl ?_
      exact J35 _ _ hS (by omega) ((St.kp h28 (by decide) (by decide) (by decide)).trans ((St.kp h20 (by decide) (by decide) (by decide)).trans eg120_59)) ((St.kp h28 (by decide) (by decide) (by decide)).trans ew20_120_61) ((St.kp h28 (by decide) (by decide) (by decide)).trans ((St.kp h20 (by decide) (by decide) (by decide)).trans eg120_62)) ((St.kp h28 (by decide) (by decide) (by decide)).trans ((St.kp h20 (by decide) (by decide) (by decide)).trans eg120_68)) ((St.kp h28 (by decide) (by decide) (by decide)).trans ((St.kp h20 (by decide) (by decide) (by decide)).trans eg120_75)) ((St.ka h28 (by decide) (by decide) (by decide)).trans ((St.ka h20 (by decide) (by decide) (by decide)).trans er5))
  · refine Tr.iconst (pc := 9) d_X12_holds_9 (by decide) ?_
    have kr_120_59 : rd M0 120 59 = g120_59 := eg120_59
    have kr_120_62 : rd M0 120 62 = g120_62 := eg120_62
    have kr_120_68 : rd M0 120 68 = g120_68 := eg120_68
    have kr_120_75 : rd M0 120 75 = g120_75 := eg120_75
    exact Tr.zret (pc := 10) d_X12_holds_10 rfl (by omega) ⟨hS, _, rfl, by omega, by omega, by omega, by omega, by omega, by omega⟩

def ws_X12_uses_120_w1 : List (Int × Int) := [(120, 59), (120, 60), (120, 61), (120, 62), (120, 63), (120, 68), (120, 75), (120, 79)]
def as_X12_uses_120_w1 : List Int := [158, 159, 161, 162, 163, 164, 165, 166, 167, 168, 169, 170, 171]
def q_X12_uses_120_w1 (a1 : Int) (a2 : Int) (a3 : Int) (M0 M' : Mem) (r : Option PV) : Prop := St Tb1 ws_X12_uses_120_w1 as_X12_uses_120_w1 M0 M' ∧ ∃ v : Int, r = some (0, v) ∧ 0 ≤ v ∧ v ≤ 1 ∧ (rd M' 120 75 ≤ rd M' 120 62) ∧ (rd M' 120 79 ≤ rd M' 120 62) ∧ (rd M0 120 62 ≤ rd M' 120 62 ∧ rd M' 120 62 ≤ 2000) ∧ (v = 1 ∨ 1 ≤ rd M' 120 68) ∧ (rd M' 120 59 = -1)
set_option maxRecDepth 100000 in
set_option maxHeartbeats 4000000 in
theorem sp_X12_uses_120_w1 {l : Launch} {K : EC} {M0 : Mem} (hI : In Tb1 M0) (en_120_12 : rd M0 120 12 = 1) (a1 : Int) (ha1 : 0 ≤ a1 ∧ a1 ≤ 5) (a2 : Int) (ha2 : 0 ≤ a2 ∧ a2 ≤ 50) (a3 : Int) (ha3 : 0 ≤ a3 ∧ a3 ≤ 59)  (hq0 : rd M0 120 75 + 1 ≤ rd M0 120 62) (hq1 : rd M0 120 79 + 1 ≤ rd M0 120 62) (hq2 : rd M0 120 62 ≤ 2000) (hF_Bk1 : Bk1 M0) : Tr l K 5 mX12_uses 0 [(0, (2, 120)), (1, (0, a1)), (2, (0, a2)), (3, (0, a3))] [] M0 (q_X12_uses_120_w1 a1 a2 a3 M0) := by
  have hS : St Tb1 ws_X12_uses_120_w1 as_X12_uses_120_w1 M0 M0 := St.rf hI
  obtain ⟨g120_62, eg120_62⟩ : ∃ v, rd M0 120 62 = v := ⟨_, rfl⟩
  have bg120_62 : 0 ≤ g120_62 ∧ g120_62 ≤ 2060 := by rw [← eg120_62]; exact ir_120_62 hI.2.1
  obtain ⟨g120_68, eg120_68⟩ : ∃ v, rd M0 120 68 = v := ⟨_, rfl⟩
  have bg120_68 : 0 ≤ g120_68 ∧ g120_68 ≤ 2 := by rw [← eg120_68]; exact ir_120_68 hI.2.1
  obtain ⟨g120_75, eg120_75⟩ : ∃ v, rd M0 120 75 = v := ⟨_, rfl⟩
  have bg120_75 : 0 ≤ g120_75 ∧ g120_75 ≤ 2100 := by rw [← eg120_75]; exact ir_120_75 hI.2.1
  obtain ⟨g120_79, eg120_79⟩ : ∃ v, rd M0 120 79 = v := ⟨_, rfl⟩
  have bg120_79 : 0 ≤ g120_79 ∧ g120_79 ≤ 2100 := by rw [← eg120_79]; exact ir_120_79 hI.2.1
  obtain ⟨g120_59, eg120_59⟩ : ∃ v, rd M0 120 59 = v := ⟨_, rfl⟩
  have bg120_59 : (-1) ≤ g120_59 ∧ g120_59 ≤ 5 := by rw [← eg120_59]; exact ir_120_59 hI.2.1
  obtain ⟨g126_1, eg126_1⟩ : ∃ v, rd M0 126 1 = v := ⟨_, rfl⟩
  have bg126_1 : 0 ≤ g126_1 ∧ g126_1 ≤ 6 := by rw [← eg126_1]; exact ir_126_1 hI.2.1
  refine Tr.aload_n (pc := 0) (i := 0) d_X12_uses_0 rfl rfl ?_
  refine Tr.getf (pc := 1) d_X12_uses_1 f_12_201 (by decide) (by decide) (ty_120 hS.1.1) ?_
  refine Tr.tp g120_62 eg120_62 ?_
  refine Tr.iconst (pc := 4) d_X12_uses_4 (by decide) ?_
  refine Tr.isub (pc := 5) d_X12_uses_5 ?_
  refine Tr.tp (g120_62 - 1) ((w32_id (by omega)).trans (by omega)) ?_
  refine Tr.istore (pc := 6) (i := 4) (ls2 := [(4, (0, (g120_62 - 1))), (0, (2, 120)), (1, (0, a1)), (2, (0, a2)), (3, (0, a3))]) d_X12_uses_6 (by decide) rfl ?_
  refine Tr.aload_n (pc := 8) (i := 0) d_X12_uses_8 rfl rfl ?_
  refine Tr.iload_n (pc := 9) (i := 1) d_X12_uses_9 rfl rfl ?_
  refine Tr.callV (pc := 10) (as := [_]) d_X12_uses_10 s_12_571 ok_X12_stateOf rfl rfl (Nat.le_of_ble_eq_true rfl) (Nat.le_of_ble_eq_true rfl) (by decide) (ty_120 hS.1.1) ?_
  refine Tr.imp (Tr.deep (by decide) (sp_X12_stateOf_120 hS.1.wk a1 (by omega))) ?_
  rintro M10 _ ⟨h10, r10, rfl, lr10, ur10, z10_0⟩
  have h10 := St.rn h10 (Tb1.of hS.1.2.2.2.2 (fun _ => (St.ka h10 (by decide) (by decide) (by decide))) (St.kp h10 (by decide) (by decide) (by decide)))
  have hS := St.tr hS h10 (by decide) (by decide)
  have ka10_120_59 : rd M10 120 59 = g120_59 := ((St.kp h10 (by decide) (by decide) (by decide)).trans eg120_59)
  obtain ⟨w10_120_61, ew10_120_61⟩ : ∃ v, rd M10 120 61 = v := ⟨_, rfl⟩
  have bw10_120_61 : 0 ≤ w10_120_61 ∧ w10_120_61 ≤ 3 := by rw [← ew10_120_61]; exact ir_120_61 hS.1.2.1
  have ka10_120_61 : rd M10 120 61 = w10_120_61 := ew10_120_61
  refine Tr.sc [(0, r10)] rfl ?_
  have J25 : ∀ (M : Mem) (q25_0 : Int), St Tb1 ws_X12_uses_120_w1 as_X12_uses_120_w1 M0 M → ((-2147483648) ≤ q25_0 ∧ q25_0 ≤ 2147483647) → rd M 120 59 = g120_59 → rd M 120 61 = w10_120_61 → rd M 120 62 = g120_62 → rd M 120 68 = g120_68 → rd M 120 75 = g120_75 → rd M 120 79 = g120_79 → rd M 126 1 = g126_1 → Tr l K 5 mX12_uses 25 [(0, (2, 120)), (1, (0, a1)), (2, (0, a2)), (3, (0, a3)), (4, (0, (g120_62 - 1)))] [(0, q25_0)] M (q_X12_uses_120_w1 a1 a2 a3 M0) := by
    intro M q25_0 hS bq25_0 k25_120_59 k25_120_61 k25_120_62 k25_120_68 k25_120_75 k25_120_79 k25_126_1
    refine Tr.istore (pc := 25) (i := 5) (ls2 := [(5, (0, q25_0)), (0, (2, 120)), (1, (0, a1)), (2, (0, a2)), (3, (0, a3)), (4, (0, (g120_62 - 1)))]) d_X12_uses_25 (by decide) rfl ?_
    refine Tr.aload_n (pc := 27) (i := 0) d_X12_uses_27 rfl rfl ?_
    refine Tr.iload_n (pc := 28) (i := 1) d_X12_uses_28 rfl rfl ?_
    refine Tr.iconst (pc := 29) d_X12_uses_29 (by decide) ?_
    refine Tr.iload (pc := 30) (i := 5) d_X12_uses_30 rfl ?_
    refine Tr.iload_n (pc := 32) (i := 3) d_X12_uses_32 rfl rfl ?_
    refine Tr.iconst (pc := 33) d_X12_uses_33 (by decide) ?_
    refine Tr.iload (pc := 34) (i := 4) d_X12_uses_34 rfl ?_
    refine Tr.callV (pc := 36) (as := [_, _, _, _, _, _]) d_X12_uses_36 s_12_587 ok_X12_ticksOf rfl rfl (Nat.le_of_ble_eq_true rfl) (Nat.le_of_ble_eq_true rfl) (by decide) (ty_120 hS.1.1) ?_
    have kb36_120_62 : rd M 120 62 = g120_62 := k25_120_62
    have kb36_120_75 : rd M 120 75 = g120_75 := k25_120_75
    refine Tr.imp (Tr.deep (by decide) (sp_X12_ticksOf_120_w1 hS.1 ((St.kp hS (by decide) (by decide) (by decide)).trans en_120_12) a1 (by omega) 1 (by omega) q25_0 (by omega) a3 (by omega) 1 (by omega) (g120_62 - 1) (by omega) (by omega) (by omega) (by omega) (by omega) (Bk1.of hF_Bk1 (fun j => (St.ka hS (by decide) (by decide) (by decide))) (fun j => (St.ka hS (by decide) (by decide) (by decide))) (fun j => (St.ka hS (by decide) (by decide) (by decide))) (fun j => (St.ka hS (by decide) (by decide) (by decide))) (fun j => (St.ka hS (by decide) (by decide) (by decide))) (fun j => (St.ka hS (by decide) (by decide) (by decide))) (fun j => (St.ka hS (by decide) (by decide) (by decide))) (fun j => (St.ka hS (by decide) (by decide) (by decide))) (St.kp hS (by decide) (by decide) (by decide)) (St.kp hS (by decide) (by decide) (by decide)) (St.kp hS (by decide) (by decide) (by decide)) (St.kp hS (by decide) (by decide) (by decide))))) ?_
    rintro M36 _ ⟨h36, r36, rfl, lr36, ur36, z36_0, z36_1, z36_2, z36_3⟩
    have hS := St.tr hS h36 (by decide) (by decide)
    obtain ⟨s36_120_59, es36_120_59⟩ : ∃ v, rd M36 120 59 = v := ⟨_, rfl⟩
    have bs36_120_59 : (-1) ≤ s36_120_59 ∧ s36_120_59 ≤ 5 := by rw [← es36_120_59]; exact ir_120_59 hS.1.2.1
    obtain ⟨s36_120_62, es36_120_62⟩ : ∃ v, rd M36 120 62 = v := ⟨_, rfl⟩
    have bs36_120_62 : 0 ≤ s36_120_62 ∧ s36_120_62 ≤ 2060 := by rw [← es36_120_62]; exact ir_120_62 hS.1.2.1
    obtain ⟨s36_120_68, es36_120_68⟩ : ∃ v, rd M36 120 68 = v := ⟨_, rfl⟩
    have bs36_120_68 : 0 ≤ s36_120_68 ∧ s36_120_68 ≤ 2 := by rw [← es36_120_68]; exact ir_120_68 hS.1.2.1
    obtain ⟨s36_120_75, es36_120_75⟩ : ∃ v, rd M36 120 75 = v := ⟨_, rfl⟩
    have bs36_120_75 : 0 ≤ s36_120_75 ∧ s36_120_75 ≤ 2100 := by rw [← es36_120_75]; exact ir_120_75 hS.1.2.1
    refine Tr.sc [(0, r36)] rfl ?_
    have J65 : ∀ (M : Mem) (u65_120_59 u65_120_62 u65_120_68 u65_120_75 : Int), St Tb1 ws_X12_uses_120_w1 as_X12_uses_120_w1 M0 M → ((-1) ≤ u65_120_59 ∧ u65_120_59 ≤ 5) → (0 ≤ u65_120_62 ∧ u65_120_62 ≤ 2060) → (0 ≤ u65_120_68 ∧ u65_120_68 ≤ 2) → (0 ≤ u65_120_75 ∧ u65_120_75 ≤ 2100) → rd M 120 59 = u65_120_59 → rd M 120 62 = u65_120_62 → rd M 120 68 = u65_120_68 → rd M 120 75 = u65_120_75 → rd M 120 79 = g120_79 → rd M 126 1 = g126_1 → (1 ≤ u65_120_68) → (u65_120_75 ≤ g120_75 + 1) → (g120_62 ≤ u65_120_62 ∧ u65_120_62 ≤ 2000) → (u65_120_59 = -1) → Tr l K 5 mX12_uses 65 [(0, (2, 120)), (1, (0, a1)), (4, (0, (g120_62 - 1)))] [] M (q_X12_uses_120_w1 a1 a2 a3 M0) := by
      intro M u65_120_59 u65_120_62 u65_120_68 u65_120_75 hS bu65_120_59 bu65_120_62 bu65_120_68 bu65_120_75 k65_120_59 k65_120_62 k65_120_68 k65_120_75 k65_120_79 k65_126_1 t65_0 t65_1 t65_2 t65_3
      refine Tr.aload_n (pc := 65) (i := 0) d_X12_uses_65 rfl rfl ?_
      refine Tr.aload_n (pc := 66) (i := 0) d_X12_uses_66 rfl rfl ?_
      refine Tr.getf (pc := 67) d_X12_uses_67 f_12_201 (by decide) (by decide) (ty_120 hS.1.1) ?_
      refine Tr.tp u65_120_62 k65_120_62 ?_
      refine Tr.iload (pc := 70) (i := 4) d_X12_uses_70 rfl ?_
      refine Tr.iconst (pc := 72) d_X12_uses_72 (by decide) ?_
      refine Tr.iadd (pc := 73) d_X12_uses_73 ?_
      refine Tr.tp g120_62 ((w32_id (by omega)).trans (by omega)) ?_
      refine Tr.icmp_le (pc := 74) (tgt := 81) d_X12_uses_74 rfl (fun c74 => ?_) (fun c74 => ?_)
      · refine Tr.iconst (pc := 81) d_X12_uses_81 (by decide) ?_
        refine Tr.putfS (pc := 82) (P := St Tb1 ws_X12_uses_120_w1 as_X12_uses_120_w1 M0) d_X12_uses_82 f_12_195 (by decide) (by decide) (ty_120 hS.1.1) (st_120_60 hS (by decide) (by omega) (Tb1.of hS.1.2.2.2.2 (fun _ => rd_wb _ rfl) (rd_wb _ rfl))) (fun M82 hS w82 => ?_)
        refine Tr.iconst (pc := 85) d_X12_uses_85 (by decide) ?_
        have kr_120_59 : rd M82 120 59 = u65_120_59 := ((Wr.b w82 rfl).trans k65_120_59)
        have kr_120_62 : rd M82 120 62 = u65_120_62 := ((Wr.b w82 rfl).trans k65_120_62)
        have kr_120_68 : rd M82 120 68 = u65_120_68 := ((Wr.b w82 rfl).trans k65_120_68)
        have kr_120_75 : rd M82 120 75 = u65_120_75 := ((Wr.b w82 rfl).trans k65_120_75)
        have kr_120_79 : rd M82 120 79 = g120_79 := ((Wr.b w82 rfl).trans k65_120_79)
        exact Tr.zret (pc := 86) d_X12_uses_86 rfl (by omega) ⟨hS, _, rfl, by omega, by omega, by omega, by omega, by omega, by omega, by omega⟩
      · refine Tr.iload_n (pc := 77) (i := 1) d_X12_uses_77 rfl rfl ?_
        refine Tr.goto (pc := 78) (tgt := 82) d_X12_uses_78 rfl ?_
        refine Tr.putfS (pc := 82) (P := St Tb1 ws_X12_uses_120_w1 as_X12_uses_120_w1 M0) d_X12_uses_82 f_12_195 (by decide) (by decide) (ty_120 hS.1.1) (st_120_60 hS (by decide) (by omega) (Tb1.of hS.1.2.2.2.2 (fun _ => rd_wb _ rfl) (rd_wb _ rfl))) (fun M82 hS w82 => ?_)
        refine Tr.iconst (pc := 85) d_X12_uses_85 (by decide) ?_
        have kr_120_59 : rd M82 120 59 = u65_120_59 := ((Wr.b w82 rfl).trans k65_120_59)
        have kr_120_62 : rd M82 120 62 = u65_120_62 := ((Wr.b w82 rfl).trans k65_120_62)
        have kr_120_68 : rd M82 120 68 = u65_120_68 := ((Wr.b w82 rfl).trans k65_120_68)
        have kr_120_75 : rd M82 120 75 = u65_120_75 := ((Wr.b w82 rfl).trans k65_120_75)
        have kr_120_79 : rd M82 120 79 = g120_79 := ((Wr.b w82 rfl).trans k65_120_79)
        exact Tr.zret (pc := 86) d_X12_uses_86 rfl (by omega) ⟨hS, _, rfl, by omega, by omega, by omega, by omega, by omega, by omega, by omega⟩
    refine Tr.if_eq (pc := 39) (tgt := 65) d_X12_uses_39 rfl (fun c39 => ?_) (fun c39 => ?_)
    · refine Tr.pick [1, 2, 5] (ls2 := [(0, (2, 120)), (1, (0, a1)), (4, (0, (g120_62 - 1)))]) rfl ?_
      exact J65 _ _ _ _ _ hS (by omega) (by omega) (by omega) (by omega) es36_120_59 es36_120_62 es36_120_68 es36_120_75 ((St.kp h36 (by decide) (by decide) (by decide)).trans k25_120_79) ((St.kp h36 (by decide) (by decide) (by decide)).trans k25_126_1) (by omega) (by omega) (by omega) (by omega)
    · refine Tr.aload_n (pc := 42) (i := 0) d_X12_uses_42 rfl rfl ?_
      refine Tr.iload_n (pc := 43) (i := 1) d_X12_uses_43 rfl rfl ?_
      refine Tr.iconst (pc := 44) d_X12_uses_44 (by decide) ?_
      refine Tr.iload_n (pc := 45) (i := 2) d_X12_uses_45 rfl rfl ?_
      refine Tr.iload_n (pc := 46) (i := 3) d_X12_uses_46 rfl rfl ?_
      refine Tr.iload (pc := 47) (i := 5) d_X12_uses_47 rfl ?_
      have J57 : ∀ (M : Mem) (q57_5 : Int), St Tb1 ws_X12_uses_120_w1 as_X12_uses_120_w1 M0 M → (0 ≤ q57_5 ∧ q57_5 ≤ 1) → rd M 120 59 = s36_120_59 → rd M 120 62 = s36_120_62 → rd M 120 68 = s36_120_68 → rd M 120 75 = s36_120_75 → rd M 120 79 = g120_79 → rd M 126 1 = g126_1 → (q57_5 = 0 ∨ q25_0 = 0) → (s36_120_75 = g120_75 ∨ (s36_120_75 = g120_75 + 1 ∧ 1 ≤ q25_0)) → (g120_62 ≤ s36_120_62 ∧ s36_120_62 ≤ 2000) → Tr l K 5 mX12_uses 57 [(0, (2, 120)), (1, (0, a1)), (2, (0, a2)), (3, (0, a3)), (4, (0, (g120_62 - 1))), (5, (0, q25_0))] [(0, q57_5), (0, a3), (0, a2), (0, 3), (0, a1), (2, 120)] M (q_X12_uses_120_w1 a1 a2 a3 M0) := by
        intro M q57_5 hS bq57_5 k57_120_59 k57_120_62 k57_120_68 k57_120_75 k57_120_79 k57_126_1 t57_0 t57_1 t57_2
        refine Tr.iload (pc := 57) (i := 4) d_X12_uses_57 rfl ?_
        refine Tr.callV (pc := 59) (as := [_, _, _, _, _, _]) d_X12_uses_59 s_12_587 ok_X12_ticksOf rfl rfl (Nat.le_of_ble_eq_true rfl) (Nat.le_of_ble_eq_true rfl) (by decide) (ty_120 hS.1.1) ?_
        have kb59_120_62 : rd M 120 62 = s36_120_62 := k57_120_62
        have kb59_120_75 : rd M 120 75 = s36_120_75 := k57_120_75
        refine Tr.imp (Tr.deep (by decide) (sp_X12_ticksOf_120_w1 hS.1 ((St.kp hS (by decide) (by decide) (by decide)).trans en_120_12) a1 (by omega) 3 (by omega) a2 (by omega) a3 (by omega) q57_5 (by omega) (g120_62 - 1) (by omega) (by omega) (by omega) (by omega) (by omega) (Bk1.of hF_Bk1 (fun j => (St.ka hS (by decide) (by decide) (by decide))) (fun j => (St.ka hS (by decide) (by decide) (by decide))) (fun j => (St.ka hS (by decide) (by decide) (by decide))) (fun j => (St.ka hS (by decide) (by decide) (by decide))) (fun j => (St.ka hS (by decide) (by decide) (by decide))) (fun j => (St.ka hS (by decide) (by decide) (by decide))) (fun j => (St.ka hS (by decide) (by decide) (by decide))) (fun j => (St.ka hS (by decide) (by decide) (by decide))) (St.kp hS (by decide) (by decide) (by decide)) (St.kp hS (by decide) (by decide) (by decide)) (St.kp hS (by decide) (by decide) (by decide)) (St.kp hS (by decide) (by decide) (by decide))))) ?_
        rintro M59 _ ⟨h59, r59, rfl, lr59, ur59, z59_0, z59_1, z59_2, z59_3⟩
        have hS := St.tr hS h59 (by decide) (by decide)
        obtain ⟨s59_120_59, es59_120_59⟩ : ∃ v, rd M59 120 59 = v := ⟨_, rfl⟩
        have bs59_120_59 : (-1) ≤ s59_120_59 ∧ s59_120_59 ≤ 5 := by rw [← es59_120_59]; exact ir_120_59 hS.1.2.1
        obtain ⟨s59_120_62, es59_120_62⟩ : ∃ v, rd M59 120 62 = v := ⟨_, rfl⟩
        have bs59_120_62 : 0 ≤ s59_120_62 ∧ s59_120_62 ≤ 2060 := by rw [← es59_120_62]; exact ir_120_62 hS.1.2.1
        obtain ⟨s59_120_68, es59_120_68⟩ : ∃ v, rd M59 120 68 = v := ⟨_, rfl⟩
        have bs59_120_68 : 0 ≤ s59_120_68 ∧ s59_120_68 ≤ 2 := by rw [← es59_120_68]; exact ir_120_68 hS.1.2.1
        obtain ⟨s59_120_75, es59_120_75⟩ : ∃ v, rd M59 120 75 = v := ⟨_, rfl⟩
        have bs59_120_75 : 0 ≤ s59_120_75 ∧ s59_120_75 ≤ 2100 := by rw [← es59_120_75]; exact ir_120_75 hS.1.2.1
        refine Tr.sc [(0, r59)] rfl ?_
        refine Tr.if_ne (pc := 62) (tgt := 87) d_X12_uses_62 rfl (fun c62 => ?_) (fun c62 => ?_)
        · refine Tr.iload (pc := 87) (i := 5) d_X12_uses_87 rfl ?_
          refine Tr.iload_n (pc := 89) (i := 2) d_X12_uses_89 rfl rfl ?_
          refine Tr.iadd (pc := 90) d_X12_uses_90 ?_
          refine Tr.gen (P := fun v => ((-2147483648) ≤ v ∧ v ≤ 2147483647) ∧ (v ≠ 0 ∨ q25_0 + a2 = 0)) (w32_z (by omega) (by omega)) (fun r90 er90 br90 => ?_)
          have J102 : ∀ (M : Mem) (u102_120_75 : Int), St Tb1 ws_X12_uses_120_w1 as_X12_uses_120_w1 M0 M → (0 ≤ u102_120_75 ∧ u102_120_75 ≤ 2100) → rd M 120 59 = s59_120_59 → rd M 120 62 = s59_120_62 → rd M 120 68 = s59_120_68 → rd M 120 75 = u102_120_75 → rd M 120 79 = g120_79 → rd M 126 1 = g126_1 → (u102_120_75 ≤ g120_75 + 1) → (g120_62 ≤ s59_120_62 ∧ s59_120_62 ≤ 2000) → (s59_120_59 = -1) → Tr l K 5 mX12_uses 102 [(0, (2, 120)), (1, (0, a1)), (2, (0, a2)), (3, (0, a3))] [] M (q_X12_uses_120_w1 a1 a2 a3 M0) := by
            intro M u102_120_75 hS bu102_120_75 k102_120_59 k102_120_62 k102_120_68 k102_120_75 k102_120_79 k102_126_1 t102_0 t102_1 t102_2
            refine Tr.iload_n (pc := 102) (i := 2) d_X12_uses_102 rfl rfl ?_
            have J156 : ∀ (M : Mem) (u156_120_79 : Int), St Tb1 ws_X12_uses_120_w1 as_X12_uses_120_w1 M0 M → (0 ≤ u156_120_79 ∧ u156_120_79 ≤ 2100) → rd M 120 59 = s59_120_59 → rd M 120 62 = s59_120_62 → rd M 120 68 = s59_120_68 → rd M 120 75 = u102_120_75 → rd M 120 79 = u156_120_79 → rd M 126 1 = g126_1 → (u102_120_75 ≤ g120_75 + 1) → (g120_62 ≤ s59_120_62 ∧ s59_120_62 ≤ 2000) → (u156_120_79 ≤ g120_79 + 1) → (s59_120_59 = -1) → Tr l K 5 mX12_uses 156 [(0, (2, 120)), (1, (0, a1))] [] M (q_X12_uses_120_w1 a1 a2 a3 M0) := by
              intro M u156_120_79 hS bu156_120_79 k156_120_59 k156_120_62 k156_120_68 k156_120_75 k156_120_79 k156_126_1 t156_0 t156_1 t156_2 t156_3
              refine Tr.aload_n (pc := 156) (i := 0) d_X12_uses_156 rfl rfl ?_
              refine Tr.getf (pc := 157) d_X12_uses_157 f_12_183 (by decide) (by decide) (ty_120 hS.1.1) ?_
              refine Tr.tp 158 (fx_120_56 hS.1.1) ?_
              refine Tr.iload_n (pc := 160) (i := 1) d_X12_uses_160 rfl rfl ?_
              refine Tr.aload_n (pc := 161) (i := 0) d_X12_uses_161 rfl rfl ?_
              refine Tr.iload_n (pc := 162) (i := 1) d_X12_uses_162 rfl rfl ?_
              refine Tr.callV (pc := 163) (as := [_]) d_X12_uses_163 s_12_591 ok_X12_tails rfl rfl (Nat.le_of_ble_eq_true rfl) (Nat.le_of_ble_eq_true rfl) (by decide) (ty_120 hS.1.1) ?_
              refine Tr.imp (Tr.deep (by decide) (sp_X12_tails_120_w1 hS.1.wk ((St.kp hS (by decide) (by decide) (by decide)).trans en_120_12) a1 (by omega) (Bk1.of hF_Bk1 (fun j => (St.ka hS (by decide) (by decide) (by decide))) (fun j => (St.ka hS (by decide) (by decide) (by decide))) (fun j => (St.ka hS (by decide) (by decide) (by decide))) (fun j => (St.ka hS (by decide) (by decide) (by decide))) (fun j => (St.ka hS (by decide) (by decide) (by decide))) (fun j => (St.ka hS (by decide) (by decide) (by decide))) (fun j => (St.ka hS (by decide) (by decide) (by decide))) (fun j => (St.ka hS (by decide) (by decide) (by decide))) (St.kp hS (by decide) (by decide) (by decide)) (St.kp hS (by decide) (by decide) (by decide)) (St.kp hS (by decide) (by decide) (by decide)) (St.kp hS (by decide) (by decide) (by decide))))) ?_
              rintro M163 _ ⟨h163, r163, rfl, lr163, ur163, z163_0⟩
              have h163 := St.rn h163 (Tb1.of hS.1.2.2.2.2 (fun _ => (St.ka h163 (by decide) (by decide) (by decide))) (St.kp h163 (by decide) (by decide) (by decide)))
              have hS := St.tr hS h163 (by decide) (by decide)
              have ka163_126_1 : rd M163 126 1 = g126_1 := ((St.kp h163 (by decide) (by decide) (by decide)).trans k156_126_1)
              refine Tr.sc [(0, r163), (0, a1), (2, 158)] rfl ?_
              refine Tr.iastS (pc := 166) (P := St Tb1 ws_X12_uses_120_w1 as_X12_uses_120_w1 M0) d_X12_uses_166 (ty_158 hS.1.1) (by omega) (by omega) (sa_158 hS (by decide) (by omega) (Tb1_wr hS.1.2.2.2.2 (fun i0 i1 => by omega))) (fun M166 hS w166 => ?_)
              refine Tr.iconst (pc := 167) d_X12_uses_167 (by decide) ?_
              have kr_120_59 : rd M166 120 59 = s59_120_59 := ((Wr.b w166 rfl).trans ((St.kp h163 (by decide) (by decide) (by decide)).trans k156_120_59))
              have kr_120_62 : rd M166 120 62 = s59_120_62 := ((Wr.b w166 rfl).trans ((St.kp h163 (by decide) (by decide) (by decide)).trans k156_120_62))
              have kr_120_68 : rd M166 120 68 = s59_120_68 := ((Wr.b w166 rfl).trans ((St.kp h163 (by decide) (by decide) (by decide)).trans k156_120_68))
              have kr_120_75 : rd M166 120 75 = u102_120_75 := ((Wr.b w166 rfl).trans ((St.kp h163 (by decide) (by decide) (by decide)).trans k156_120_75))
              have kr_120_79 : rd M166 120 79 = u156_120_79 := ((Wr.b w166 rfl).trans ((St.kp h163 (by decide) (by decide) (by decide)).trans k156_120_79))
              exact Tr.zret (pc := 168) d_X12_uses_168 rfl (by omega) ⟨hS, _, rfl, by omega, by omega, by omega, by omega, by omega, by omega, by omega⟩
            refine Tr.if_ne (pc := 103) (tgt := 156) d_X12_uses_103 rfl (fun c103 => ?_) (fun c103 => ?_)
            · refine Tr.pick [0, 1] (ls2 := [(0, (2, 120)), (1, (0, a1))]) rfl ?_
              exact J156 _ _ hS (by omega) k102_120_59 k102_120_62 k102_120_68 k102_120_75 k102_120_79 k102_126_1 (by omega) (by omega) (by omega) (by omega)
            · refine Tr.aload_n (pc := 106) (i := 0) d_X12_uses_106 rfl rfl ?_
              refine Tr.getz (pc := 107) d_X12_uses_107 f_12_225 (by decide) (ty_120 hS.1.1) ?_
              refine Tr.gen (P := fun v => 0 ≤ v ∧ v ≤ 1) (ir_120_70 hS.1.2.1) (fun r107 er107 br107 => ?_)
              refine Tr.if_eq (pc := 110) (tgt := 156) d_X12_uses_110 rfl (fun c110 => ?_) (fun c110 => ?_)
              · refine Tr.pick [0, 1] (ls2 := [(0, (2, 120)), (1, (0, a1))]) rfl ?_
                exact J156 _ _ hS (by omega) k102_120_59 k102_120_62 k102_120_68 k102_120_75 k102_120_79 k102_126_1 (by omega) (by omega) (by omega) (by omega)
              · refine Tr.aload_n (pc := 113) (i := 0) d_X12_uses_113 rfl rfl ?_
                refine Tr.getf (pc := 114) d_X12_uses_114 f_12_255 (by decide) (by decide) (ty_120 hS.1.1) ?_
                refine Tr.tp 169 (fx_120_80 hS.1.1) ?_
                refine Tr.aload_n (pc := 117) (i := 0) d_X12_uses_117 rfl rfl ?_
                refine Tr.getf (pc := 118) d_X12_uses_118 f_12_252 (by decide) (by decide) (ty_120 hS.1.1) ?_
                refine Tr.tp g120_79 k102_120_79 ?_
                refine Tr.iload_n (pc := 121) (i := 1) d_X12_uses_121 rfl rfl ?_
                refine Tr.iastS (pc := 122) (P := St Tb1 ws_X12_uses_120_w1 as_X12_uses_120_w1 M0) d_X12_uses_122 (ty_169 hS.1.1) (by omega) (by omega) (sa_169 hS (by decide) (by omega) (Tb1.of hS.1.2.2.2.2 (fun _ => rd_wb _ rfl) (rd_wb _ rfl))) (fun M122 hS w122 => ?_)
                refine Tr.aload_n (pc := 123) (i := 0) d_X12_uses_123 rfl rfl ?_
                refine Tr.getf (pc := 124) d_X12_uses_124 f_12_258 (by decide) (by decide) (ty_120 hS.1.1) ?_
                refine Tr.tp 170 (fx_120_81 hS.1.1) ?_
                refine Tr.aload_n (pc := 127) (i := 0) d_X12_uses_127 rfl rfl ?_
                refine Tr.getf (pc := 128) d_X12_uses_128 f_12_252 (by decide) (by decide) (ty_120 hS.1.1) ?_
                refine Tr.tp g120_79 ((Wr.b w122 rfl).trans k102_120_79) ?_
                refine Tr.iload_n (pc := 131) (i := 3) d_X12_uses_131 rfl rfl ?_
                refine Tr.iastS (pc := 132) (P := St Tb1 ws_X12_uses_120_w1 as_X12_uses_120_w1 M0) d_X12_uses_132 (ty_170 hS.1.1) (by omega) (by omega) (sa_170 hS (by decide) (by omega) (Tb1.of hS.1.2.2.2.2 (fun _ => rd_wb _ rfl) (rd_wb _ rfl))) (fun M132 hS w132 => ?_)
                refine Tr.aload_n (pc := 133) (i := 0) d_X12_uses_133 rfl rfl ?_
                refine Tr.getf (pc := 134) d_X12_uses_134 f_12_261 (by decide) (by decide) (ty_120 hS.1.1) ?_
                refine Tr.tp 171 (fx_120_82 hS.1.1) ?_
                refine Tr.aload_n (pc := 137) (i := 0) d_X12_uses_137 rfl rfl ?_
                refine Tr.getf (pc := 138) d_X12_uses_138 f_12_252 (by decide) (by decide) (ty_120 hS.1.1) ?_
                refine Tr.tp g120_79 ((Wr.b w132 rfl).trans ((Wr.b w122 rfl).trans k102_120_79)) ?_
                refine Tr.aload_n (pc := 141) (i := 0) d_X12_uses_141 rfl rfl ?_
                refine Tr.getf (pc := 142) d_X12_uses_142 f_12_201 (by decide) (by decide) (ty_120 hS.1.1) ?_
                refine Tr.tp s59_120_62 ((Wr.b w132 rfl).trans ((Wr.b w122 rfl).trans k102_120_62)) ?_
                refine Tr.iastS (pc := 145) (P := St Tb1 ws_X12_uses_120_w1 as_X12_uses_120_w1 M0) d_X12_uses_145 (ty_171 hS.1.1) (by omega) (by omega) (sa_171 hS (by decide) (by omega) (Tb1.of hS.1.2.2.2.2 (fun _ => rd_wb _ rfl) (rd_wb _ rfl))) (fun M145 hS w145 => ?_)
                refine Tr.aload_n (pc := 146) (i := 0) d_X12_uses_146 rfl rfl ?_
                refine Tr.dup (pc := 147) d_X12_uses_147 ne21 ?_
                refine Tr.getf (pc := 148) d_X12_uses_148 f_12_252 (by decide) (by decide) (ty_120 hS.1.1) ?_
                refine Tr.tp g120_79 ((Wr.b w145 rfl).trans ((Wr.b w132 rfl).trans ((Wr.b w122 rfl).trans k102_120_79))) ?_
                refine Tr.iconst (pc := 151) d_X12_uses_151 (by decide) ?_
                refine Tr.iadd (pc := 152) d_X12_uses_152 ?_
                refine Tr.tp (g120_79 + 1) ((w32_id (by omega)).trans (by omega)) ?_
                refine Tr.putfS (pc := 153) (P := St Tb1 ws_X12_uses_120_w1 as_X12_uses_120_w1 M0) d_X12_uses_153 f_12_252 (by decide) (by decide) (ty_120 hS.1.1) (st_120_79 hS (by decide) (by omega) (Tb1.of hS.1.2.2.2.2 (fun _ => rd_wb _ rfl) (rd_wb _ rfl))) (fun M153 hS w153 => ?_)
                refine Tr.pick [0, 1] (ls2 := [(0, (2, 120)), (1, (0, a1))]) rfl ?_
                exact J156 _ _ hS (by omega) ((Wr.b w153 rfl).trans ((Wr.b w145 rfl).trans ((Wr.b w132 rfl).trans ((Wr.b w122 rfl).trans k102_120_59)))) ((Wr.b w153 rfl).trans ((Wr.b w145 rfl).trans ((Wr.b w132 rfl).trans ((Wr.b w122 rfl).trans k102_120_62)))) ((Wr.b w153 rfl).trans ((Wr.b w145 rfl).trans ((Wr.b w132 rfl).trans ((Wr.b w122 rfl).trans k102_120_68)))) ((Wr.b w153 rfl).trans ((Wr.b w145 rfl).trans ((Wr.b w132 rfl).trans ((Wr.b w122 rfl).trans k102_120_75)))) w153.1 ((Wr.b w153 rfl).trans ((Wr.b w145 rfl).trans ((Wr.b w132 rfl).trans ((Wr.b w122 rfl).trans k102_126_1)))) (by omega) (by omega) (by omega) (by omega)
          refine Tr.if_ne (pc := 91) (tgt := 102) d_X12_uses_91 rfl (fun c91 => ?_) (fun c91 => ?_)
          · refine Tr.pick [0, 1, 2, 3] (ls2 := [(0, (2, 120)), (1, (0, a1)), (2, (0, a2)), (3, (0, a3))]) rfl ?_
            exact J102 _ _ hS (by omega) es59_120_59 es59_120_62 es59_120_68 es59_120_75 ((St.kp h59 (by decide) (by decide) (by decide)).trans k57_120_79) ((St.kp h59 (by decide) (by decide) (by decide)).trans k57_126_1) (by omega) (by omega) (by omega)
          · refine Tr.aload_n (pc := 94) (i := 0) d_X12_uses_94 rfl rfl ?_
            refine Tr.iload_n (pc := 95) (i := 1) d_X12_uses_95 rfl rfl ?_
            refine Tr.iload_n (pc := 96) (i := 3) d_X12_uses_96 rfl rfl ?_
            refine Tr.iload (pc := 97) (i := 4) d_X12_uses_97 rfl ?_
            refine Tr.callV (pc := 99) (as := [_, _, _]) d_X12_uses_99 s_12_580 ok_X12_acts rfl rfl (Nat.le_of_ble_eq_true rfl) (Nat.le_of_ble_eq_true rfl) (by decide) (ty_120 hS.1.1) ?_
            have kb99_120_75 : rd M59 120 75 = s59_120_75 := es59_120_75
            refine Tr.imp (Tr.deep (by decide) (sp_X12_acts_120 hS.1.wk a1 (by omega) a3 (by omega) (g120_62 - 1) (by omega) (by omega))) ?_
            rintro M99 _ ⟨h99, rfl, z99_0⟩
            have h99 := St.rn h99 (Tb1.of hS.1.2.2.2.2 (fun _ => (St.ka h99 (by decide) (by decide) (by decide))) (St.kp h99 (by decide) (by decide) (by decide)))
            have hS := St.tr hS h99 (by decide) (by decide)
            obtain ⟨s99_120_75, es99_120_75⟩ : ∃ v, rd M99 120 75 = v := ⟨_, rfl⟩
            have bs99_120_75 : 0 ≤ s99_120_75 ∧ s99_120_75 ≤ 2100 := by rw [← es99_120_75]; exact ir_120_75 hS.1.2.1
            refine Tr.sc [] rfl ?_
            refine Tr.pick [0, 1, 2, 3] (ls2 := [(0, (2, 120)), (1, (0, a1)), (2, (0, a2)), (3, (0, a3))]) rfl ?_
            exact J102 _ _ hS (by omega) ((St.kp h99 (by decide) (by decide) (by decide)).trans es59_120_59) ((St.kp h99 (by decide) (by decide) (by decide)).trans es59_120_62) ((St.kp h99 (by decide) (by decide) (by decide)).trans es59_120_68) es99_120_75 ((St.kp h99 (by decide) (by decide) (by decide)).trans ((St.kp h59 (by decide) (by decide) (by decide)).trans k57_120_79)) ((St.kp h99 (by decide) (by decide) (by decide)).trans ((St.kp h59 (by decide) (by decide) (by decide)).trans k57_126_1)) (by omega) (by omega) (by omega)
        · refine Tr.pick [0, 1, 4] (ls2 := [(0, (2, 120)), (1, (0, a1)), (4, (0, (g120_62 - 1)))]) rfl ?_
          exact J65 _ _ _ _ _ hS (by omega) (by omega) (by omega) (by omega) es59_120_59 es59_120_62 es59_120_68 es59_120_75 ((St.kp h59 (by decide) (by decide) (by decide)).trans k57_120_79) ((St.kp h59 (by decide) (by decide) (by decide)).trans k57_126_1) (by omega) (by omega) (by omega) (by omega)
      refine Tr.if_ne (pc := 49) (tgt := 56) d_X12_uses_49 rfl (fun c49 => ?_) (fun c49 => ?_)
      · refine Tr.iconst (pc := 56) d_X12_uses_56 (by decide) ?_
        refine Tr.pick [1, 2, 3, 4, 5, 0] (ls2 := [(0, (2, 120)), (1, (0, a1)), (2, (0, a2)), (3, (0, a3)), (4, (0, (g120_62 - 1))), (5, (0, q25_0))]) rfl ?_
        exact J57 _ _ hS (by omega) es36_120_59 es36_120_62 es36_120_68 es36_120_75 ((St.kp h36 (by decide) (by decide) (by decide)).trans k25_120_79) ((St.kp h36 (by decide) (by decide) (by decide)).trans k25_126_1) (by first | assumption | omega) (by first | assumption | omega) (by omega)
      · refine Tr.iconst (pc := 52) d_X12_uses_52 (by decide) ?_
        refine Tr.goto (pc := 53) (tgt := 57) d_X12_uses_53 rfl ?_
        refine Tr.pick [1, 2, 3, 4, 5, 0] (ls2 := [(0, (2, 120)), (1, (0, a1)), (2, (0, a2)), (3, (0, a3)), (4, (0, (g120_62 - 1))), (5, (0, q25_0))]) rfl ?_
        exact J57 _ _ hS (by omega) es36_120_59 es36_120_62 es36_120_68 es36_120_75 ((St.kp h36 (by decide) (by decide) (by decide)).trans k25_120_79) ((St.kp h36 (by decide) (by decide) (by decide)).trans k25_126_1) (by first | assumption | omega) (by first | assumption | omega) (by omega)
  refine Tr.if_ne (pc := 13) (tgt := 24) d_X12_uses_13 rfl (fun c13 => ?_) (fun c13 => ?_)
  · refine Tr.iconst (pc := 24) d_X12_uses_24 (by decide) ?_
    refine Tr.pick [1, 2, 3, 4, 0] (ls2 := [(0, (2, 120)), (1, (0, a1)), (2, (0, a2)), (3, (0, a3)), (4, (0, (g120_62 - 1)))]) rfl ?_
    exact J25 _ _ hS (by omega) ((St.kp h10 (by decide) (by decide) (by decide)).trans eg120_59) ew10_120_61 ((St.kp h10 (by decide) (by decide) (by decide)).trans eg120_62) ((St.kp h10 (by decide) (by decide) (by decide)).trans eg120_68) ((St.kp h10 (by decide) (by decide) (by decide)).trans eg120_75) ((St.kp h10 (by decide) (by decide) (by decide)).trans eg120_79) ((St.kp h10 (by decide) (by decide) (by decide)).trans eg126_1)
  · refine Tr.aload_n (pc := 16) (i := 0) d_X12_uses_16 rfl rfl ?_
    refine Tr.iload_n (pc := 17) (i := 1) d_X12_uses_17 rfl rfl ?_
    refine Tr.callV (pc := 18) (as := [_]) d_X12_uses_18 s_12_584 ok_X12_wakes rfl rfl (Nat.le_of_ble_eq_true rfl) (Nat.le_of_ble_eq_true rfl) (by decide) (ty_120 hS.1.1) ?_
    refine Tr.imp (Tr.deep (by decide) (sp_X12_wakes_120_w1 hS.1.wk ((St.kp hS (by decide) (by decide) (by decide)).trans en_120_12) a1 (by omega) (Bk1.of hF_Bk1 (fun j => (St.ka hS (by decide) (by decide) (by decide))) (fun j => (St.ka hS (by decide) (by decide) (by decide))) (fun j => (St.ka hS (by decide) (by decide) (by decide))) (fun j => (St.ka hS (by decide) (by decide) (by decide))) (fun j => (St.ka hS (by decide) (by decide) (by decide))) (fun j => (St.ka hS (by decide) (by decide) (by decide))) (fun j => (St.ka hS (by decide) (by decide) (by decide))) (fun j => (St.ka hS (by decide) (by decide) (by decide))) (St.kp hS (by decide) (by decide) (by decide)) (St.kp hS (by decide) (by decide) (by decide)) (St.kp hS (by decide) (by decide) (by decide)) (St.kp hS (by decide) (by decide) (by decide))))) ?_
    rintro M18 _ ⟨h18, r18, rfl, lr18, ur18⟩
    have h18 := St.rn h18 (Tb1.of hS.1.2.2.2.2 (fun _ => (St.ka h18 (by decide) (by decide) (by decide))) (St.kp h18 (by decide) (by decide) (by decide)))
    have hS := St.tr hS h18 (by decide) (by decide)
    refine Tr.sc [(0, r18)] rfl ?_
    refine Tr.goto (pc := 21) (tgt := 25) d_X12_uses_21 rfl ?_
    refine Tr.pick [1, 2, 3, 4, 0] (ls2 := [(0, (2, 120)), (1, (0, a1)), (2, (0, a2)), (3, (0, a3)), (4, (0, (g120_62 - 1)))]) rfl ?_
    exact J25 _ _ hS (by omega) ((St.kp h18 (by decide) (by decide) (by decide)).trans ((St.kp h10 (by decide) (by decide) (by decide)).trans eg120_59)) ((St.kp h18 (by decide) (by decide) (by decide)).trans ew10_120_61) ((St.kp h18 (by decide) (by decide) (by decide)).trans ((St.kp h10 (by decide) (by decide) (by decide)).trans eg120_62)) ((St.kp h18 (by decide) (by decide) (by decide)).trans ((St.kp h10 (by decide) (by decide) (by decide)).trans eg120_68)) ((St.kp h18 (by decide) (by decide) (by decide)).trans ((St.kp h10 (by decide) (by decide) (by decide)).trans eg120_75)) ((St.kp h18 (by decide) (by decide) (by decide)).trans ((St.kp h10 (by decide) (by decide) (by decide)).trans eg120_79)) ((St.kp h18 (by decide) (by decide) (by decide)).trans ((St.kp h10 (by decide) (by decide) (by decide)).trans eg126_1))
end
/-! 40.04 -/
section
def ws_X12_does_120_w1 : List (Int × Int) := [(120, 59), (120, 60), (120, 61), (120, 62), (120, 63), (120, 65), (120, 66), (120, 68), (120, 75), (120, 79)]
def as_X12_does_120_w1 : List Int := [155, 156, 157, 158, 159, 160, 161, 162, 163, 164, 165, 166, 167, 168, 169, 170, 171, 172]
def q_X12_does_120_w1 (a1 : Int) (M0 M' : Mem) (r : Option PV) : Prop := St Tb1 ws_X12_does_120_w1 as_X12_does_120_w1 M0 M' ∧ ∃ v : Int, r = some (0, v) ∧ 0 ≤ v ∧ v ≤ 1 ∧ (rd M' 120 75 ≤ rd M' 120 62) ∧ (rd M' 120 79 ≤ rd M' 120 62) ∧ (rd M0 120 62 ≤ rd M' 120 62 ∧ rd M' 120 62 ≤ 2000) ∧ (v = 1 ∨ 1 ≤ rd M' 120 68) ∧ (rd M' 120 59 = -1)
set_option maxRecDepth 100000 in
set_option maxHeartbeats 4000000 in
theorem sp_X12_does_120_w1 {l : Launch} {K : EC} {M0 : Mem} (hI : In Tb1 M0) (en_120_12 : rd M0 120 12 = 1) (a1 : Int) (ha1 : 0 ≤ a1 ∧ a1 ≤ 399)  (hq0 : rd M0 120 75 + 1 ≤ rd M0 120 62) (hq1 : rd M0 120 79 + 1 ≤ rd M0 120 62) (hq2 : rd M0 120 62 ≤ 2000) (hq3 : rd M0 120 59 = -1) (hq4 : 0 ≤ rd M0 138 a1) (hq5 : 200 ≤ a1 ∧ a1 < 200 + rd M0 136 1) (hF_Bk1 : Bk1 M0) : Tr l K 6 mX12_does 0 [(0, (2, 120)), (1, (0, a1))] [] M0 (q_X12_does_120_w1 a1 M0) := by
  have hS : St Tb1 ws_X12_does_120_w1 as_X12_does_120_w1 M0 M0 := St.rf hI
  obtain ⟨g120_62, eg120_62⟩ : ∃ v, rd M0 120 62 = v := ⟨_, rfl⟩
  have bg120_62 : 0 ≤ g120_62 ∧ g120_62 ≤ 2060 := by rw [← eg120_62]; exact ir_120_62 hI.2.1
  obtain ⟨g120_68, eg120_68⟩ : ∃ v, rd M0 120 68 = v := ⟨_, rfl⟩
  have bg120_68 : 0 ≤ g120_68 ∧ g120_68 ≤ 2 := by rw [← eg120_68]; exact ir_120_68 hI.2.1
  obtain ⟨g120_75, eg120_75⟩ : ∃ v, rd M0 120 75 = v := ⟨_, rfl⟩
  have bg120_75 : 0 ≤ g120_75 ∧ g120_75 ≤ 2100 := by rw [← eg120_75]; exact ir_120_75 hI.2.1
  obtain ⟨g120_79, eg120_79⟩ : ∃ v, rd M0 120 79 = v := ⟨_, rfl⟩
  have bg120_79 : 0 ≤ g120_79 ∧ g120_79 ≤ 2100 := by rw [← eg120_79]; exact ir_120_79 hI.2.1
  obtain ⟨g120_59, eg120_59⟩ : ∃ v, rd M0 120 59 = v := ⟨_, rfl⟩
  have bg120_59 : (-1) ≤ g120_59 ∧ g120_59 ≤ 5 := by rw [← eg120_59]; exact ir_120_59 hI.2.1
  obtain ⟨g136_1, eg136_1⟩ : ∃ v, rd M0 136 1 = v := ⟨_, rfl⟩
  have bg136_1 : 0 ≤ g136_1 ∧ g136_1 ≤ 200 := by rw [← eg136_1]; exact ir_136_1 hI.2.1
  refine Tr.aload_n (pc := 0) (i := 0) d_X12_does_0 rfl rfl ?_
  refine Tr.getf (pc := 1) d_X12_does_1 f_12_100 (by decide) (by decide) (ty_120 hS.1.1) ?_
  refine Tr.tp 138 (fx_120_29 hS.1.1) ?_
  refine Tr.iload_n (pc := 4) (i := 1) d_X12_does_4 rfl rfl ?_
  refine Tr.iald (pc := 5) d_X12_does_5 (ty_138 hS.1.1) (by omega) (by omega) ?_
  refine Tr.gen (P := fun v => 0 ≤ v ∧ v ≤ 59) (by have h9 := (ar_138 hS.1.2.1 (a1)); have h8 := hq4; omega) (fun r5 er5 br5 => ?_)
  refine Tr.istore_n (pc := 6) (i := 2) (ls2 := [(2, (0, r5)), (0, (2, 120)), (1, (0, a1))]) d_X12_does_6 rfl (by decide) rfl ?_
  refine Tr.aload_n (pc := 7) (i := 0) d_X12_does_7 rfl rfl ?_
  refine Tr.getf (pc := 8) d_X12_does_8 f_12_103 (by decide) (by decide) (ty_120 hS.1.1) ?_
  refine Tr.tp 139 (fx_120_30 hS.1.1) ?_
  refine Tr.iload_n (pc := 11) (i := 1) d_X12_does_11 rfl rfl ?_
  refine Tr.iald (pc := 12) d_X12_does_12 (ty_139 hS.1.1) (by omega) (by omega) ?_
  refine Tr.gen (P := fun v => 0 ≤ v ∧ v ≤ 5) (by have h9 := (ar_139 hS.1.2.1 (a1)); have e8 := eg136_1; have h8 := Bk1_wt (Bk1.of hF_Bk1 (fun j => (St.ka hS (by decide) (by decide) (by decide))) (fun j => (St.ka hS (by decide) (by decide) (by decide))) (fun j => (St.ka hS (by decide) (by decide) (by decide))) (fun j => (St.ka hS (by decide) (by decide) (by decide))) (fun j => (St.ka hS (by decide) (by decide) (by decide))) (fun j => (St.ka hS (by decide) (by decide) (by decide))) (fun j => (St.ka hS (by decide) (by decide) (by decide))) (fun j => (St.ka hS (by decide) (by decide) (by decide))) (St.kp hS (by decide) (by decide) (by decide)) (St.kp hS (by decide) (by decide) (by decide)) (St.kp hS (by decide) (by decide) (by decide)) (St.kp hS (by decide) (by decide) (by decide))) (i := a1) (by omega) (by omega); omega) (fun r12 er12 br12 => ?_)
  refine Tr.istore_n (pc := 13) (i := 3) (ls2 := [(3, (0, r12)), (2, (0, r5)), (0, (2, 120)), (1, (0, a1))]) d_X12_does_13 rfl (by decide) rfl ?_
  refine Tr.aload_n (pc := 14) (i := 0) d_X12_does_14 rfl rfl ?_
  refine Tr.getf (pc := 15) d_X12_does_15 f_12_97 (by decide) (by decide) (ty_120 hS.1.1) ?_
  refine Tr.tp 137 (fx_120_28 hS.1.1) ?_
  refine Tr.iload_n (pc := 18) (i := 1) d_X12_does_18 rfl rfl ?_
  refine Tr.iald (pc := 19) d_X12_does_19 (ty_137 hS.1.1) (by omega) (by omega) ?_
  refine Tr.gen (P := fun v => 0 ≤ v ∧ v ≤ 8) (ar_137 hS.1.2.1 _) (fun r19 er19 br19 => ?_)
  rcases (show (r19 < 1 ∨ 5 < r19) ∨ r19 = 1 ∨ r19 = 2 ∨ r19 = 3 ∨ r19 = 4 ∨ r19 = 5 by omega) with c20 | c20 | c20 | c20 | c20 | c20
  · refine Tr.tswOut (pc := 20) (tgt := 122) d_X12_does_20 c20 rfl ?_
    refine Tr.aload_n (pc := 122) (i := 0) d_X12_does_122 rfl rfl ?_
    refine Tr.iload_n (pc := 123) (i := 1) d_X12_does_123 rfl rfl ?_
    refine Tr.callV (pc := 124) (as := [_]) d_X12_does_124 s_12_614 ok_X12_works rfl rfl (Nat.le_of_ble_eq_true rfl) (Nat.le_of_ble_eq_true rfl) (by decide) (ty_120 hS.1.1) ?_
    have kb124_136_1 : rd M0 136 1 = g136_1 := eg136_1
    refine Tr.imp (Tr.deep (by decide) (sp_X12_works_120_w1 hS.1.wk ((St.kp hS (by decide) (by decide) (by decide)).trans en_120_12) a1 (by omega) (by omega) (Bk1.of hF_Bk1 (fun j => (St.ka hS (by decide) (by decide) (by decide))) (fun j => (St.ka hS (by decide) (by decide) (by decide))) (fun j => (St.ka hS (by decide) (by decide) (by decide))) (fun j => (St.ka hS (by decide) (by decide) (by decide))) (fun j => (St.ka hS (by decide) (by decide) (by decide))) (fun j => (St.ka hS (by decide) (by decide) (by decide))) (fun j => (St.ka hS (by decide) (by decide) (by decide))) (fun j => (St.ka hS (by decide) (by decide) (by decide))) (St.kp hS (by decide) (by decide) (by decide)) (St.kp hS (by decide) (by decide) (by decide)) (St.kp hS (by decide) (by decide) (by decide)) (St.kp hS (by decide) (by decide) (by decide))))) ?_
    rintro M124 _ ⟨h124, r124, rfl, lr124, ur124⟩
    have h124 := St.rn h124 (Tb1.of hS.1.2.2.2.2 (fun _ => (St.ka h124 (by decide) (by decide) (by decide))) (St.kp h124 (by decide) (by decide) (by decide)))
    have hS := St.tr hS h124 (by decide) (by decide)
    refine Tr.sc [(1, r124)] rfl ?_
    refine Tr.lstore (pc := 127) (i := 4) (ls2 := [(4, (1, r124)), (3, (0, r12)), (2, (0, r5)), (0, (2, 120)), (1, (0, a1))]) d_X12_does_127 (by decide) rfl ?_
    refine Tr.aload_n (pc := 129) (i := 0) d_X12_does_129 rfl rfl ?_
    refine Tr.lload (pc := 130) (i := 4) d_X12_does_130 rfl ?_
    refine Tr.ldc2 (pc := 132) d_X12_does_132 kl_12_631 (by decide) ?_
    refine Tr.lload (pc := 135) (i := 4) d_X12_does_135 rfl ?_
    refine Tr.ldc2 (pc := 137) d_X12_does_137 kl_12_631 (by decide) ?_
    refine Tr.callS (pc := 140) (as := [_, _]) d_X12_does_140 s_12_602 ok_X12_floor rfl rfl (Nat.le_of_ble_eq_true rfl) (Nat.le_of_ble_eq_true rfl) ?_
    refine Tr.imp (Tr.deep (by decide) (sp_X12_floor hS.1.wk r124 (by omega) 1000 (by omega))) ?_
    rintro M140 _ ⟨h140, r140, rfl, lr140, ur140, wr140⟩
    have h140 := St.rn h140 (Tb1.of hS.1.2.2.2.2 (fun _ => (St.ka h140 (by decide) (by decide) (by decide))) (St.kp h140 (by decide) (by decide) (by decide)))
    have hS := St.tr hS h140 (by decide) (by decide)
    refine Tr.sc [(1, r140), (1, 1000), (1, r124), (2, 120)] rfl ?_
    refine Tr.lmul (pc := 143) d_X12_does_143 ?_
    refine Tr.gen (P := fun v => ((-9223372036854775808) ≤ v ∧ v ≤ 9223372036854775807) ∧ v % 18446744073709551616 = (1000 * r140) % 18446744073709551616) (mul1000 _) (fun r143 er143 br143 => ?_)
    refine Tr.lsub (pc := 144) d_X12_does_144 ?_
    refine Tr.gen (P := fun v => 0 ≤ v ∧ v ≤ 999) (sub1000 br143.2 (by omega)) (fun r144 er144 br144 => ?_)
    refine Tr.l2i (pc := 145) d_X12_does_145 ?_
    refine Tr.tp r144 (w32_id (by omega)) ?_
    refine Tr.iload_n (pc := 146) (i := 2) d_X12_does_146 rfl rfl ?_
    refine Tr.callV (pc := 147) (as := [_, _]) d_X12_does_147 s_12_633 ok_X12_touches rfl rfl (Nat.le_of_ble_eq_true rfl) (Nat.le_of_ble_eq_true rfl) (by decide) (ty_120 hS.1.1) ?_
    have kb147_120_59 : rd M140 120 59 = g120_59 := ((St.kp h140 (by decide) (by decide) (by decide)).trans ((St.kp h124 (by decide) (by decide) (by decide)).trans eg120_59))
    have kb147_120_62 : rd M140 120 62 = g120_62 := ((St.kp h140 (by decide) (by decide) (by decide)).trans ((St.kp h124 (by decide) (by decide) (by decide)).trans eg120_62))
    have kb147_120_75 : rd M140 120 75 = g120_75 := ((St.kp h140 (by decide) (by decide) (by decide)).trans ((St.kp h124 (by decide) (by decide) (by decide)).trans eg120_75))
    refine Tr.imp (Tr.deep (by decide) (sp_X12_touches_120_w1 hS.1 ((St.kp hS (by decide) (by decide) (by decide)).trans en_120_12) r144 (by omega) r5 (by omega) (by omega) (by omega) (by omega) (Bk1.of hF_Bk1 (fun j => (St.ka hS (by decide) (by decide) (by decide))) (fun j => (St.ka hS (by decide) (by decide) (by decide))) (fun j => (St.ka hS (by decide) (by decide) (by decide))) (fun j => (St.ka hS (by decide) (by decide) (by decide))) (fun j => (St.ka hS (by decide) (by decide) (by decide))) (fun j => (St.ka hS (by decide) (by decide) (by decide))) (fun j => (St.ka hS (by decide) (by decide) (by decide))) (fun j => (St.ka hS (by decide) (by decide) (by decide))) (St.kp hS (by decide) (by decide) (by decide)) (St.kp hS (by decide) (by decide) (by decide)) (St.kp hS (by decide) (by decide) (by decide)) (St.kp hS (by decide) (by decide) (by decide))))) ?_
    rintro M147 _ ⟨h147, r147, rfl, lr147, ur147, z147_0, z147_1, z147_2, z147_3⟩
    have hS := St.tr hS h147 (by decide) (by decide)
    obtain ⟨s147_120_59, es147_120_59⟩ : ∃ v, rd M147 120 59 = v := ⟨_, rfl⟩
    have bs147_120_59 : (-1) ≤ s147_120_59 ∧ s147_120_59 ≤ 5 := by rw [← es147_120_59]; exact ir_120_59 hS.1.2.1
    obtain ⟨s147_120_62, es147_120_62⟩ : ∃ v, rd M147 120 62 = v := ⟨_, rfl⟩
    have bs147_120_62 : 0 ≤ s147_120_62 ∧ s147_120_62 ≤ 2060 := by rw [← es147_120_62]; exact ir_120_62 hS.1.2.1
    obtain ⟨s147_120_68, es147_120_68⟩ : ∃ v, rd M147 120 68 = v := ⟨_, rfl⟩
    have bs147_120_68 : 0 ≤ s147_120_68 ∧ s147_120_68 ≤ 2 := by rw [← es147_120_68]; exact ir_120_68 hS.1.2.1
    obtain ⟨s147_120_75, es147_120_75⟩ : ∃ v, rd M147 120 75 = v := ⟨_, rfl⟩
    have bs147_120_75 : 0 ≤ s147_120_75 ∧ s147_120_75 ≤ 2100 := by rw [← es147_120_75]; exact ir_120_75 hS.1.2.1
    refine Tr.sc [(0, r147)] rfl ?_
    have kr_120_59 : rd M147 120 59 = s147_120_59 := es147_120_59
    have kr_120_62 : rd M147 120 62 = s147_120_62 := es147_120_62
    have kr_120_68 : rd M147 120 68 = s147_120_68 := es147_120_68
    have kr_120_75 : rd M147 120 75 = s147_120_75 := es147_120_75
    have kr_120_79 : rd M147 120 79 = g120_79 := ((St.kp h147 (by decide) (by decide) (by decide)).trans ((St.kp h140 (by decide) (by decide) (by decide)).trans ((St.kp h124 (by decide) (by decide) (by decide)).trans eg120_79)))
    exact Tr.zret (pc := 150) d_X12_does_150 rfl (by omega) ⟨hS, _, rfl, by omega, by omega, by omega, by omega, by omega, by omega, by omega⟩
  · refine Tr.tp 1 c20 ?_
    refine Tr.tswIn (pc := 20) (off := 36) (tgt := 56) d_X12_does_20 (by decide) (by decide) rfl rfl ?_
    refine Tr.aload_n (pc := 56) (i := 0) d_X12_does_56 rfl rfl ?_
    refine Tr.getf (pc := 57) d_X12_does_57 f_12_174 (by decide) (by decide) (ty_120 hS.1.1) ?_
    refine Tr.tp 155 (fx_120_53 hS.1.1) ?_
    refine Tr.iload_n (pc := 60) (i := 3) d_X12_does_60 rfl rfl ?_
    refine Tr.aload_n (pc := 61) (i := 0) d_X12_does_61 rfl rfl ?_
    refine Tr.iload_n (pc := 62) (i := 1) d_X12_does_62 rfl rfl ?_
    refine Tr.callV (pc := 63) (as := [_]) d_X12_does_63 s_12_614 ok_X12_works rfl rfl (Nat.le_of_ble_eq_true rfl) (Nat.le_of_ble_eq_true rfl) (by decide) (ty_120 hS.1.1) ?_
    have kb63_136_1 : rd M0 136 1 = g136_1 := eg136_1
    refine Tr.imp (Tr.deep (by decide) (sp_X12_works_120_w1 hS.1.wk ((St.kp hS (by decide) (by decide) (by decide)).trans en_120_12) a1 (by omega) (by omega) (Bk1.of hF_Bk1 (fun j => (St.ka hS (by decide) (by decide) (by decide))) (fun j => (St.ka hS (by decide) (by decide) (by decide))) (fun j => (St.ka hS (by decide) (by decide) (by decide))) (fun j => (St.ka hS (by decide) (by decide) (by decide))) (fun j => (St.ka hS (by decide) (by decide) (by decide))) (fun j => (St.ka hS (by decide) (by decide) (by decide))) (fun j => (St.ka hS (by decide) (by decide) (by decide))) (fun j => (St.ka hS (by decide) (by decide) (by decide))) (St.kp hS (by decide) (by decide) (by decide)) (St.kp hS (by decide) (by decide) (by decide)) (St.kp hS (by decide) (by decide) (by decide)) (St.kp hS (by decide) (by decide) (by decide))))) ?_
    rintro M63 _ ⟨h63, r63, rfl, lr63, ur63⟩
    have h63 := St.rn h63 (Tb1.of hS.1.2.2.2.2 (fun _ => (St.ka h63 (by decide) (by decide) (by decide))) (St.kp h63 (by decide) (by decide) (by decide)))
    have hS := St.tr hS h63 (by decide) (by decide)
    refine Tr.sc [(1, r63), (0, r12), (2, 155)] rfl ?_
    refine Tr.l2i (pc := 66) d_X12_does_66 ?_
    refine Tr.gen (P := fun v => (-2147483648) ≤ v ∧ v ≤ 2147483647) (w32_b _) (fun r66 er66 br66 => ?_)
    refine Tr.iastS (pc := 67) (P := St Tb1 ws_X12_does_120_w1 as_X12_does_120_w1 M0) d_X12_does_67 (ty_155 hS.1.1) (by omega) (by omega) (sa_155 hS (by decide) (by omega) (Tb1.of hS.1.2.2.2.2 (fun _ => rd_wb _ rfl) (rd_wb _ rfl))) (fun M67 hS w67 => ?_)
    refine Tr.iconst (pc := 68) d_X12_does_68 (by decide) ?_
    have kr_120_59 : rd M67 120 59 = g120_59 := ((Wr.b w67 rfl).trans ((St.kp h63 (by decide) (by decide) (by decide)).trans eg120_59))
    have kr_120_62 : rd M67 120 62 = g120_62 := ((Wr.b w67 rfl).trans ((St.kp h63 (by decide) (by decide) (by decide)).trans eg120_62))
    have kr_120_68 : rd M67 120 68 = g120_68 := ((Wr.b w67 rfl).trans ((St.kp h63 (by decide) (by decide) (by decide)).trans eg120_68))
    have kr_120_75 : rd M67 120 75 = g120_75 := ((Wr.b w67 rfl).trans ((St.kp h63 (by decide) (by decide) (by decide)).trans eg120_75))
    have kr_120_79 : rd M67 120 79 = g120_79 := ((Wr.b w67 rfl).trans ((St.kp h63 (by decide) (by decide) (by decide)).trans eg120_79))
    exact Tr.zret (pc := 69) d_X12_does_69 rfl (by omega) ⟨hS, _, rfl, by omega, by omega, by omega, by omega, by omega, by omega, by omega⟩
  · refine Tr.tp 2 c20 ?_
    refine Tr.tswIn (pc := 20) (off := 50) (tgt := 70) d_X12_does_20 (by decide) (by decide) rfl rfl ?_
    refine Tr.aload_n (pc := 70) (i := 0) d_X12_does_70 rfl rfl ?_
    refine Tr.iload_n (pc := 71) (i := 3) d_X12_does_71 rfl rfl ?_
    refine Tr.aload_n (pc := 72) (i := 0) d_X12_does_72 rfl rfl ?_
    refine Tr.iload_n (pc := 73) (i := 1) d_X12_does_73 rfl rfl ?_
    refine Tr.callV (pc := 74) (as := [_]) d_X12_does_74 s_12_614 ok_X12_works rfl rfl (Nat.le_of_ble_eq_true rfl) (Nat.le_of_ble_eq_true rfl) (by decide) (ty_120 hS.1.1) ?_
    have kb74_136_1 : rd M0 136 1 = g136_1 := eg136_1
    refine Tr.imp (Tr.deep (by decide) (sp_X12_works_120_w1 hS.1.wk ((St.kp hS (by decide) (by decide) (by decide)).trans en_120_12) a1 (by omega) (by omega) (Bk1.of hF_Bk1 (fun j => (St.ka hS (by decide) (by decide) (by decide))) (fun j => (St.ka hS (by decide) (by decide) (by decide))) (fun j => (St.ka hS (by decide) (by decide) (by decide))) (fun j => (St.ka hS (by decide) (by decide) (by decide))) (fun j => (St.ka hS (by decide) (by decide) (by decide))) (fun j => (St.ka hS (by decide) (by decide) (by decide))) (fun j => (St.ka hS (by decide) (by decide) (by decide))) (fun j => (St.ka hS (by decide) (by decide) (by decide))) (St.kp hS (by decide) (by decide) (by decide)) (St.kp hS (by decide) (by decide) (by decide)) (St.kp hS (by decide) (by decide) (by decide)) (St.kp hS (by decide) (by decide) (by decide))))) ?_
    rintro M74 _ ⟨h74, r74, rfl, lr74, ur74⟩
    have h74 := St.rn h74 (Tb1.of hS.1.2.2.2.2 (fun _ => (St.ka h74 (by decide) (by decide) (by decide))) (St.kp h74 (by decide) (by decide) (by decide)))
    have hS := St.tr hS h74 (by decide) (by decide)
    refine Tr.sc [(1, r74), (0, r12), (2, 120)] rfl ?_
    refine Tr.bipush (pc := 77) d_X12_does_77 rfl (by decide) ?_
    refine Tr.callS (pc := 79) (as := [_, _]) d_X12_does_79 s_12_618 ok_X12_within rfl rfl (Nat.le_of_ble_eq_true rfl) (Nat.le_of_ble_eq_true rfl) ?_
    refine Tr.imp (Tr.deep (by decide) (sp_X12_within_v50 hS.1.wk r74 (by omega))) ?_
    rintro M79 _ ⟨h79, r79, rfl, lr79, ur79, z79_0⟩
    have h79 := St.rn h79 (Tb1.of hS.1.2.2.2.2 (fun _ => (St.ka h79 (by decide) (by decide) (by decide))) (St.kp h79 (by decide) (by decide) (by decide)))
    have hS := St.tr hS h79 (by decide) (by decide)
    refine Tr.sc [(0, r79), (0, r12), (2, 120)] rfl ?_
    refine Tr.iload_n (pc := 82) (i := 2) d_X12_does_82 rfl rfl ?_
    refine Tr.callV (pc := 83) (as := [_, _, _]) d_X12_does_83 s_12_621 ok_X12_uses rfl rfl (Nat.le_of_ble_eq_true rfl) (Nat.le_of_ble_eq_true rfl) (by decide) (ty_120 hS.1.1) ?_
    have kb83_120_62 : rd M79 120 62 = g120_62 := ((St.kp h79 (by decide) (by decide) (by decide)).trans ((St.kp h74 (by decide) (by decide) (by decide)).trans eg120_62))
    have kb83_120_75 : rd M79 120 75 = g120_75 := ((St.kp h79 (by decide) (by decide) (by decide)).trans ((St.kp h74 (by decide) (by decide) (by decide)).trans eg120_75))
    have kb83_120_79 : rd M79 120 79 = g120_79 := ((St.kp h79 (by decide) (by decide) (by decide)).trans ((St.kp h74 (by decide) (by decide) (by decide)).trans eg120_79))
    refine Tr.imp (Tr.deep (by decide) (sp_X12_uses_120_w1 hS.1 ((St.kp hS (by decide) (by decide) (by decide)).trans en_120_12) r12 (by omega) r79 (by omega) r5 (by omega) (by omega) (by omega) (by omega) (Bk1.of hF_Bk1 (fun j => (St.ka hS (by decide) (by decide) (by decide))) (fun j => (St.ka hS (by decide) (by decide) (by decide))) (fun j => (St.ka hS (by decide) (by decide) (by decide))) (fun j => (St.ka hS (by decide) (by decide) (by decide))) (fun j => (St.ka hS (by decide) (by decide) (by decide))) (fun j => (St.ka hS (by decide) (by decide) (by decide))) (fun j => (St.ka hS (by decide) (by decide) (by decide))) (fun j => (St.ka hS (by decide) (by decide) (by decide))) (St.kp hS (by decide) (by decide) (by decide)) (St.kp hS (by decide) (by decide) (by decide)) (St.kp hS (by decide) (by decide) (by decide)) (St.kp hS (by decide) (by decide) (by decide))))) ?_
    rintro M83 _ ⟨h83, r83, rfl, lr83, ur83, z83_0, z83_1, z83_2, z83_3, z83_4⟩
    have hS := St.tr hS h83 (by decide) (by decide)
    obtain ⟨s83_120_59, es83_120_59⟩ : ∃ v, rd M83 120 59 = v := ⟨_, rfl⟩
    have bs83_120_59 : (-1) ≤ s83_120_59 ∧ s83_120_59 ≤ 5 := by rw [← es83_120_59]; exact ir_120_59 hS.1.2.1
    obtain ⟨s83_120_62, es83_120_62⟩ : ∃ v, rd M83 120 62 = v := ⟨_, rfl⟩
    have bs83_120_62 : 0 ≤ s83_120_62 ∧ s83_120_62 ≤ 2060 := by rw [← es83_120_62]; exact ir_120_62 hS.1.2.1
    obtain ⟨s83_120_68, es83_120_68⟩ : ∃ v, rd M83 120 68 = v := ⟨_, rfl⟩
    have bs83_120_68 : 0 ≤ s83_120_68 ∧ s83_120_68 ≤ 2 := by rw [← es83_120_68]; exact ir_120_68 hS.1.2.1
    obtain ⟨s83_120_75, es83_120_75⟩ : ∃ v, rd M83 120 75 = v := ⟨_, rfl⟩
    have bs83_120_75 : 0 ≤ s83_120_75 ∧ s83_120_75 ≤ 2100 := by rw [← es83_120_75]; exact ir_120_75 hS.1.2.1
    obtain ⟨s83_120_79, es83_120_79⟩ : ∃ v, rd M83 120 79 = v := ⟨_, rfl⟩
    have bs83_120_79 : 0 ≤ s83_120_79 ∧ s83_120_79 ≤ 2100 := by rw [← es83_120_79]; exact ir_120_79 hS.1.2.1
    refine Tr.sc [(0, r83)] rfl ?_
    have kr_120_59 : rd M83 120 59 = s83_120_59 := es83_120_59
    have kr_120_62 : rd M83 120 62 = s83_120_62 := es83_120_62
    have kr_120_68 : rd M83 120 68 = s83_120_68 := es83_120_68
    have kr_120_75 : rd M83 120 75 = s83_120_75 := es83_120_75
    have kr_120_79 : rd M83 120 79 = s83_120_79 := es83_120_79
    exact Tr.zret (pc := 86) d_X12_does_86 rfl (by omega) ⟨hS, _, rfl, by omega, by omega, by omega, by omega, by omega, by omega, by omega⟩
  · refine Tr.tp 3 c20 ?_
    refine Tr.tswIn (pc := 20) (off := 67) (tgt := 87) d_X12_does_20 (by decide) (by decide) rfl rfl ?_
    refine Tr.aload_n (pc := 87) (i := 0) d_X12_does_87 rfl rfl ?_
    refine Tr.iload_n (pc := 88) (i := 3) d_X12_does_88 rfl rfl ?_
    refine Tr.iload_n (pc := 89) (i := 2) d_X12_does_89 rfl rfl ?_
    refine Tr.callV (pc := 90) (as := [_, _]) d_X12_does_90 s_12_624 ok_X12_holds rfl rfl (Nat.le_of_ble_eq_true rfl) (Nat.le_of_ble_eq_true rfl) (by decide) (ty_120 hS.1.1) ?_
    have kb90_120_59 : rd M0 120 59 = g120_59 := eg120_59
    have kb90_120_62 : rd M0 120 62 = g120_62 := eg120_62
    have kb90_120_75 : rd M0 120 75 = g120_75 := eg120_75
    refine Tr.imp (Tr.deep (by decide) (sp_X12_holds_120_w1 hS.1 ((St.kp hS (by decide) (by decide) (by decide)).trans en_120_12) r12 (by omega) r5 (by omega) (by omega) (by omega) (by omega) (Bk1.of hF_Bk1 (fun j => (St.ka hS (by decide) (by decide) (by decide))) (fun j => (St.ka hS (by decide) (by decide) (by decide))) (fun j => (St.ka hS (by decide) (by decide) (by decide))) (fun j => (St.ka hS (by decide) (by decide) (by decide))) (fun j => (St.ka hS (by decide) (by decide) (by decide))) (fun j => (St.ka hS (by decide) (by decide) (by decide))) (fun j => (St.ka hS (by decide) (by decide) (by decide))) (fun j => (St.ka hS (by decide) (by decide) (by decide))) (St.kp hS (by decide) (by decide) (by decide)) (St.kp hS (by decide) (by decide) (by decide)) (St.kp hS (by decide) (by decide) (by decide)) (St.kp hS (by decide) (by decide) (by decide))))) ?_
    rintro M90 _ ⟨h90, r90, rfl, lr90, ur90, z90_0, z90_1, z90_2, z90_3⟩
    have hS := St.tr hS h90 (by decide) (by decide)
    obtain ⟨s90_120_59, es90_120_59⟩ : ∃ v, rd M90 120 59 = v := ⟨_, rfl⟩
    have bs90_120_59 : (-1) ≤ s90_120_59 ∧ s90_120_59 ≤ 5 := by rw [← es90_120_59]; exact ir_120_59 hS.1.2.1
    obtain ⟨s90_120_62, es90_120_62⟩ : ∃ v, rd M90 120 62 = v := ⟨_, rfl⟩
    have bs90_120_62 : 0 ≤ s90_120_62 ∧ s90_120_62 ≤ 2060 := by rw [← es90_120_62]; exact ir_120_62 hS.1.2.1
    obtain ⟨s90_120_68, es90_120_68⟩ : ∃ v, rd M90 120 68 = v := ⟨_, rfl⟩
    have bs90_120_68 : 0 ≤ s90_120_68 ∧ s90_120_68 ≤ 2 := by rw [← es90_120_68]; exact ir_120_68 hS.1.2.1
    obtain ⟨s90_120_75, es90_120_75⟩ : ∃ v, rd M90 120 75 = v := ⟨_, rfl⟩
    have bs90_120_75 : 0 ≤ s90_120_75 ∧ s90_120_75 ≤ 2100 := by rw [← es90_120_75]; exact ir_120_75 hS.1.2.1
    refine Tr.sc [(0, r90)] rfl ?_
    have kr_120_59 : rd M90 120 59 = s90_120_59 := es90_120_59
    have kr_120_62 : rd M90 120 62 = s90_120_62 := es90_120_62
    have kr_120_68 : rd M90 120 68 = s90_120_68 := es90_120_68
    have kr_120_75 : rd M90 120 75 = s90_120_75 := es90_120_75
    have kr_120_79 : rd M90 120 79 = g120_79 := ((St.kp h90 (by decide) (by decide) (by decide)).trans eg120_79)
    exact Tr.zret (pc := 93) d_X12_does_93 rfl (by omega) ⟨hS, _, rfl, by omega, by omega, by omega, by omega, by omega, by omega, by omega⟩
  · refine Tr.tp 4 c20 ?_
    refine Tr.tswIn (pc := 20) (off := 74) (tgt := 94) d_X12_does_20 (by decide) (by decide) rfl rfl ?_
    refine Tr.aload_n (pc := 94) (i := 0) d_X12_does_94 rfl rfl ?_
    refine Tr.iload_n (pc := 95) (i := 3) d_X12_does_95 rfl rfl ?_
    refine Tr.iload_n (pc := 96) (i := 2) d_X12_does_96 rfl rfl ?_
    refine Tr.callV (pc := 97) (as := [_, _]) d_X12_does_97 s_12_628 ok_X12_frees rfl rfl (Nat.le_of_ble_eq_true rfl) (Nat.le_of_ble_eq_true rfl) (by decide) (ty_120 hS.1.1) ?_
    have kb97_120_62 : rd M0 120 62 = g120_62 := eg120_62
    have kb97_120_75 : rd M0 120 75 = g120_75 := eg120_75
    refine Tr.imp (Tr.deep (by decide) (sp_X12_frees_120_w1 hS.1 ((St.kp hS (by decide) (by decide) (by decide)).trans en_120_12) r12 (by omega) r5 (by omega) (by omega) (Bk1.of hF_Bk1 (fun j => (St.ka hS (by decide) (by decide) (by decide))) (fun j => (St.ka hS (by decide) (by decide) (by decide))) (fun j => (St.ka hS (by decide) (by decide) (by decide))) (fun j => (St.ka hS (by decide) (by decide) (by decide))) (fun j => (St.ka hS (by decide) (by decide) (by decide))) (fun j => (St.ka hS (by decide) (by decide) (by decide))) (fun j => (St.ka hS (by decide) (by decide) (by decide))) (fun j => (St.ka hS (by decide) (by decide) (by decide))) (St.kp hS (by decide) (by decide) (by decide)) (St.kp hS (by decide) (by decide) (by decide)) (St.kp hS (by decide) (by decide) (by decide)) (St.kp hS (by decide) (by decide) (by decide))))) ?_
    rintro M97 _ ⟨h97, rfl, z97_0⟩
    have hS := St.tr hS h97 (by decide) (by decide)
    have ka97_120_62 : rd M97 120 62 = g120_62 := ((St.kp h97 (by decide) (by decide) (by decide)).trans eg120_62)
    obtain ⟨s97_120_75, es97_120_75⟩ : ∃ v, rd M97 120 75 = v := ⟨_, rfl⟩
    have bs97_120_75 : 0 ≤ s97_120_75 ∧ s97_120_75 ≤ 2100 := by rw [← es97_120_75]; exact ir_120_75 hS.1.2.1
    refine Tr.sc [] rfl ?_
    refine Tr.iconst (pc := 100) d_X12_does_100 (by decide) ?_
    have kr_120_59 : rd M97 120 59 = g120_59 := ((St.kp h97 (by decide) (by decide) (by decide)).trans eg120_59)
    have kr_120_62 : rd M97 120 62 = g120_62 := ((St.kp h97 (by decide) (by decide) (by decide)).trans eg120_62)
    have kr_120_68 : rd M97 120 68 = g120_68 := ((St.kp h97 (by decide) (by decide) (by decide)).trans eg120_68)
    have kr_120_75 : rd M97 120 75 = s97_120_75 := es97_120_75
    have kr_120_79 : rd M97 120 79 = g120_79 := ((St.kp h97 (by decide) (by decide) (by decide)).trans eg120_79)
    exact Tr.zret (pc := 101) d_X12_does_101 rfl (by omega) ⟨hS, _, rfl, by omega, by omega, by omega, by omega, by omega, by omega, by omega⟩
  · refine Tr.tp 5 c20 ?_
    refine Tr.tswIn (pc := 20) (off := 82) (tgt := 102) d_X12_does_20 (by decide) (by decide) rfl rfl ?_
    refine Tr.aload_n (pc := 102) (i := 0) d_X12_does_102 rfl rfl ?_
    refine Tr.iconst (pc := 103) d_X12_does_103 (by decide) ?_
    refine Tr.iconst (pc := 104) d_X12_does_104 (by decide) ?_
    refine Tr.aload_n (pc := 105) (i := 0) d_X12_does_105 rfl rfl ?_
    refine Tr.iload_n (pc := 106) (i := 1) d_X12_does_106 rfl rfl ?_
    refine Tr.callV (pc := 107) (as := [_]) d_X12_does_107 s_12_614 ok_X12_works rfl rfl (Nat.le_of_ble_eq_true rfl) (Nat.le_of_ble_eq_true rfl) (by decide) (ty_120 hS.1.1) ?_
    have kb107_136_1 : rd M0 136 1 = g136_1 := eg136_1
    refine Tr.imp (Tr.deep (by decide) (sp_X12_works_120_w1 hS.1.wk ((St.kp hS (by decide) (by decide) (by decide)).trans en_120_12) a1 (by omega) (by omega) (Bk1.of hF_Bk1 (fun j => (St.ka hS (by decide) (by decide) (by decide))) (fun j => (St.ka hS (by decide) (by decide) (by decide))) (fun j => (St.ka hS (by decide) (by decide) (by decide))) (fun j => (St.ka hS (by decide) (by decide) (by decide))) (fun j => (St.ka hS (by decide) (by decide) (by decide))) (fun j => (St.ka hS (by decide) (by decide) (by decide))) (fun j => (St.ka hS (by decide) (by decide) (by decide))) (fun j => (St.ka hS (by decide) (by decide) (by decide))) (St.kp hS (by decide) (by decide) (by decide)) (St.kp hS (by decide) (by decide) (by decide)) (St.kp hS (by decide) (by decide) (by decide)) (St.kp hS (by decide) (by decide) (by decide))))) ?_
    rintro M107 _ ⟨h107, r107, rfl, lr107, ur107⟩
    have h107 := St.rn h107 (Tb1.of hS.1.2.2.2.2 (fun _ => (St.ka h107 (by decide) (by decide) (by decide))) (St.kp h107 (by decide) (by decide) (by decide)))
    have hS := St.tr hS h107 (by decide) (by decide)
    refine Tr.sc [(1, r107), (0, 0), (0, (-1)), (2, 120)] rfl ?_
    refine Tr.bipush (pc := 110) d_X12_does_110 rfl (by decide) ?_
    refine Tr.callS (pc := 112) (as := [_, _]) d_X12_does_112 s_12_618 ok_X12_within rfl rfl (Nat.le_of_ble_eq_true rfl) (Nat.le_of_ble_eq_true rfl) ?_
    refine Tr.imp (Tr.deep (by decide) (sp_X12_within_v100 hS.1.wk r107 (by omega))) ?_
    rintro M112 _ ⟨h112, r112, rfl, lr112, ur112, z112_0⟩
    have h112 := St.rn h112 (Tb1.of hS.1.2.2.2.2 (fun _ => (St.ka h112 (by decide) (by decide) (by decide))) (St.kp h112 (by decide) (by decide) (by decide)))
    have hS := St.tr hS h112 (by decide) (by decide)
    refine Tr.sc [(0, r112), (0, 0), (0, (-1)), (2, 120)] rfl ?_
    refine Tr.iload_n (pc := 115) (i := 2) d_X12_does_115 rfl rfl ?_
    refine Tr.iconst (pc := 116) d_X12_does_116 (by decide) ?_
    refine Tr.iconst (pc := 117) d_X12_does_117 (by decide) ?_
    refine Tr.callV (pc := 118) (as := [_, _, _, _, _, _]) d_X12_does_118 s_12_587 ok_X12_ticksOf rfl rfl (Nat.le_of_ble_eq_true rfl) (Nat.le_of_ble_eq_true rfl) (by decide) (ty_120 hS.1.1) ?_
    have kb118_120_62 : rd M112 120 62 = g120_62 := ((St.kp h112 (by decide) (by decide) (by decide)).trans ((St.kp h107 (by decide) (by decide) (by decide)).trans eg120_62))
    have kb118_120_75 : rd M112 120 75 = g120_75 := ((St.kp h112 (by decide) (by decide) (by decide)).trans ((St.kp h107 (by decide) (by decide) (by decide)).trans eg120_75))
    refine Tr.imp (Tr.deep (by decide) (sp_X12_ticksOf_120_w1 hS.1 ((St.kp hS (by decide) (by decide) (by decide)).trans en_120_12) (-1) (by omega) 0 (by omega) r112 (by omega) r5 (by omega) 0 (by omega) 0 (by omega) (by omega) (by omega) (by omega) (by omega) (Bk1.of hF_Bk1 (fun j => (St.ka hS (by decide) (by decide) (by decide))) (fun j => (St.ka hS (by decide) (by decide) (by decide))) (fun j => (St.ka hS (by decide) (by decide) (by decide))) (fun j => (St.ka hS (by decide) (by decide) (by decide))) (fun j => (St.ka hS (by decide) (by decide) (by decide))) (fun j => (St.ka hS (by decide) (by decide) (by decide))) (fun j => (St.ka hS (by decide) (by decide) (by decide))) (fun j => (St.ka hS (by decide) (by decide) (by decide))) (St.kp hS (by decide) (by decide) (by decide)) (St.kp hS (by decide) (by decide) (by decide)) (St.kp hS (by decide) (by decide) (by decide)) (St.kp hS (by decide) (by decide) (by decide))))) ?_
    rintro M118 _ ⟨h118, r118, rfl, lr118, ur118, z118_0, z118_1, z118_2, z118_3⟩
    have hS := St.tr hS h118 (by decide) (by decide)
    obtain ⟨s118_120_59, es118_120_59⟩ : ∃ v, rd M118 120 59 = v := ⟨_, rfl⟩
    have bs118_120_59 : (-1) ≤ s118_120_59 ∧ s118_120_59 ≤ 5 := by rw [← es118_120_59]; exact ir_120_59 hS.1.2.1
    obtain ⟨s118_120_62, es118_120_62⟩ : ∃ v, rd M118 120 62 = v := ⟨_, rfl⟩
    have bs118_120_62 : 0 ≤ s118_120_62 ∧ s118_120_62 ≤ 2060 := by rw [← es118_120_62]; exact ir_120_62 hS.1.2.1
    obtain ⟨s118_120_68, es118_120_68⟩ : ∃ v, rd M118 120 68 = v := ⟨_, rfl⟩
    have bs118_120_68 : 0 ≤ s118_120_68 ∧ s118_120_68 ≤ 2 := by rw [← es118_120_68]; exact ir_120_68 hS.1.2.1
    obtain ⟨s118_120_75, es118_120_75⟩ : ∃ v, rd M118 120 75 = v := ⟨_, rfl⟩
    have bs118_120_75 : 0 ≤ s118_120_75 ∧ s118_120_75 ≤ 2100 := by rw [← es118_120_75]; exact ir_120_75 hS.1.2.1
    refine Tr.sc [(0, r118)] rfl ?_
    have kr_120_59 : rd M118 120 59 = s118_120_59 := es118_120_59
    have kr_120_62 : rd M118 120 62 = s118_120_62 := es118_120_62
    have kr_120_68 : rd M118 120 68 = s118_120_68 := es118_120_68
    have kr_120_75 : rd M118 120 75 = s118_120_75 := es118_120_75
    have kr_120_79 : rd M118 120 79 = g120_79 := ((St.kp h118 (by decide) (by decide) (by decide)).trans ((St.kp h112 (by decide) (by decide) (by decide)).trans ((St.kp h107 (by decide) (by decide) (by decide)).trans eg120_79)))
    exact Tr.zret (pc := 121) d_X12_does_121 rfl (by omega) ⟨hS, _, rfl, by omega, by omega, by omega, by omega, by omega, by omega, by omega⟩

def ws_X12_runs_120_w2 : List (Int × Int) := [(120, 59), (120, 60), (120, 61), (120, 62), (120, 63), (120, 64), (120, 65), (120, 66), (120, 67), (120, 68), (120, 75), (120, 79), (120, 84)]
def as_X12_runs_120_w2 : List Int := [155, 156, 157, 158, 159, 160, 161, 162, 163, 164, 165, 166, 167, 168, 169, 170, 171, 172]
def q_X12_runs_120_w2 (a1 : Int) (M0 M' : Mem) (r : Option PV) : Prop := St Tru ws_X12_runs_120_w2 as_X12_runs_120_w2 M0 M' ∧ ∃ v : Int, r = some (0, v) ∧ 0 ≤ v ∧ v ≤ 2 ∧ (rd M' 120 59 = -1)
set_option maxRecDepth 100000 in
set_option maxHeartbeats 4000000 in
theorem sp_X12_runs_120_w2 {l : Launch} {K : EC} {M0 : Mem} (hI : In Tru M0) (en_120_12 : rd M0 120 12 = 1) (a1 : Int) (ha1 : (-1) ≤ a1 ∧ a1 ≤ (-1))  (hq0 : rd M0 120 59 = -1) (hF_Bk1 : Bk1 M0) : Tr l K 7 mX12_runs 0 [(0, (2, 120)), (1, (1, a1))] [] M0 (q_X12_runs_120_w2 a1 M0) := by
  have hS : St Tru ws_X12_runs_120_w2 as_X12_runs_120_w2 M0 M0 := St.rf hI
  obtain ⟨g120_62, eg120_62⟩ : ∃ v, rd M0 120 62 = v := ⟨_, rfl⟩
  have bg120_62 : 0 ≤ g120_62 ∧ g120_62 ≤ 2060 := by rw [← eg120_62]; exact ir_120_62 hI.2.1
  obtain ⟨g120_68, eg120_68⟩ : ∃ v, rd M0 120 68 = v := ⟨_, rfl⟩
  have bg120_68 : 0 ≤ g120_68 ∧ g120_68 ≤ 2 := by rw [← eg120_68]; exact ir_120_68 hI.2.1
  obtain ⟨g120_75, eg120_75⟩ : ∃ v, rd M0 120 75 = v := ⟨_, rfl⟩
  have bg120_75 : 0 ≤ g120_75 ∧ g120_75 ≤ 2100 := by rw [← eg120_75]; exact ir_120_75 hI.2.1
  obtain ⟨g120_79, eg120_79⟩ : ∃ v, rd M0 120 79 = v := ⟨_, rfl⟩
  have bg120_79 : 0 ≤ g120_79 ∧ g120_79 ≤ 2100 := by rw [← eg120_79]; exact ir_120_79 hI.2.1
  obtain ⟨g120_59, eg120_59⟩ : ∃ v, rd M0 120 59 = v := ⟨_, rfl⟩
  have bg120_59 : (-1) ≤ g120_59 ∧ g120_59 ≤ 5 := by rw [← eg120_59]; exact ir_120_59 hI.2.1
  obtain ⟨g136_1, eg136_1⟩ : ∃ v, rd M0 136 1 = v := ⟨_, rfl⟩
  have bg136_1 : 0 ≤ g136_1 ∧ g136_1 ≤ 200 := by rw [← eg136_1]; exact ir_136_1 hI.2.1
  obtain ⟨g126_1, eg126_1⟩ : ∃ v, rd M0 126 1 = v := ⟨_, rfl⟩
  have bg126_1 : 0 ≤ g126_1 ∧ g126_1 ≤ 6 := by rw [← eg126_1]; exact ir_126_1 hI.2.1
  refine Tr.iconst (pc := 0) d_X12_runs_0 (by decide) ?_
  refine Tr.istore_n (pc := 1) (i := 3) (ls2 := [(3, (0, 0)), (0, (2, 120)), (1, (1, a1))]) d_X12_runs_1 rfl (by decide) rfl ?_
  have J2 : ∀ (n2 : Nat) (M : Mem) (p2_3 : Int), St Tru ws_X12_runs_120_w2 as_X12_runs_120_w2 M0 M → (0 ≤ p2_3 ∧ p2_3 ≤ 6) → rd M 120 59 = g120_59 → rd M 120 62 = g120_62 → rd M 120 68 = g120_68 → rd M 120 75 = g120_75 → rd M 120 79 = g120_79 → rd M 126 1 = g126_1 → rd M 136 1 = g136_1 → (g120_59 = -1) → (6 - p2_3).toNat < n2 → Tr l K 7 mX12_runs 2 [(0, (2, 120)), (1, (1, a1)), (3, (0, p2_3))] [] M (q_X12_runs_120_w2 a1 M0) := by
    intro n2
    induction n2 with
    | zero => intro M p2_3 hS bp2_3 k2_120_59 k2_120_62 k2_120_68 k2_120_75 k2_120_79 k2_126_1 k2_136_1 t2_0 hm2; exact absurd hm2 (Nat.not_lt_zero _)
    | succ n2 J2 =>
      intro M p2_3 hS bp2_3 k2_120_59 k2_120_62 k2_120_68 k2_120_75 k2_120_79 k2_126_1 k2_136_1 t2_0 hm2
      refine Tr.iload_n (pc := 2) (i := 3) d_X12_runs_2 rfl rfl ?_
      refine Tr.bipush (pc := 3) d_X12_runs_3 rfl (by decide) ?_
      refine Tr.icmp_ge (pc := 5) (tgt := 21) d_X12_runs_5 rfl (fun c5 => ?_) (fun c5 => ?_)
      · refine Tr.iconst (pc := 21) d_X12_runs_21 (by decide) ?_
        refine Tr.istore_n (pc := 22) (i := 3) (ls2 := [(3, (0, 0)), (0, (2, 120)), (1, (1, a1))]) d_X12_runs_22 rfl (by decide) rfl ?_
        have J23 : ∀ (n23 : Nat) (M : Mem) (p23_3 : Int), St Tru ws_X12_runs_120_w2 as_X12_runs_120_w2 M0 M → (0 ≤ p23_3 ∧ p23_3 ≤ 6) → rd M 120 59 = g120_59 → rd M 120 62 = g120_62 → rd M 120 68 = g120_68 → rd M 120 75 = g120_75 → rd M 120 79 = g120_79 → rd M 126 1 = g126_1 → rd M 136 1 = g136_1 → (g120_59 = -1) → (∀ p : Int, 0 ≤ p → p < p23_3 → rd M 158 p ≤ 50) → (6 - p23_3).toNat < n23 → Tr l K 7 mX12_runs 23 [(0, (2, 120)), (1, (1, a1)), (3, (0, p23_3))] [] M (q_X12_runs_120_w2 a1 M0) := by
          intro n23
          induction n23 with
          | zero => intro M p23_3 hS bp23_3 k23_120_59 k23_120_62 k23_120_68 k23_120_75 k23_120_79 k23_126_1 k23_136_1 t23_0 tp23_0 hm23; exact absurd hm23 (Nat.not_lt_zero _)
          | succ n23 J23 =>
            intro M p23_3 hS bp23_3 k23_120_59 k23_120_62 k23_120_68 k23_120_75 k23_120_79 k23_126_1 k23_136_1 t23_0 tp23_0 hm23
            refine Tr.iload_n (pc := 23) (i := 3) d_X12_runs_23 rfl rfl ?_
            refine Tr.bipush (pc := 24) d_X12_runs_24 rfl (by decide) ?_
            refine Tr.icmp_ge (pc := 26) (tgt := 63) d_X12_runs_26 rfl (fun c26 => ?_) (fun c26 => ?_)
            · have kp63_126_1 : rd M 126 1 = g126_1 := k23_126_1
              have hS := St.rn (r := Tb1) hS (fun p p0 p1 => tp23_0 p p0 (by omega))
              refine Tr.iconst (pc := 63) d_X12_runs_63 (by decide) ?_
              refine Tr.istore_n (pc := 64) (i := 3) (ls2 := [(3, (0, 0)), (0, (2, 120)), (1, (1, a1))]) d_X12_runs_64 rfl (by decide) rfl ?_
              have J65 : ∀ (n65 : Nat) (M : Mem) (p65_3 : Int), St Tb1 ws_X12_runs_120_w2 as_X12_runs_120_w2 M0 M → (0 ≤ p65_3 ∧ p65_3 ≤ 8) → rd M 120 59 = g120_59 → rd M 120 62 = g120_62 → rd M 120 68 = g120_68 → rd M 120 75 = g120_75 → rd M 120 79 = g120_79 → rd M 126 1 = g126_1 → rd M 136 1 = g136_1 → (g120_59 = -1) → (8 - p65_3).toNat < n65 → Tr l K 7 mX12_runs 65 [(0, (2, 120)), (1, (1, a1)), (3, (0, p65_3))] [] M (q_X12_runs_120_w2 a1 M0) := by
                intro n65
                induction n65 with
                | zero => intro M p65_3 hS bp65_3 k65_120_59 k65_120_62 k65_120_68 k65_120_75 k65_120_79 k65_126_1 k65_136_1 t65_0 hm65; exact absurd hm65 (Nat.not_lt_zero _)
                | succ n65 J65 =>
                  intro M p65_3 hS bp65_3 k65_120_59 k65_120_62 k65_120_68 k65_120_75 k65_120_79 k65_126_1 k65_136_1 t65_0 hm65
                  refine Tr.iload_n (pc := 65) (i := 3) d_X12_runs_65 rfl rfl ?_
                  refine Tr.bipush (pc := 66) d_X12_runs_66 rfl (by decide) ?_
                  refine Tr.icmp_ge (pc := 68) (tgt := 84) d_X12_runs_68 rfl (fun c68 => ?_) (fun c68 => ?_)
                  · refine Tr.iconst (pc := 84) d_X12_runs_84 (by decide) ?_
                    refine Tr.istore_n (pc := 85) (i := 3) (ls2 := [(3, (0, 0)), (0, (2, 120)), (1, (1, a1))]) d_X12_runs_85 rfl (by decide) rfl ?_
                    have J86 : ∀ (n86 : Nat) (M : Mem) (p86_3 : Int), St Tb1 ws_X12_runs_120_w2 as_X12_runs_120_w2 M0 M → (0 ≤ p86_3 ∧ p86_3 ≤ 24) → rd M 120 59 = g120_59 → rd M 120 62 = g120_62 → rd M 120 68 = g120_68 → rd M 120 75 = g120_75 → rd M 120 79 = g120_79 → rd M 126 1 = g126_1 → rd M 136 1 = g136_1 → (g120_59 = -1) → (24 - p86_3).toNat < n86 → Tr l K 7 mX12_runs 86 [(0, (2, 120)), (1, (1, a1)), (3, (0, p86_3))] [] M (q_X12_runs_120_w2 a1 M0) := by
                      intro n86
                      induction n86 with
                      | zero => intro M p86_3 hS bp86_3 k86_120_59 k86_120_62 k86_120_68 k86_120_75 k86_120_79 k86_126_1 k86_136_1 t86_0 hm86; exact absurd hm86 (Nat.not_lt_zero _)
                      | succ n86 J86 =>
                        intro M p86_3 hS bp86_3 k86_120_59 k86_120_62 k86_120_68 k86_120_75 k86_120_79 k86_126_1 k86_136_1 t86_0 hm86
                        refine Tr.iload_n (pc := 86) (i := 3) d_X12_runs_86 rfl rfl ?_
                        refine Tr.bipush (pc := 87) d_X12_runs_87 rfl (by decide) ?_
                        refine Tr.icmp_ge (pc := 89) (tgt := 105) d_X12_runs_89 rfl (fun c89 => ?_) (fun c89 => ?_)
                        · refine Tr.aload_n (pc := 105) (i := 0) d_X12_runs_105 rfl rfl ?_
                          refine Tr.iconst (pc := 106) d_X12_runs_106 (by decide) ?_
                          refine Tr.putfS (pc := 107) (P := St Tb1 ws_X12_runs_120_w2 as_X12_runs_120_w2 M0) d_X12_runs_107 f_12_201 (by decide) (by decide) (ty_120 hS.1.1) (st_120_62 hS (by decide) (by omega) (Tb1.of hS.1.2.2.2.2 (fun _ => rd_wb _ rfl) (rd_wb _ rfl))) (fun M107 hS w107 => ?_)
                          refine Tr.aload_n (pc := 110) (i := 0) d_X12_runs_110 rfl rfl ?_
                          refine Tr.lconst (pc := 111) (v := 0) d_X12_runs_111 rfl (by decide) ?_
                          refine Tr.putfS (pc := 112) (P := St Tb1 ws_X12_runs_120_w2 as_X12_runs_120_w2 M0) d_X12_runs_112 f_12_204 (by decide) (by decide) (ty_120 hS.1.1) (st_120_63 hS (by decide) (by omega) (Tb1.of hS.1.2.2.2.2 (fun _ => rd_wb _ rfl) (rd_wb _ rfl))) (fun M112 hS w112 => ?_)
                          refine Tr.aload_n (pc := 115) (i := 0) d_X12_runs_115 rfl rfl ?_
                          refine Tr.lload_n (pc := 116) (i := 1) d_X12_runs_116 rfl rfl ?_
                          refine Tr.tp (-1) (by omega) ?_
                          refine Tr.putfS (pc := 117) (P := St Tb1 ws_X12_runs_120_w2 as_X12_runs_120_w2 M0) d_X12_runs_117 f_12_207 (by decide) (by decide) (ty_120 hS.1.1) (st_120_64 hS (by decide) (by omega) (Tb1.of hS.1.2.2.2.2 (fun _ => rd_wb _ rfl) (rd_wb _ rfl))) (fun M117 hS w117 => ?_)
                          refine Tr.aload_n (pc := 120) (i := 0) d_X12_runs_120 rfl rfl ?_
                          refine Tr.iconst (pc := 121) d_X12_runs_121 (by decide) ?_
                          refine Tr.putfS (pc := 122) (P := St Tb1 ws_X12_runs_120_w2 as_X12_runs_120_w2 M0) d_X12_runs_122 f_12_210 (by decide) (by decide) (ty_120 hS.1.1) (st_120_65 hS (by decide) (by omega) (Tb1.of hS.1.2.2.2.2 (fun _ => rd_wb _ rfl) (rd_wb _ rfl))) (fun M122 hS w122 => ?_)
                          refine Tr.aload_n (pc := 125) (i := 0) d_X12_runs_125 rfl rfl ?_
                          refine Tr.iconst (pc := 126) d_X12_runs_126 (by decide) ?_
                          refine Tr.putfS (pc := 127) (P := St Tb1 ws_X12_runs_120_w2 as_X12_runs_120_w2 M0) d_X12_runs_127 f_12_213 (by decide) (by decide) (ty_120 hS.1.1) (st_120_66 hS (by decide) (by omega) (Tb1.of hS.1.2.2.2.2 (fun _ => rd_wb _ rfl) (rd_wb _ rfl))) (fun M127 hS w127 => ?_)
                          refine Tr.aload_n (pc := 130) (i := 0) d_X12_runs_130 rfl rfl ?_
                          refine Tr.iconst (pc := 131) d_X12_runs_131 (by decide) ?_
                          refine Tr.putfS (pc := 132) (P := St Tb1 ws_X12_runs_120_w2 as_X12_runs_120_w2 M0) d_X12_runs_132 f_12_216 (by decide) (by decide) (ty_120 hS.1.1) (st_120_67 hS (by decide) (by omega) (Tb1.of hS.1.2.2.2.2 (fun _ => rd_wb _ rfl) (rd_wb _ rfl))) (fun M132 hS w132 => ?_)
                          refine Tr.aload_n (pc := 135) (i := 0) d_X12_runs_135 rfl rfl ?_
                          refine Tr.iconst (pc := 136) d_X12_runs_136 (by decide) ?_
                          refine Tr.putfS (pc := 137) (P := St Tb1 ws_X12_runs_120_w2 as_X12_runs_120_w2 M0) d_X12_runs_137 f_12_219 (by decide) (by decide) (ty_120 hS.1.1) (st_120_68 hS (by decide) (by omega) (Tb1.of hS.1.2.2.2.2 (fun _ => rd_wb _ rfl) (rd_wb _ rfl))) (fun M137 hS w137 => ?_)
                          refine Tr.aload_n (pc := 140) (i := 0) d_X12_runs_140 rfl rfl ?_
                          refine Tr.iconst (pc := 141) d_X12_runs_141 (by decide) ?_
                          refine Tr.putfS (pc := 142) (P := St Tb1 ws_X12_runs_120_w2 as_X12_runs_120_w2 M0) d_X12_runs_142 f_12_267 (by decide) (by decide) (ty_120 hS.1.1) (st_120_84 hS (by decide) (by omega) (Tb1.of hS.1.2.2.2.2 (fun _ => rd_wb _ rfl) (rd_wb _ rfl))) (fun M142 hS w142 => ?_)
                          refine Tr.aload_n (pc := 145) (i := 0) d_X12_runs_145 rfl rfl ?_
                          refine Tr.iconst (pc := 146) d_X12_runs_146 (by decide) ?_
                          refine Tr.putfS (pc := 147) (P := St Tb1 ws_X12_runs_120_w2 as_X12_runs_120_w2 M0) d_X12_runs_147 f_12_195 (by decide) (by decide) (ty_120 hS.1.1) (st_120_60 hS (by decide) (by omega) (Tb1.of hS.1.2.2.2.2 (fun _ => rd_wb _ rfl) (rd_wb _ rfl))) (fun M147 hS w147 => ?_)
                          refine Tr.aload_n (pc := 150) (i := 0) d_X12_runs_150 rfl rfl ?_
                          refine Tr.iconst (pc := 151) d_X12_runs_151 (by decide) ?_
                          refine Tr.putfS (pc := 152) (P := St Tb1 ws_X12_runs_120_w2 as_X12_runs_120_w2 M0) d_X12_runs_152 f_12_240 (by decide) (by decide) (ty_120 hS.1.1) (st_120_75 hS (by decide) (by omega) (Tb1.of hS.1.2.2.2.2 (fun _ => rd_wb _ rfl) (rd_wb _ rfl))) (fun M152 hS w152 => ?_)
                          refine Tr.aload_n (pc := 155) (i := 0) d_X12_runs_155 rfl rfl ?_
                          refine Tr.iconst (pc := 156) d_X12_runs_156 (by decide) ?_
                          refine Tr.putfS (pc := 157) (P := St Tb1 ws_X12_runs_120_w2 as_X12_runs_120_w2 M0) d_X12_runs_157 f_12_252 (by decide) (by decide) (ty_120 hS.1.1) (st_120_79 hS (by decide) (by omega) (Tb1.of hS.1.2.2.2.2 (fun _ => rd_wb _ rfl) (rd_wb _ rfl))) (fun M157 hS w157 => ?_)
                          refine Tr.iconst (pc := 160) d_X12_runs_160 (by decide) ?_
                          refine Tr.istore_n (pc := 161) (i := 3) (ls2 := [(3, (0, 0)), (0, (2, 120)), (1, (1, a1))]) d_X12_runs_161 rfl (by decide) rfl ?_
                          have J162 : ∀ (n162 : Nat) (M : Mem) (p162_3 u162_120_59 u162_120_62 u162_120_68 u162_120_75 u162_120_79 : Int), St Tb1 ws_X12_runs_120_w2 as_X12_runs_120_w2 M0 M → (0 ≤ p162_3 ∧ p162_3 ≤ 200) → ((-1) ≤ u162_120_59 ∧ u162_120_59 ≤ 5) → (0 ≤ u162_120_62 ∧ u162_120_62 ≤ 2060) → (0 ≤ u162_120_68 ∧ u162_120_68 ≤ 2) → (0 ≤ u162_120_75 ∧ u162_120_75 ≤ 2100) → (0 ≤ u162_120_79 ∧ u162_120_79 ≤ 2100) → rd M 120 59 = u162_120_59 → rd M 120 62 = u162_120_62 → rd M 120 64 = (-1) → rd M 120 68 = u162_120_68 → rd M 120 75 = u162_120_75 → rd M 120 79 = u162_120_79 → rd M 126 1 = g126_1 → rd M 136 1 = g136_1 → (u162_120_75 ≤ u162_120_62) → (u162_120_79 ≤ u162_120_62) → (u162_120_62 ≤ 2000) → (u162_120_59 = -1) → (0 ≤ p162_3 ∧ p162_3 ≤ 200) → ((2001 - u162_120_62) * 300 + 1000 * (2 - u162_120_68) + rkf (rd M0 137 (200 + p162_3)) p162_3).toNat < n162 → Tr l K 7 mX12_runs 162 [(0, (2, 120)), (3, (0, p162_3))] [] M (q_X12_runs_120_w2 a1 M0) := by
                            intro n162
                            induction n162 with
                            | zero => intro M p162_3 u162_120_59 u162_120_62 u162_120_68 u162_120_75 u162_120_79 hS bp162_3 bu162_120_59 bu162_120_62 bu162_120_68 bu162_120_75 bu162_120_79 k162_120_59 k162_120_62 k162_120_64 k162_120_68 k162_120_75 k162_120_79 k162_126_1 k162_136_1 t162_0 t162_1 t162_2 t162_3 t162_4 hm162; exact absurd hm162 (Nat.not_lt_zero _)
                            | succ n162 J162 =>
                              intro M p162_3 u162_120_59 u162_120_62 u162_120_68 u162_120_75 u162_120_79 hS bp162_3 bu162_120_59 bu162_120_62 bu162_120_68 bu162_120_75 bu162_120_79 k162_120_59 k162_120_62 k162_120_64 k162_120_68 k162_120_75 k162_120_79 k162_126_1 k162_136_1 t162_0 t162_1 t162_2 t162_3 t162_4 hm162
                              refine Tr.iload_n (pc := 162) (i := 3) d_X12_runs_162 rfl rfl ?_
                              refine Tr.aload_n (pc := 163) (i := 0) d_X12_runs_163 rfl rfl ?_
                              refine Tr.getf (pc := 164) d_X12_runs_164 f_12_94 (by decide) (by decide) (ty_120 hS.1.1) ?_
                              refine Tr.tp 136 (fx_120_27 hS.1.1) ?_
                              refine Tr.aload_n (pc := 167) (i := 0) d_X12_runs_167 rfl rfl ?_
                              refine Tr.getf (pc := 168) d_X12_runs_168 f_12_48 (by decide) (by decide) (ty_120 hS.1.1) ?_
                              refine Tr.tp 1 ((St.kp hS (by decide) (by decide) (by decide)).trans en_120_12) ?_
                              refine Tr.iald (pc := 171) d_X12_runs_171 (ty_136 hS.1.1) (by omega) (by omega) ?_
                              refine Tr.tp g136_1 k162_136_1 ?_
                              have J317 : ∀ (M : Mem), St Tb1 ws_X12_runs_120_w2 as_X12_runs_120_w2 M0 M → rd M 120 59 = u162_120_59 → rd M 120 62 = u162_120_62 → rd M 120 64 = (-1) → rd M 120 68 = u162_120_68 → rd M 120 75 = u162_120_75 → rd M 120 79 = u162_120_79 → rd M 126 1 = g126_1 → rd M 136 1 = g136_1 → (u162_120_62 ≤ 2000) → (u162_120_59 = -1) → Tr l K 7 mX12_runs 317 [(0, (2, 120))] [] M (q_X12_runs_120_w2 a1 M0) := by
                                intro M  hS  k317_120_59 k317_120_62 k317_120_64 k317_120_68 k317_120_75 k317_120_79 k317_126_1 k317_136_1 t317_0 t317_1
                                refine Tr.aload_n (pc := 317) (i := 0) d_X12_runs_317 rfl rfl ?_
                                refine Tr.getf (pc := 318) d_X12_runs_318 f_12_219 (by decide) (by decide) (ty_120 hS.1.1) ?_
                                refine Tr.tp u162_120_68 k317_120_68 ?_
                                refine Tr.if_le (pc := 321) (tgt := 329) d_X12_runs_321 rfl (fun c321 => ?_) (fun c321 => ?_)
                                · refine Tr.iconst (pc := 329) d_X12_runs_329 (by decide) ?_
                                  refine Tr.istore (pc := 330) (i := 4) (ls2 := [(4, (0, 1)), (0, (2, 120))]) d_X12_runs_330 (by decide) rfl ?_
                                  have J332 : ∀ (n332 : Nat) (M : Mem) (p332_4 u332_120_62 : Int), St Tb1 ws_X12_runs_120_w2 as_X12_runs_120_w2 M0 M → (0 ≤ p332_4 ∧ p332_4 ≤ 1) → (0 ≤ u332_120_62 ∧ u332_120_62 ≤ 2060) → rd M 120 59 = u162_120_59 → rd M 120 62 = u332_120_62 → rd M 120 64 = (-1) → rd M 120 68 = u162_120_68 → rd M 120 75 = u162_120_75 → rd M 120 79 = u162_120_79 → rd M 126 1 = g126_1 → rd M 136 1 = g136_1 → (u162_120_68 = 0) → (u332_120_62 ≤ 2050) → (u162_120_59 = -1) → (∀ p : Int, 0 ≤ p → p < rd M 126 1 → rd M 156 p = 0 → rd M 158 p ≤ 2050 - u332_120_62) → (2 * (2060 - u332_120_62) + p332_4).toNat < n332 → Tr l K 7 mX12_runs 332 [(0, (2, 120)), (4, (0, p332_4))] [] M (q_X12_runs_120_w2 a1 M0) := by
                                    intro n332
                                    induction n332 with
                                    | zero => intro M p332_4 u332_120_62 hS bp332_4 bu332_120_62 k332_120_59 k332_120_62 k332_120_64 k332_120_68 k332_120_75 k332_120_79 k332_126_1 k332_136_1 t332_0 t332_1 t332_2 tp332_0 hm332; exact absurd hm332 (Nat.not_lt_zero _)
                                    | succ n332 J332 =>
                                      intro M p332_4 u332_120_62 hS bp332_4 bu332_120_62 k332_120_59 k332_120_62 k332_120_64 k332_120_68 k332_120_75 k332_120_79 k332_126_1 k332_136_1 t332_0 t332_1 t332_2 tp332_0 hm332
                                      refine Tr.iload (pc := 332) (i := 4) d_X12_runs_332 rfl ?_
                                      refine Tr.if_eq (pc := 334) (tgt := 409) d_X12_runs_334 rfl (fun c334 => ?_) (fun c334 => ?_)
                                      · refine Tr.iconst (pc := 409) d_X12_runs_409 (by decide) ?_
                                        have kr_120_59 : rd M 120 59 = u162_120_59 := k332_120_59
                                        have hS := hS.wk
                                        exact Tr.iret (pc := 410) d_X12_runs_410 rfl ⟨hS, _, rfl, by omega, by omega, by omega⟩
                                      · refine Tr.iconst (pc := 337) d_X12_runs_337 (by decide) ?_
                                        refine Tr.istore (pc := 338) (i := 4) (ls2 := [(4, (0, 0)), (0, (2, 120))]) d_X12_runs_338 (by decide) rfl ?_
                                        refine Tr.iconst (pc := 340) d_X12_runs_340 (by decide) ?_
                                        refine Tr.istore (pc := 341) (i := 5) (ls2 := [(5, (0, 0)), (4, (0, 0)), (0, (2, 120))]) d_X12_runs_341 (by decide) rfl ?_
                                        have J343 : ∀ (n343 : Nat) (M : Mem) (p343_4 p343_5 : Int), St Tb1 ws_X12_runs_120_w2 as_X12_runs_120_w2 M0 M → (0 ≤ p343_4 ∧ p343_4 ≤ 1) → (0 ≤ p343_5 ∧ p343_5 ≤ 6) → rd M 120 59 = u162_120_59 → rd M 120 62 = u332_120_62 → rd M 120 64 = (-1) → rd M 120 68 = u162_120_68 → rd M 120 75 = u162_120_75 → rd M 120 79 = u162_120_79 → rd M 126 1 = g126_1 → rd M 136 1 = g136_1 → (u162_120_68 = 0) → (u332_120_62 ≤ 2050) → (u162_120_59 = -1) → (p343_4 = 0 ∨ u332_120_62 ≤ 2049) → (∀ p : Int, 0 ≤ p → p < rd M 126 1 → rd M 156 p = 0 → rd M 158 p ≤ 2050 - u332_120_62) → (6 - p343_5).toNat < n343 → Tr l K 7 mX12_runs 343 [(0, (2, 120)), (4, (0, p343_4)), (5, (0, p343_5))] [] M (q_X12_runs_120_w2 a1 M0) := by
                                          intro n343
                                          induction n343 with
                                          | zero => intro M p343_4 p343_5 hS bp343_4 bp343_5 k343_120_59 k343_120_62 k343_120_64 k343_120_68 k343_120_75 k343_120_79 k343_126_1 k343_136_1 t343_0 t343_1 t343_2 t343_3 tp343_0 hm343; exact absurd hm343 (Nat.not_lt_zero _)
                                          | succ n343 J343 =>
                                            intro M p343_4 p343_5 hS bp343_4 bp343_5 k343_120_59 k343_120_62 k343_120_64 k343_120_68 k343_120_75 k343_120_79 k343_126_1 k343_136_1 t343_0 t343_1 t343_2 t343_3 tp343_0 hm343
                                            refine Tr.iload (pc := 343) (i := 5) d_X12_runs_343 rfl ?_
                                            refine Tr.aload_n (pc := 345) (i := 0) d_X12_runs_345 rfl rfl ?_
                                            refine Tr.getf (pc := 346) d_X12_runs_346 f_12_63 (by decide) (by decide) (ty_120 hS.1.1) ?_
                                            refine Tr.tp 126 (fx_120_17 hS.1.1) ?_
                                            refine Tr.aload_n (pc := 349) (i := 0) d_X12_runs_349 rfl rfl ?_
                                            refine Tr.getf (pc := 350) d_X12_runs_350 f_12_48 (by decide) (by decide) (ty_120 hS.1.1) ?_
                                            refine Tr.tp 1 ((St.kp hS (by decide) (by decide) (by decide)).trans en_120_12) ?_
                                            refine Tr.iald (pc := 353) d_X12_runs_353 (ty_126 hS.1.1) (by omega) (by omega) ?_
                                            refine Tr.tp g126_1 k343_126_1 ?_
                                            refine Tr.icmp_ge (pc := 354) (tgt := 395) d_X12_runs_354 rfl (fun c354 => ?_) (fun c354 => ?_)
                                            · refine Tr.iload (pc := 395) (i := 4) d_X12_runs_395 rfl ?_
                                              refine Tr.if_eq (pc := 397) (tgt := 332) d_X12_runs_397 rfl (fun c397 => ?_) (fun c397 => ?_)
                                              · refine Tr.pick [0, 1] (ls2 := [(0, (2, 120)), (4, (0, p343_4))]) rfl ?_
                                                exact J332 _ _ _ hS (by omega) (by omega) k343_120_59 k343_120_62 k343_120_64 k343_120_68 k343_120_75 k343_120_79 k343_126_1 k343_136_1 (by omega) (by omega) (by omega) tp343_0 (by omega)
                                              · refine Tr.aload_n (pc := 400) (i := 0) d_X12_runs_400 rfl rfl ?_
                                                refine Tr.iconst (pc := 401) d_X12_runs_401 (by decide) ?_
                                                refine Tr.callV (pc := 402) (as := [_]) d_X12_runs_402 s_12_577 ok_X12_tick rfl rfl (Nat.le_of_ble_eq_true rfl) (Nat.le_of_ble_eq_true rfl) (by decide) (ty_120 hS.1.1) ?_
                                                have kb402_120_59 : rd M 120 59 = u162_120_59 := k343_120_59
                                                obtain ⟨w402_120_61, ew402_120_61⟩ : ∃ v, rd M 120 61 = v := ⟨_, rfl⟩
                                                have bw402_120_61 : 0 ≤ w402_120_61 ∧ w402_120_61 ≤ 3 := by rw [← ew402_120_61]; exact ir_120_61 hS.1.2.1
                                                have kb402_120_61 : rd M 120 61 = w402_120_61 := ew402_120_61
                                                have kb402_120_62 : rd M 120 62 = u332_120_62 := k343_120_62
                                                have kb402_120_68 : rd M 120 68 = u162_120_68 := k343_120_68
                                                refine Tr.imp (Tr.deep (by decide) (sp_X12_tick_120_w3 hS.1 ((St.kp hS (by decide) (by decide) (by decide)).trans en_120_12) (-1) (by omega) (by omega) (by omega) (by omega) (Bk1.of hF_Bk1 (fun j => (St.ka hS (by decide) (by decide) (by decide))) (fun j => (St.ka hS (by decide) (by decide) (by decide))) (fun j => (St.ka hS (by decide) (by decide) (by decide))) (fun j => (St.ka hS (by decide) (by decide) (by decide))) (fun j => (St.ka hS (by decide) (by decide) (by decide))) (fun j => (St.ka hS (by decide) (by decide) (by decide))) (fun j => (St.ka hS (by decide) (by decide) (by decide))) (fun j => (St.ka hS (by decide) (by decide) (by decide))) (St.kp hS (by decide) (by decide) (by decide)) (St.kp hS (by decide) (by decide) (by decide)) (St.kp hS (by decide) (by decide) (by decide)) (St.kp hS (by decide) (by decide) (by decide))))) ?_
                                                rintro M402 _ ⟨h402, r402, rfl, lr402, ur402, z402_0, z402_1, z402_2, z402_3⟩
                                                have hS := St.tr hS h402 (by decide) (by decide)
                                                have ka402_120_59 : rd M402 120 59 = u162_120_59 := ((St.kp h402 (by decide) (by decide) (by decide)).trans k343_120_59)
                                                obtain ⟨s402_120_62, es402_120_62⟩ : ∃ v, rd M402 120 62 = v := ⟨_, rfl⟩
                                                have bs402_120_62 : 0 ≤ s402_120_62 ∧ s402_120_62 ≤ 2060 := by rw [← es402_120_62]; exact ir_120_62 hS.1.2.1
                                                have ka402_120_68 : rd M402 120 68 = u162_120_68 := ((St.kp h402 (by decide) (by decide) (by decide)).trans k343_120_68)
                                                refine Tr.sc [(0, r402)] rfl ?_
                                                refine Tr.pop (pc := 405) d_X12_runs_405 ne01 ?_
                                                refine Tr.goto (pc := 406) (tgt := 332) d_X12_runs_406 rfl ?_
                                                refine Tr.pick [0, 1] (ls2 := [(0, (2, 120)), (4, (0, p343_4))]) rfl ?_
                                                exact J332 _ _ _ hS (by omega) (by omega) ((St.kp h402 (by decide) (by decide) (by decide)).trans k343_120_59) es402_120_62 ((St.kp h402 (by decide) (by decide) (by decide)).trans k343_120_64) ((St.kp h402 (by decide) (by decide) (by decide)).trans k343_120_68) ((St.kp h402 (by decide) (by decide) (by decide)).trans k343_120_75) ((St.kp h402 (by decide) (by decide) (by decide)).trans k343_120_79) ((St.kp h402 (by decide) (by decide) (by decide)).trans k343_126_1) ((St.kp h402 (by decide) (by decide) (by decide)).trans k343_136_1) (by omega) (by omega) (by omega) (fun p p0 p1 p2 => by have h8 := z402_3 (by omega) (2050 - u332_120_62) (by omega) tp343_0 p p0 p1 p2; omega) (by omega)
                                            · refine Tr.iload (pc := 357) (i := 4) d_X12_runs_357 rfl ?_
                                              have J387 : ∀ (M : Mem) (q387_0 : Int), St Tb1 ws_X12_runs_120_w2 as_X12_runs_120_w2 M0 M → (0 ≤ q387_0 ∧ q387_0 ≤ 1) → rd M 120 59 = u162_120_59 → rd M 120 62 = u332_120_62 → rd M 120 64 = (-1) → rd M 120 68 = u162_120_68 → rd M 120 75 = u162_120_75 → rd M 120 79 = u162_120_79 → rd M 126 1 = g126_1 → rd M 136 1 = g136_1 → (u162_120_68 = 0) → (u332_120_62 ≤ 2050) → (u162_120_59 = -1) → (q387_0 = 0 ∨ u332_120_62 ≤ 2049) → (∀ p : Int, 0 ≤ p → p < rd M 126 1 → rd M 156 p = 0 → rd M 158 p ≤ 2050 - u332_120_62) → Tr l K 7 mX12_runs 387 [(0, (2, 120)), (5, (0, p343_5))] [(0, q387_0)] M (q_X12_runs_120_w2 a1 M0) := by
                                                intro M q387_0 hS bq387_0 k387_120_59 k387_120_62 k387_120_64 k387_120_68 k387_120_75 k387_120_79 k387_126_1 k387_136_1 t387_0 t387_1 t387_2 t387_3 tp387_0
                                                refine Tr.istore (pc := 387) (i := 4) (ls2 := [(4, (0, q387_0)), (0, (2, 120)), (5, (0, p343_5))]) d_X12_runs_387 (by decide) rfl ?_
                                                refine Tr.iincV (pc := 389) (n2 := (p343_5 + 1)) (ls2 := [(5, (0, (p343_5 + 1))), (4, (0, q387_0)), (0, (2, 120))]) d_X12_runs_389 rfl (by decide) ((w32_id (by omega)).trans (by omega)) rfl ?_
                                                refine Tr.goto (pc := 392) (tgt := 343) d_X12_runs_392 rfl ?_
                                                refine Tr.pick [2, 1, 0] (ls2 := [(0, (2, 120)), (4, (0, q387_0)), (5, (0, (p343_5 + 1)))]) rfl ?_
                                                exact J343 _ _ _ hS (by omega) (by omega) k387_120_59 k387_120_62 k387_120_64 k387_120_68 k387_120_75 k387_120_79 k387_126_1 k387_136_1 (by omega) (by omega) (by omega) (by first | assumption | omega) tp387_0 (by omega)
                                              have J382 : ∀ (M : Mem), St Tb1 ws_X12_runs_120_w2 as_X12_runs_120_w2 M0 M → rd M 120 59 = u162_120_59 → rd M 120 62 = u332_120_62 → rd M 120 64 = (-1) → rd M 120 68 = u162_120_68 → rd M 120 75 = u162_120_75 → rd M 120 79 = u162_120_79 → rd M 126 1 = g126_1 → rd M 136 1 = g136_1 → (u162_120_68 = 0) → (u332_120_62 ≤ 2050) → (u162_120_59 = -1) → (u332_120_62 ≤ 2049) → (∀ p : Int, 0 ≤ p → p < rd M 126 1 → rd M 156 p = 0 → rd M 158 p ≤ 2050 - u332_120_62) → Tr l K 7 mX12_runs 382 [(0, (2, 120)), (5, (0, p343_5))] [] M (q_X12_runs_120_w2 a1 M0) := by
                                                intro M  hS  k382_120_59 k382_120_62 k382_120_64 k382_120_68 k382_120_75 k382_120_79 k382_126_1 k382_136_1 t382_0 t382_1 t382_2 t382_3 tp382_0
                                                refine Tr.iconst (pc := 382) d_X12_runs_382 (by decide) ?_
                                                refine Tr.goto (pc := 383) (tgt := 387) d_X12_runs_383 rfl ?_
                                                refine Tr.pick [0, 1] (ls2 := [(0, (2, 120)), (5, (0, p343_5))]) rfl ?_
                                                exact J387 _ _ hS (by omega) k382_120_59 k382_120_62 k382_120_64 k382_120_68 k382_120_75 k382_120_79 k382_126_1 k382_136_1 (by omega) (by omega) (by omega) (by first | assumption | omega) tp382_0
                                              refine Tr.if_ne (pc := 359) (tgt := 382) d_X12_runs_359 rfl (fun c359 => ?_) (fun c359 => ?_)
                                              · refine Tr.pick [0, 2] (ls2 := [(0, (2, 120)), (5, (0, p343_5))]) rfl ?_
                                                exact J382 _ hS k343_120_59 k343_120_62 k343_120_64 k343_120_68 k343_120_75 k343_120_79 k343_126_1 k343_136_1 (by omega) (by omega) (by omega) (by omega) tp343_0
                                              · refine Tr.aload_n (pc := 362) (i := 0) d_X12_runs_362 rfl rfl ?_
                                                refine Tr.getf (pc := 363) d_X12_runs_363 f_12_177 (by decide) (by decide) (ty_120 hS.1.1) ?_
                                                refine Tr.tp 156 (fx_120_54 hS.1.1) ?_
                                                refine Tr.iload (pc := 366) (i := 5) d_X12_runs_366 rfl ?_
                                                refine Tr.zald (pc := 368) d_X12_runs_368 (ty_156 hS.1.1) (by omega) (by omega) ?_
                                                refine Tr.gen (P := fun v => 0 ≤ v ∧ v ≤ 1) (ar_156 hS.1.2.1 _) (fun r368 er368 br368 => ?_)
                                                have J386 : ∀ (M : Mem), St Tb1 ws_X12_runs_120_w2 as_X12_runs_120_w2 M0 M → rd M 120 59 = u162_120_59 → rd M 120 62 = u332_120_62 → rd M 120 64 = (-1) → rd M 120 68 = u162_120_68 → rd M 120 75 = u162_120_75 → rd M 120 79 = u162_120_79 → rd M 126 1 = g126_1 → rd M 136 1 = g136_1 → rd M 156 p343_5 = r368 → (u162_120_68 = 0) → (u332_120_62 ≤ 2050) → (u162_120_59 = -1) → (∀ p : Int, 0 ≤ p → p < rd M 126 1 → rd M 156 p = 0 → rd M 158 p ≤ 2050 - u332_120_62) → Tr l K 7 mX12_runs 386 [(0, (2, 120)), (5, (0, p343_5))] [] M (q_X12_runs_120_w2 a1 M0) := by
                                                  intro M  hS  k386_120_59 k386_120_62 k386_120_64 k386_120_68 k386_120_75 k386_120_79 k386_126_1 k386_136_1 k386_156_p343_510 t386_0 t386_1 t386_2 tp386_0
                                                  refine Tr.iconst (pc := 386) d_X12_runs_386 (by decide) ?_
                                                  refine Tr.pick [0, 1] (ls2 := [(0, (2, 120)), (5, (0, p343_5))]) rfl ?_
                                                  exact J387 _ _ hS (by omega) k386_120_59 k386_120_62 k386_120_64 k386_120_68 k386_120_75 k386_120_79 k386_126_1 k386_136_1 (by omega) (by omega) (by omega) (by first | assumption | omega) tp386_0
                                                refine Tr.if_ne (pc := 369) (tgt := 386) d_X12_runs_369 rfl (fun c369 => ?_) (fun c369 => ?_)
                                                · refine Tr.pick [0, 2] (ls2 := [(0, (2, 120)), (5, (0, p343_5))]) rfl ?_
                                                  exact J386 _ hS k343_120_59 k343_120_62 k343_120_64 k343_120_68 k343_120_75 k343_120_79 k343_126_1 k343_136_1 er368 (by omega) (by omega) (by omega) tp343_0
                                                · refine Tr.aload_n (pc := 372) (i := 0) d_X12_runs_372 rfl rfl ?_
                                                  refine Tr.getf (pc := 373) d_X12_runs_373 f_12_183 (by decide) (by decide) (ty_120 hS.1.1) ?_
                                                  refine Tr.tp 158 (fx_120_56 hS.1.1) ?_
                                                  refine Tr.iload (pc := 376) (i := 5) d_X12_runs_376 rfl ?_
                                                  refine Tr.iald (pc := 378) d_X12_runs_378 (ty_158 hS.1.1) (by omega) (by omega) ?_
                                                  refine Tr.gen (P := fun v => ((-2147483648) ≤ v ∧ v ≤ 2147483647) ∧ v ≤ 2050 - u332_120_62) (by have h9 := (ar_158 hS.1.2.1 (p343_5)); have e8 := k343_126_1; have h8 := tp343_0 p343_5 (by omega) (by omega) (by omega); omega) (fun r378 er378 br378 => ?_)
                                                  refine Tr.if_le (pc := 379) (tgt := 386) d_X12_runs_379 rfl (fun c379 => ?_) (fun c379 => ?_)
                                                  · refine Tr.pick [0, 2] (ls2 := [(0, (2, 120)), (5, (0, p343_5))]) rfl ?_
                                                    exact J386 _ hS k343_120_59 k343_120_62 k343_120_64 k343_120_68 k343_120_75 k343_120_79 k343_126_1 k343_136_1 er368 (by omega) (by omega) (by omega) tp343_0
                                                  · refine Tr.pick [0, 2] (ls2 := [(0, (2, 120)), (5, (0, p343_5))]) rfl ?_
                                                    exact J382 _ hS k343_120_59 k343_120_62 k343_120_64 k343_120_68 k343_120_75 k343_120_79 k343_126_1 k343_136_1 (by omega) (by omega) (by omega) (by omega) tp343_0
                                        refine Tr.pick [2, 1, 0] (ls2 := [(0, (2, 120)), (4, (0, 0)), (5, (0, 0))]) rfl ?_
                                        exact J343 _ _ _ _ hS (by omega) (by omega) k332_120_59 k332_120_62 k332_120_64 k332_120_68 k332_120_75 k332_120_79 k332_126_1 k332_136_1 (by omega) (by omega) (by omega) (by first | assumption | omega) tp332_0 (Nat.lt_succ_self _)
                                  refine Tr.pick [1, 0] (ls2 := [(0, (2, 120)), (4, (0, 1))]) rfl ?_
                                  exact J332 _ _ _ _ hS (by omega) (by omega) k317_120_59 k317_120_62 k317_120_64 k317_120_68 k317_120_75 k317_120_79 k317_126_1 k317_136_1 (by omega) (by omega) (by omega) (fun p p0 p1 _ => by have h8 := hS.1.2.2.2.2 p p0 p1; omega) (Nat.lt_succ_self _)
                                · refine Tr.aload_n (pc := 324) (i := 0) d_X12_runs_324 rfl rfl ?_
                                  refine Tr.getf (pc := 325) d_X12_runs_325 f_12_219 (by decide) (by decide) (ty_120 hS.1.1) ?_
                                  refine Tr.tp u162_120_68 k317_120_68 ?_
                                  have kr_120_59 : rd M 120 59 = u162_120_59 := k317_120_59
                                  have hS := hS.wk
                                  exact Tr.iret (pc := 328) d_X12_runs_328 rfl ⟨hS, _, rfl, by omega, by omega, by omega⟩
                              refine Tr.icmp_ge (pc := 172) (tgt := 317) d_X12_runs_172 rfl (fun c172 => ?_) (fun c172 => ?_)
                              · refine Tr.pick [0] (ls2 := [(0, (2, 120))]) rfl ?_
                                exact J317 _ hS k162_120_59 k162_120_62 k162_120_64 k162_120_68 k162_120_75 k162_120_79 k162_126_1 k162_136_1 (by omega) (by omega)
                              · refine Tr.aload_n (pc := 175) (i := 0) d_X12_runs_175 rfl rfl ?_
                                refine Tr.getf (pc := 176) d_X12_runs_176 f_12_219 (by decide) (by decide) (ty_120 hS.1.1) ?_
                                refine Tr.tp u162_120_68 k162_120_68 ?_
                                refine Tr.if_ne (pc := 179) (tgt := 317) d_X12_runs_179 rfl (fun c179 => ?_) (fun c179 => ?_)
                                · refine Tr.pick [0] (ls2 := [(0, (2, 120))]) rfl ?_
                                  exact J317 _ hS k162_120_59 k162_120_62 k162_120_64 k162_120_68 k162_120_75 k162_120_79 k162_126_1 k162_136_1 (by omega) (by omega)
                                · refine Tr.sipush (pc := 182) d_X12_runs_182 rfl (by decide) ?_
                                  refine Tr.aload_n (pc := 185) (i := 0) d_X12_runs_185 rfl rfl ?_
                                  refine Tr.getf (pc := 186) d_X12_runs_186 f_12_48 (by decide) (by decide) (ty_120 hS.1.1) ?_
                                  refine Tr.tp 1 ((St.kp hS (by decide) (by decide) (by decide)).trans en_120_12) ?_
                                  refine Tr.imul (pc := 189) d_X12_runs_189 ?_
                                  refine Tr.tp 200 (by decide) ?_
                                  refine Tr.iload_n (pc := 190) (i := 3) d_X12_runs_190 rfl rfl ?_
                                  refine Tr.iadd (pc := 191) d_X12_runs_191 ?_
                                  refine Tr.tp (p162_3 + 200) ((w32_id (by omega)).trans (by omega)) ?_
                                  refine Tr.istore (pc := 192) (i := 4) (ls2 := [(4, (0, (p162_3 + 200))), (0, (2, 120)), (3, (0, p162_3))]) d_X12_runs_192 (by decide) rfl ?_
                                  refine Tr.iincV (pc := 194) (n2 := (p162_3 + 1)) (ls2 := [(3, (0, (p162_3 + 1))), (4, (0, (p162_3 + 200))), (0, (2, 120))]) d_X12_runs_194 rfl (by decide) ((w32_id (by omega)).trans (by omega)) rfl ?_
                                  refine Tr.aload_n (pc := 197) (i := 0) d_X12_runs_197 rfl rfl ?_
                                  refine Tr.getf (pc := 198) d_X12_runs_198 f_12_97 (by decide) (by decide) (ty_120 hS.1.1) ?_
                                  refine Tr.tp 137 (fx_120_28 hS.1.1) ?_
                                  refine Tr.iload (pc := 201) (i := 4) d_X12_runs_201 rfl ?_
                                  refine Tr.iald (pc := 203) d_X12_runs_203 (ty_137 hS.1.1) (by omega) (by omega) ?_
                                  refine Tr.gen (P := fun v => 0 ≤ v ∧ v ≤ 8) (ar_137 hS.1.2.1 _) (fun r203 er203 br203 => ?_)
                                  refine Tr.if_ne (pc := 204) (tgt := 218) d_X12_runs_204 rfl (fun c204 => ?_) (fun c204 => ?_)
                                  · refine Tr.aload_n (pc := 218) (i := 0) d_X12_runs_218 rfl rfl ?_
                                    refine Tr.aload_n (pc := 219) (i := 0) d_X12_runs_219 rfl rfl ?_
                                    refine Tr.getf (pc := 220) d_X12_runs_220 f_12_100 (by decide) (by decide) (ty_120 hS.1.1) ?_
                                    refine Tr.tp 138 (fx_120_29 hS.1.1) ?_
                                    refine Tr.iload (pc := 223) (i := 4) d_X12_runs_223 rfl ?_
                                    refine Tr.iald (pc := 225) d_X12_runs_225 (ty_138 hS.1.1) (by omega) (by omega) ?_
                                    refine Tr.gen (P := fun v => 0 ≤ v ∧ v ≤ 59) (by have h9 := (ar_138 hS.1.2.1 ((p162_3 + 200))); have e8 := k162_136_1; have e7 := er203; have h8 := Bk1_ln (Bk1.of hF_Bk1 (fun j => (St.ka hS (by decide) (by decide) (by decide))) (fun j => (St.ka hS (by decide) (by decide) (by decide))) (fun j => (St.ka hS (by decide) (by decide) (by decide))) (fun j => (St.ka hS (by decide) (by decide) (by decide))) (fun j => (St.ka hS (by decide) (by decide) (by decide))) (fun j => (St.ka hS (by decide) (by decide) (by decide))) (fun j => (St.ka hS (by decide) (by decide) (by decide))) (fun j => (St.ka hS (by decide) (by decide) (by decide))) (St.kp hS (by decide) (by decide) (by decide)) (St.kp hS (by decide) (by decide) (by decide)) (St.kp hS (by decide) (by decide) (by decide)) (St.kp hS (by decide) (by decide) (by decide))) (i := (p162_3 + 200)) (by omega) (by omega) (by omega); omega) (fun r225 er225 br225 => ?_)
                                    refine Tr.callV (pc := 226) (as := [_]) d_X12_runs_226 s_12_577 ok_X12_tick rfl rfl (Nat.le_of_ble_eq_true rfl) (Nat.le_of_ble_eq_true rfl) (by decide) (ty_120 hS.1.1) ?_
                                    have kb226_120_59 : rd M 120 59 = u162_120_59 := k162_120_59
                                    obtain ⟨w226_120_61, ew226_120_61⟩ : ∃ v, rd M 120 61 = v := ⟨_, rfl⟩
                                    have bw226_120_61 : 0 ≤ w226_120_61 ∧ w226_120_61 ≤ 3 := by rw [← ew226_120_61]; exact ir_120_61 hS.1.2.1
                                    have kb226_120_61 : rd M 120 61 = w226_120_61 := ew226_120_61
                                    have kb226_120_62 : rd M 120 62 = u162_120_62 := k162_120_62
                                    have kb226_120_68 : rd M 120 68 = u162_120_68 := k162_120_68
                                    refine Tr.imp (Tr.deep (by decide) (sp_X12_tick_120_w2 hS.1 ((St.kp hS (by decide) (by decide) (by decide)).trans en_120_12) r225 (by omega) (by omega) (by omega) (Bk1.of hF_Bk1 (fun j => (St.ka hS (by decide) (by decide) (by decide))) (fun j => (St.ka hS (by decide) (by decide) (by decide))) (fun j => (St.ka hS (by decide) (by decide) (by decide))) (fun j => (St.ka hS (by decide) (by decide) (by decide))) (fun j => (St.ka hS (by decide) (by decide) (by decide))) (fun j => (St.ka hS (by decide) (by decide) (by decide))) (fun j => (St.ka hS (by decide) (by decide) (by decide))) (fun j => (St.ka hS (by decide) (by decide) (by decide))) (St.kp hS (by decide) (by decide) (by decide)) (St.kp hS (by decide) (by decide) (by decide)) (St.kp hS (by decide) (by decide) (by decide)) (St.kp hS (by decide) (by decide) (by decide))))) ?_
                                    rintro M226 _ ⟨h226, r226, rfl, lr226, ur226, z226_0, z226_1, z226_2⟩
                                    have hS := St.tr hS h226 (by decide) (by decide)
                                    have ka226_120_59 : rd M226 120 59 = u162_120_59 := ((St.kp h226 (by decide) (by decide) (by decide)).trans k162_120_59)
                                    obtain ⟨s226_120_62, es226_120_62⟩ : ∃ v, rd M226 120 62 = v := ⟨_, rfl⟩
                                    have bs226_120_62 : 0 ≤ s226_120_62 ∧ s226_120_62 ≤ 2060 := by rw [← es226_120_62]; exact ir_120_62 hS.1.2.1
                                    obtain ⟨s226_120_68, es226_120_68⟩ : ∃ v, rd M226 120 68 = v := ⟨_, rfl⟩
                                    have bs226_120_68 : 0 ≤ s226_120_68 ∧ s226_120_68 ≤ 2 := by rw [← es226_120_68]; exact ir_120_68 hS.1.2.1
                                    refine Tr.sc [(0, r226)] rfl ?_
                                    refine Tr.istore (pc := 229) (i := 5) (ls2 := [(5, (0, r226)), (3, (0, (p162_3 + 1))), (4, (0, (p162_3 + 200))), (0, (2, 120))]) d_X12_runs_229 (by decide) rfl ?_
                                    refine Tr.iload (pc := 231) (i := 5) d_X12_runs_231 rfl ?_
                                    have J246 : ∀ (M : Mem), St Tb1 ws_X12_runs_120_w2 as_X12_runs_120_w2 M0 M → rd M 120 59 = u162_120_59 → rd M 120 61 = w226_120_61 → rd M 120 62 = s226_120_62 → rd M 120 64 = (-1) → rd M 120 68 = s226_120_68 → rd M 120 75 = u162_120_75 → rd M 120 79 = u162_120_79 → rd M 126 1 = g126_1 → rd M 136 1 = g136_1 → rd M 137 (p162_3 + 200) = r203 → rd M 138 (p162_3 + 200) = r225 → (s226_120_62 ≤ 2000) → (u162_120_59 = -1) → (0 ≤ (p162_3 + 1) ∧ (p162_3 + 1) ≤ 200) → ((r226 = 1 ∧ u162_120_75 + 1 ≤ s226_120_62 ∧ u162_120_79 + 1 ≤ s226_120_62 ∧ s226_120_62 = u162_120_62 + 1) ∨ (r226 = 0 ∧ u162_120_75 ≤ s226_120_62 ∧ u162_120_79 ≤ s226_120_62 ∧ 1 ≤ s226_120_68 ∧ s226_120_62 = u162_120_62)) → Tr l K 7 mX12_runs 246 [(0, (2, 120)), (3, (0, (p162_3 + 1))), (4, (0, (p162_3 + 200))), (5, (0, r226))] [] M (q_X12_runs_120_w2 a1 M0) := by
                                      intro M  hS  k246_120_59 k246_120_61 k246_120_62 k246_120_64 k246_120_68 k246_120_75 k246_120_79 k246_126_1 k246_136_1 k246_137_p162_31200 k246_138_p162_31200 t246_0 t246_1 t246_2 t246_3
                                      refine Tr.iload (pc := 246) (i := 5) d_X12_runs_246 rfl ?_
                                      have J298 : ∀ (M : Mem) (p298_3 p298_5 u298_120_59 u298_120_62 u298_120_68 u298_120_75 u298_120_79 : Int), St Tb1 ws_X12_runs_120_w2 as_X12_runs_120_w2 M0 M → (0 ≤ p298_3 ∧ p298_3 ≤ 200) → (0 ≤ p298_5 ∧ p298_5 ≤ 1) → ((-1) ≤ u298_120_59 ∧ u298_120_59 ≤ 5) → (0 ≤ u298_120_62 ∧ u298_120_62 ≤ 2060) → (0 ≤ u298_120_68 ∧ u298_120_68 ≤ 2) → (0 ≤ u298_120_75 ∧ u298_120_75 ≤ 2100) → (0 ≤ u298_120_79 ∧ u298_120_79 ≤ 2100) → rd M 120 59 = u298_120_59 → rd M 120 62 = u298_120_62 → rd M 120 64 = (-1) → rd M 120 68 = u298_120_68 → rd M 120 75 = u298_120_75 → rd M 120 79 = u298_120_79 → rd M 126 1 = g126_1 → rd M 136 1 = g136_1 → rd M 137 (p162_3 + 200) = r203 → rd M 138 (p162_3 + 200) = r225 → (u298_120_62 ≤ 2000) → (u298_120_59 = -1) → (0 ≤ p298_3 ∧ p298_3 ≤ 200) → (u298_120_75 ≤ u298_120_62 ∧ u298_120_79 ≤ u298_120_62) → ((1 ≤ u298_120_68 ∧ u162_120_62 ≤ u298_120_62) ∨ u162_120_62 + 1 ≤ u298_120_62) → Tr l K 7 mX12_runs 298 [(0, (2, 120)), (3, (0, p298_3)), (4, (0, (p162_3 + 200))), (5, (0, p298_5))] [] M (q_X12_runs_120_w2 a1 M0) := by
                                        intro M p298_3 p298_5 u298_120_59 u298_120_62 u298_120_68 u298_120_75 u298_120_79 hS bp298_3 bp298_5 bu298_120_59 bu298_120_62 bu298_120_68 bu298_120_75 bu298_120_79 k298_120_59 k298_120_62 k298_120_64 k298_120_68 k298_120_75 k298_120_79 k298_126_1 k298_136_1 k298_137_p162_31200 k298_138_p162_31200 t298_0 t298_1 t298_2 t298_3 t298_4
                                        refine Tr.iload (pc := 298) (i := 5) d_X12_runs_298 rfl ?_
                                        have J314 : ∀ (M : Mem), St Tb1 ws_X12_runs_120_w2 as_X12_runs_120_w2 M0 M → rd M 120 59 = u298_120_59 → rd M 120 62 = u298_120_62 → rd M 120 64 = (-1) → rd M 120 68 = u298_120_68 → rd M 120 75 = u298_120_75 → rd M 120 79 = u298_120_79 → rd M 126 1 = g126_1 → rd M 136 1 = g136_1 → rd M 137 (p162_3 + 200) = r203 → rd M 138 (p162_3 + 200) = r225 → Tr l K 7 mX12_runs 314 [(0, (2, 120)), (3, (0, p298_3))] [] M (q_X12_runs_120_w2 a1 M0) := by
                                          intro M  hS  k314_120_59 k314_120_62 k314_120_64 k314_120_68 k314_120_75 k314_120_79 k314_126_1 k314_136_1 k314_137_p162_31200 k314_138_p162_31200
                                          refine Tr.goto (pc := 314) (tgt := 162) d_X12_runs_314 rfl ?_
                                          refine Tr.pick [0, 1] (ls2 := [(0, (2, 120)), (3, (0, p298_3))]) rfl ?_
                                          have jr := rkf_b (rd M0 137 (200 + p298_3)) (a := p298_3) (by omega) (by omega)
                                          have jo := rkf_b (rd M0 137 (200 + p162_3)) (a := p162_3) (by omega) (by omega)
                                          exact J162 _ _ _ _ _ _ _ hS (by omega) (by omega) (by omega) (by omega) (by omega) (by omega) k314_120_59 k314_120_62 k314_120_64 k314_120_68 k314_120_75 k314_120_79 k314_126_1 k314_136_1 (by omega) (by omega) (by omega) (by omega) (by omega) (by omega)
                                        refine Tr.if_ne (pc := 300) (tgt := 314) d_X12_runs_300 rfl (fun c300 => ?_) (fun c300 => ?_)
                                        · refine Tr.pick [0, 1] (ls2 := [(0, (2, 120)), (3, (0, p298_3))]) rfl ?_
                                          exact J314 _ hS k298_120_59 k298_120_62 k298_120_64 k298_120_68 k298_120_75 k298_120_79 k298_126_1 k298_136_1 k298_137_p162_31200 k298_138_p162_31200
                                        · refine Tr.aload_n (pc := 303) (i := 0) d_X12_runs_303 rfl rfl ?_
                                          refine Tr.aload_n (pc := 304) (i := 0) d_X12_runs_304 rfl rfl ?_
                                          refine Tr.getf (pc := 305) d_X12_runs_305 f_12_100 (by decide) (by decide) (ty_120 hS.1.1) ?_
                                          refine Tr.tp 138 (fx_120_29 hS.1.1) ?_
                                          refine Tr.iload (pc := 308) (i := 4) d_X12_runs_308 rfl ?_
                                          refine Tr.iald (pc := 310) d_X12_runs_310 (ty_138 hS.1.1) (by omega) (by omega) ?_
                                          refine Tr.tp r225 k298_138_p162_31200 ?_
                                          refine Tr.putfS (pc := 311) (P := St Tb1 ws_X12_runs_120_w2 as_X12_runs_120_w2 M0) d_X12_runs_311 f_12_267 (by decide) (by decide) (ty_120 hS.1.1) (st_120_84 hS (by decide) (by omega) (Tb1.of hS.1.2.2.2.2 (fun _ => rd_wb _ rfl) (rd_wb _ rfl))) (fun M311 hS w311 => ?_)
                                          refine Tr.pick [0, 1] (ls2 := [(0, (2, 120)), (3, (0, p298_3))]) rfl ?_
                                          exact J314 _ hS ((Wr.b w311 rfl).trans k298_120_59) ((Wr.b w311 rfl).trans k298_120_62) ((Wr.b w311 rfl).trans k298_120_64) ((Wr.b w311 rfl).trans k298_120_68) ((Wr.b w311 rfl).trans k298_120_75) ((Wr.b w311 rfl).trans k298_120_79) ((Wr.b w311 rfl).trans k298_126_1) ((Wr.b w311 rfl).trans k298_136_1) ((Wr.b w311 rfl).trans k298_137_p162_31200) ((Wr.b w311 rfl).trans k298_138_p162_31200)
                                      have J285 : ∀ (M : Mem), St Tb1 ws_X12_runs_120_w2 as_X12_runs_120_w2 M0 M → rd M 120 59 = u162_120_59 → rd M 120 61 = w226_120_61 → rd M 120 62 = s226_120_62 → rd M 120 64 = (-1) → rd M 120 68 = s226_120_68 → rd M 120 75 = u162_120_75 → rd M 120 79 = u162_120_79 → rd M 126 1 = g126_1 → rd M 136 1 = g136_1 → rd M 137 (p162_3 + 200) = r203 → rd M 138 (p162_3 + 200) = r225 → (s226_120_62 ≤ 2000) → (u162_120_59 = -1) → (0 ≤ (p162_3 + 1) ∧ (p162_3 + 1) ≤ 200) → ((r226 = 1 ∧ u162_120_75 + 1 ≤ s226_120_62 ∧ u162_120_79 + 1 ≤ s226_120_62 ∧ s226_120_62 = u162_120_62 + 1) ∨ (r226 = 0 ∧ u162_120_75 ≤ s226_120_62 ∧ u162_120_79 ≤ s226_120_62 ∧ 1 ≤ s226_120_68 ∧ s226_120_62 = u162_120_62)) → Tr l K 7 mX12_runs 285 [(0, (2, 120)), (3, (0, (p162_3 + 1))), (4, (0, (p162_3 + 200))), (5, (0, r226))] [] M (q_X12_runs_120_w2 a1 M0) := by
                                        intro M  hS  k285_120_59 k285_120_61 k285_120_62 k285_120_64 k285_120_68 k285_120_75 k285_120_79 k285_126_1 k285_136_1 k285_137_p162_31200 k285_138_p162_31200 t285_0 t285_1 t285_2 t285_3
                                        refine Tr.iload (pc := 285) (i := 5) d_X12_runs_285 rfl ?_
                                        refine Tr.if_eq (pc := 287) (tgt := 298) d_X12_runs_287 rfl (fun c287 => ?_) (fun c287 => ?_)
                                        · refine Tr.pick [0, 1, 2, 3] (ls2 := [(0, (2, 120)), (3, (0, (p162_3 + 1))), (4, (0, (p162_3 + 200))), (5, (0, r226))]) rfl ?_
                                          exact J298 _ _ _ _ _ _ _ _ hS (by omega) (by omega) (by omega) (by omega) (by omega) (by omega) (by omega) k285_120_59 k285_120_62 k285_120_64 k285_120_68 k285_120_75 k285_120_79 k285_126_1 k285_136_1 k285_137_p162_31200 k285_138_p162_31200 (by omega) (by omega) (by omega) (by omega) (by first | assumption | omega)
                                        · refine Tr.aload_n (pc := 290) (i := 0) d_X12_runs_290 rfl rfl ?_
                                          refine Tr.iload (pc := 291) (i := 4) d_X12_runs_291 rfl ?_
                                          refine Tr.callV (pc := 293) (as := [_]) d_X12_runs_293 s_12_635 ok_X12_does rfl rfl (Nat.le_of_ble_eq_true rfl) (Nat.le_of_ble_eq_true rfl) (by decide) (ty_120 hS.1.1) ?_
                                          have kb293_120_59 : rd M 120 59 = u162_120_59 := k285_120_59
                                          have kb293_120_62 : rd M 120 62 = s226_120_62 := k285_120_62
                                          have kb293_120_75 : rd M 120 75 = u162_120_75 := k285_120_75
                                          have kb293_120_79 : rd M 120 79 = u162_120_79 := k285_120_79
                                          have kb293_136_1 : rd M 136 1 = g136_1 := k285_136_1
                                          have kp293_138 : rd M 138 (p162_3 + 200) = r225 := k285_138_p162_31200
                                          refine Tr.imp (Tr.deep (by decide) (sp_X12_does_120_w1 hS.1 ((St.kp hS (by decide) (by decide) (by decide)).trans en_120_12) (p162_3 + 200) (by omega) (by omega) (by omega) (by omega) (by omega) (by omega) (by omega) (Bk1.of hF_Bk1 (fun j => (St.ka hS (by decide) (by decide) (by decide))) (fun j => (St.ka hS (by decide) (by decide) (by decide))) (fun j => (St.ka hS (by decide) (by decide) (by decide))) (fun j => (St.ka hS (by decide) (by decide) (by decide))) (fun j => (St.ka hS (by decide) (by decide) (by decide))) (fun j => (St.ka hS (by decide) (by decide) (by decide))) (fun j => (St.ka hS (by decide) (by decide) (by decide))) (fun j => (St.ka hS (by decide) (by decide) (by decide))) (St.kp hS (by decide) (by decide) (by decide)) (St.kp hS (by decide) (by decide) (by decide)) (St.kp hS (by decide) (by decide) (by decide)) (St.kp hS (by decide) (by decide) (by decide))))) ?_
                                          rintro M293 _ ⟨h293, r293, rfl, lr293, ur293, z293_0, z293_1, z293_2, z293_3, z293_4⟩
                                          have hS := St.tr hS h293 (by decide) (by decide)
                                          obtain ⟨s293_120_59, es293_120_59⟩ : ∃ v, rd M293 120 59 = v := ⟨_, rfl⟩
                                          have bs293_120_59 : (-1) ≤ s293_120_59 ∧ s293_120_59 ≤ 5 := by rw [← es293_120_59]; exact ir_120_59 hS.1.2.1
                                          obtain ⟨s293_120_62, es293_120_62⟩ : ∃ v, rd M293 120 62 = v := ⟨_, rfl⟩
                                          have bs293_120_62 : 0 ≤ s293_120_62 ∧ s293_120_62 ≤ 2060 := by rw [← es293_120_62]; exact ir_120_62 hS.1.2.1
                                          obtain ⟨s293_120_68, es293_120_68⟩ : ∃ v, rd M293 120 68 = v := ⟨_, rfl⟩
                                          have bs293_120_68 : 0 ≤ s293_120_68 ∧ s293_120_68 ≤ 2 := by rw [← es293_120_68]; exact ir_120_68 hS.1.2.1
                                          obtain ⟨s293_120_75, es293_120_75⟩ : ∃ v, rd M293 120 75 = v := ⟨_, rfl⟩
                                          have bs293_120_75 : 0 ≤ s293_120_75 ∧ s293_120_75 ≤ 2100 := by rw [← es293_120_75]; exact ir_120_75 hS.1.2.1
                                          obtain ⟨s293_120_79, es293_120_79⟩ : ∃ v, rd M293 120 79 = v := ⟨_, rfl⟩
                                          have bs293_120_79 : 0 ≤ s293_120_79 ∧ s293_120_79 ≤ 2100 := by rw [← es293_120_79]; exact ir_120_79 hS.1.2.1
                                          refine Tr.sc [(0, r293)] rfl ?_
                                          refine Tr.istore (pc := 296) (i := 5) (ls2 := [(5, (0, r293)), (0, (2, 120)), (3, (0, (p162_3 + 1))), (4, (0, (p162_3 + 200)))]) d_X12_runs_296 (by decide) rfl ?_
                                          refine Tr.pick [1, 2, 3, 0] (ls2 := [(0, (2, 120)), (3, (0, (p162_3 + 1))), (4, (0, (p162_3 + 200))), (5, (0, r293))]) rfl ?_
                                          exact J298 _ _ _ _ _ _ _ _ hS (by omega) (by omega) (by omega) (by omega) (by omega) (by omega) (by omega) es293_120_59 es293_120_62 ((St.kp h293 (by decide) (by decide) (by decide)).trans k285_120_64) es293_120_68 es293_120_75 es293_120_79 ((St.kp h293 (by decide) (by decide) (by decide)).trans k285_126_1) ((St.kp h293 (by decide) (by decide) (by decide)).trans k285_136_1) ((St.ka h293 (by decide) (by decide) (by decide)).trans k285_137_p162_31200) ((St.ka h293 (by decide) (by decide) (by decide)).trans k285_138_p162_31200) (by omega) (by omega) (by omega) (by omega) (by first | assumption | omega)
                                      refine Tr.if_eq (pc := 248) (tgt := 285) d_X12_runs_248 rfl (fun c248 => ?_) (fun c248 => ?_)
                                      · refine Tr.pick [0, 1, 2, 3] (ls2 := [(0, (2, 120)), (3, (0, (p162_3 + 1))), (4, (0, (p162_3 + 200))), (5, (0, r226))]) rfl ?_
                                        exact J285 _ hS k246_120_59 k246_120_61 k246_120_62 k246_120_64 k246_120_68 k246_120_75 k246_120_79 k246_126_1 k246_136_1 k246_137_p162_31200 k246_138_p162_31200 (by omega) (by omega) (by omega) (by first | assumption | omega)
                                      · refine Tr.aload_n (pc := 251) (i := 0) d_X12_runs_251 rfl rfl ?_
                                        refine Tr.getf (pc := 252) d_X12_runs_252 f_12_97 (by decide) (by decide) (ty_120 hS.1.1) ?_
                                        refine Tr.tp 137 (fx_120_28 hS.1.1) ?_
                                        refine Tr.iload (pc := 255) (i := 4) d_X12_runs_255 rfl ?_
                                        refine Tr.iald (pc := 257) d_X12_runs_257 (ty_137 hS.1.1) (by omega) (by omega) ?_
                                        refine Tr.tp r203 k246_137_p162_31200 ?_
                                        refine Tr.bipush (pc := 258) d_X12_runs_258 rfl (by decide) ?_
                                        refine Tr.icmp_lt (pc := 260) (tgt := 285) d_X12_runs_260 rfl (fun c260 => ?_) (fun c260 => ?_)
                                        · refine Tr.pick [0, 1, 2, 3] (ls2 := [(0, (2, 120)), (3, (0, (p162_3 + 1))), (4, (0, (p162_3 + 200))), (5, (0, r226))]) rfl ?_
                                          exact J285 _ hS k246_120_59 k246_120_61 k246_120_62 k246_120_64 k246_120_68 k246_120_75 k246_120_79 k246_126_1 k246_136_1 k246_137_p162_31200 k246_138_p162_31200 (by omega) (by omega) (by omega) (by first | assumption | omega)
                                        · refine Tr.aload_n (pc := 263) (i := 0) d_X12_runs_263 rfl rfl ?_
                                          refine Tr.iload (pc := 264) (i := 4) d_X12_runs_264 rfl ?_
                                          refine Tr.callV (pc := 266) (as := [_]) d_X12_runs_266 s_12_614 ok_X12_works rfl rfl (Nat.le_of_ble_eq_true rfl) (Nat.le_of_ble_eq_true rfl) (by decide) (ty_120 hS.1.1) ?_
                                          have kb266_136_1 : rd M 136 1 = g136_1 := k246_136_1
                                          refine Tr.imp (Tr.deep (by decide) (sp_X12_works_120_w1 hS.1.wk ((St.kp hS (by decide) (by decide) (by decide)).trans en_120_12) (p162_3 + 200) (by omega) (by omega) (Bk1.of hF_Bk1 (fun j => (St.ka hS (by decide) (by decide) (by decide))) (fun j => (St.ka hS (by decide) (by decide) (by decide))) (fun j => (St.ka hS (by decide) (by decide) (by decide))) (fun j => (St.ka hS (by decide) (by decide) (by decide))) (fun j => (St.ka hS (by decide) (by decide) (by decide))) (fun j => (St.ka hS (by decide) (by decide) (by decide))) (fun j => (St.ka hS (by decide) (by decide) (by decide))) (fun j => (St.ka hS (by decide) (by decide) (by decide))) (St.kp hS (by decide) (by decide) (by decide)) (St.kp hS (by decide) (by decide) (by decide)) (St.kp hS (by decide) (by decide) (by decide)) (St.kp hS (by decide) (by decide) (by decide))))) ?_
                                          rintro M266 _ ⟨h266, r266, rfl, lr266, ur266⟩
                                          have h266 := St.rn h266 (Tb1.of hS.1.2.2.2.2 (fun _ => (St.ka h266 (by decide) (by decide) (by decide))) (St.kp h266 (by decide) (by decide) (by decide)))
                                          have hS := St.tr hS h266 (by decide) (by decide)
                                          refine Tr.sc [(1, r266)] rfl ?_
                                          refine Tr.lconst (pc := 269) (v := 0) d_X12_runs_269 rfl (by decide) ?_
                                          refine Tr.lcmp (pc := 270) d_X12_runs_270 ?_
                                          refine Tr.gen (P := fun v => (v = 1 ∧ 0 < r266) ∨ (v = 0 ∧ r266 = 0) ∨ (v = -1 ∧ r266 < 0)) (f_lcmp_c _ _) (fun r270 er270 br270 => ?_)
                                          refine Tr.if_ne (pc := 271) (tgt := 298) d_X12_runs_271 rfl (fun c271 => ?_) (fun c271 => ?_)
                                          · refine Tr.pick [0, 1, 2, 3] (ls2 := [(0, (2, 120)), (3, (0, (p162_3 + 1))), (4, (0, (p162_3 + 200))), (5, (0, r226))]) rfl ?_
                                            exact J298 _ _ _ _ _ _ _ _ hS (by omega) (by omega) (by omega) (by omega) (by omega) (by omega) (by omega) ((St.kp h266 (by decide) (by decide) (by decide)).trans k246_120_59) ((St.kp h266 (by decide) (by decide) (by decide)).trans k246_120_62) ((St.kp h266 (by decide) (by decide) (by decide)).trans k246_120_64) ((St.kp h266 (by decide) (by decide) (by decide)).trans k246_120_68) ((St.kp h266 (by decide) (by decide) (by decide)).trans k246_120_75) ((St.kp h266 (by decide) (by decide) (by decide)).trans k246_120_79) ((St.kp h266 (by decide) (by decide) (by decide)).trans k246_126_1) ((St.kp h266 (by decide) (by decide) (by decide)).trans k246_136_1) ((St.ka h266 (by decide) (by decide) (by decide)).trans k246_137_p162_31200) ((St.ka h266 (by decide) (by decide) (by decide)).trans k246_138_p162_31200) (by omega) (by omega) (by omega) (by omega) (by first | assumption | omega)
                                          · refine Tr.aload_n (pc := 274) (i := 0) d_X12_runs_274 rfl rfl ?_
                                            refine Tr.getf (pc := 275) d_X12_runs_275 f_12_112 (by decide) (by decide) (ty_120 hS.1.1) ?_
                                            refine Tr.tp 142 (fx_120_33 hS.1.1) ?_
                                            refine Tr.iload (pc := 278) (i := 4) d_X12_runs_278 rfl ?_
                                            refine Tr.iald (pc := 280) d_X12_runs_280 (ty_142 hS.1.1) (by omega) (by omega) ?_
                                            refine Tr.gen (P := fun v => 0 ≤ v ∧ v ≤ 200) (ar_142 hS.1.2.1 _) (fun r280 er280 br280 => ?_)
                                            refine Tr.istore_n (pc := 281) (i := 3) (ls2 := [(3, (0, r280)), (0, (2, 120)), (4, (0, (p162_3 + 200))), (5, (0, r226))]) d_X12_runs_281 rfl (by decide) rfl ?_
                                            refine Tr.goto (pc := 282) (tgt := 298) d_X12_runs_282 rfl ?_
                                            refine Tr.pick [1, 0, 2, 3] (ls2 := [(0, (2, 120)), (3, (0, r280)), (4, (0, (p162_3 + 200))), (5, (0, r226))]) rfl ?_
                                            exact J298 _ _ _ _ _ _ _ _ hS (by omega) (by omega) (by omega) (by omega) (by omega) (by omega) (by omega) ((St.kp h266 (by decide) (by decide) (by decide)).trans k246_120_59) ((St.kp h266 (by decide) (by decide) (by decide)).trans k246_120_62) ((St.kp h266 (by decide) (by decide) (by decide)).trans k246_120_64) ((St.kp h266 (by decide) (by decide) (by decide)).trans k246_120_68) ((St.kp h266 (by decide) (by decide) (by decide)).trans k246_120_75) ((St.kp h266 (by decide) (by decide) (by decide)).trans k246_120_79) ((St.kp h266 (by decide) (by decide) (by decide)).trans k246_126_1) ((St.kp h266 (by decide) (by decide) (by decide)).trans k246_136_1) ((St.ka h266 (by decide) (by decide) (by decide)).trans k246_137_p162_31200) ((St.ka h266 (by decide) (by decide) (by decide)).trans k246_138_p162_31200) (by omega) (by omega) (by omega) (by omega) (by first | assumption | omega)
                                    refine Tr.if_eq (pc := 233) (tgt := 246) d_X12_runs_233 rfl (fun c233 => ?_) (fun c233 => ?_)
                                    · refine Tr.pick [3, 1, 2, 0] (ls2 := [(0, (2, 120)), (3, (0, (p162_3 + 1))), (4, (0, (p162_3 + 200))), (5, (0, r226))]) rfl ?_
                                      exact J246 _ hS ((St.kp h226 (by decide) (by decide) (by decide)).trans k162_120_59) ((St.kp h226 (by decide) (by decide) (by decide)).trans ew226_120_61) es226_120_62 ((St.kp h226 (by decide) (by decide) (by decide)).trans k162_120_64) es226_120_68 ((St.kp h226 (by decide) (by decide) (by decide)).trans k162_120_75) ((St.kp h226 (by decide) (by decide) (by decide)).trans k162_120_79) ((St.kp h226 (by decide) (by decide) (by decide)).trans k162_126_1) ((St.kp h226 (by decide) (by decide) (by decide)).trans k162_136_1) ((St.ka h226 (by decide) (by decide) (by decide)).trans er203) ((St.ka h226 (by decide) (by decide) (by decide)).trans er225) (by omega) (by omega) (by omega) (by first | assumption | omega)
                                    · refine Tr.aload_n (pc := 236) (i := 0) d_X12_runs_236 rfl rfl ?_
                                      refine Tr.dup (pc := 237) d_X12_runs_237 ne21 ?_
                                      refine Tr.getf (pc := 238) d_X12_runs_238 f_12_216 (by decide) (by decide) (ty_120 hS.1.1) ?_
                                      refine Tr.gen (P := fun v => (-2147483648) ≤ v ∧ v ≤ 2147483647) (ir_120_67 hS.1.2.1) (fun r238 er238 br238 => ?_)
                                      refine Tr.iconst (pc := 241) d_X12_runs_241 (by decide) ?_
                                      refine Tr.iadd (pc := 242) d_X12_runs_242 ?_
                                      refine Tr.gen (P := fun v => (-2147483648) ≤ v ∧ v ≤ 2147483647) (w32_b _) (fun r242 er242 br242 => ?_)
                                      refine Tr.putfS (pc := 243) (P := St Tb1 ws_X12_runs_120_w2 as_X12_runs_120_w2 M0) d_X12_runs_243 f_12_216 (by decide) (by decide) (ty_120 hS.1.1) (st_120_67 hS (by decide) (by omega) (Tb1.of hS.1.2.2.2.2 (fun _ => rd_wb _ rfl) (rd_wb _ rfl))) (fun M243 hS w243 => ?_)
                                      refine Tr.pick [3, 1, 2, 0] (ls2 := [(0, (2, 120)), (3, (0, (p162_3 + 1))), (4, (0, (p162_3 + 200))), (5, (0, r226))]) rfl ?_
                                      exact J246 _ hS ((Wr.b w243 rfl).trans ((St.kp h226 (by decide) (by decide) (by decide)).trans k162_120_59)) ((Wr.b w243 rfl).trans ((St.kp h226 (by decide) (by decide) (by decide)).trans ew226_120_61)) ((Wr.b w243 rfl).trans es226_120_62) ((Wr.b w243 rfl).trans ((St.kp h226 (by decide) (by decide) (by decide)).trans k162_120_64)) ((Wr.b w243 rfl).trans es226_120_68) ((Wr.b w243 rfl).trans ((St.kp h226 (by decide) (by decide) (by decide)).trans k162_120_75)) ((Wr.b w243 rfl).trans ((St.kp h226 (by decide) (by decide) (by decide)).trans k162_120_79)) ((Wr.b w243 rfl).trans ((St.kp h226 (by decide) (by decide) (by decide)).trans k162_126_1)) ((Wr.b w243 rfl).trans ((St.kp h226 (by decide) (by decide) (by decide)).trans k162_136_1)) ((Wr.b w243 rfl).trans ((St.ka h226 (by decide) (by decide) (by decide)).trans er203)) ((Wr.b w243 rfl).trans ((St.ka h226 (by decide) (by decide) (by decide)).trans er225)) (by omega) (by omega) (by omega) (by first | assumption | omega)
                                  · refine Tr.aload_n (pc := 207) (i := 0) d_X12_runs_207 rfl rfl ?_
                                    refine Tr.getf (pc := 208) d_X12_runs_208 f_12_112 (by decide) (by decide) (ty_120 hS.1.1) ?_
                                    refine Tr.tp 142 (fx_120_33 hS.1.1) ?_
                                    refine Tr.iload (pc := 211) (i := 4) d_X12_runs_211 rfl ?_
                                    refine Tr.iald (pc := 213) d_X12_runs_213 (ty_142 hS.1.1) (by omega) (by omega) ?_
                                    refine Tr.gen (P := fun v => 0 ≤ v ∧ v ≤ 200) (ar_142 hS.1.2.1 _) (fun r213 er213 br213 => ?_)
                                    refine Tr.istore_n (pc := 214) (i := 3) (ls2 := [(3, (0, r213)), (4, (0, (p162_3 + 200))), (0, (2, 120))]) d_X12_runs_214 rfl (by decide) rfl ?_
                                    refine Tr.goto (pc := 215) (tgt := 162) d_X12_runs_215 rfl ?_
                                    refine Tr.pick [2, 0] (ls2 := [(0, (2, 120)), (3, (0, r213))]) rfl ?_
                                    have jr := rkf_b (rd M0 137 (200 + r213)) (a := r213) (by omega) (by omega)
                                    have jo := rkf_b (rd M0 137 (200 + p162_3)) (a := p162_3) (by omega) (by omega)
                                    have h7 : (200 : Int) + p162_3 = (p162_3 + 200) := by omega
                                    have je : rd M0 137 (200 + p162_3) = 0 := by have h8 : rd M 137 (200 + p162_3) = rd M0 137 (200 + p162_3) := St.ka hS (by decide) (by decide) (by decide); rw [h7] at h8 ⊢; omega
                                    have jg : rd M0 142 (200 + p162_3) = r213 := by rw [h7]; exact (St.ka hS (by decide) (by decide) (by decide)).symm.trans er213
                                    have jj := Bk1_jm hF_Bk1 (k := p162_3) (by omega) (by omega) je jg
                                    exact J162 _ _ _ _ _ _ _ hS (by omega) (by omega) (by omega) (by omega) (by omega) (by omega) k162_120_59 k162_120_62 k162_120_64 k162_120_68 k162_120_75 k162_120_79 k162_126_1 k162_136_1 (by omega) (by omega) (by omega) (by omega) (by omega) (by omega)
                          refine Tr.pick [1, 0] (ls2 := [(0, (2, 120)), (3, (0, 0))]) rfl ?_
                          have jr := rkf_b (rd M0 137 (200 + 0)) (a := 0) (by omega) (by omega)
                          exact J162 _ _ _ _ _ _ _ _ hS (by omega) (by omega) (by omega) (by omega) (by omega) (by omega) ((Wr.b w157 rfl).trans ((Wr.b w152 rfl).trans ((Wr.b w147 rfl).trans ((Wr.b w142 rfl).trans ((Wr.b w137 rfl).trans ((Wr.b w132 rfl).trans ((Wr.b w127 rfl).trans ((Wr.b w122 rfl).trans ((Wr.b w117 rfl).trans ((Wr.b w112 rfl).trans ((Wr.b w107 rfl).trans k86_120_59))))))))))) ((Wr.b w157 rfl).trans ((Wr.b w152 rfl).trans ((Wr.b w147 rfl).trans ((Wr.b w142 rfl).trans ((Wr.b w137 rfl).trans ((Wr.b w132 rfl).trans ((Wr.b w127 rfl).trans ((Wr.b w122 rfl).trans ((Wr.b w117 rfl).trans ((Wr.b w112 rfl).trans w107.1)))))))))) ((Wr.b w157 rfl).trans ((Wr.b w152 rfl).trans ((Wr.b w147 rfl).trans ((Wr.b w142 rfl).trans ((Wr.b w137 rfl).trans ((Wr.b w132 rfl).trans ((Wr.b w127 rfl).trans ((Wr.b w122 rfl).trans w117.1)))))))) ((Wr.b w157 rfl).trans ((Wr.b w152 rfl).trans ((Wr.b w147 rfl).trans ((Wr.b w142 rfl).trans w137.1)))) ((Wr.b w157 rfl).trans w152.1) w157.1 ((Wr.b w157 rfl).trans ((Wr.b w152 rfl).trans ((Wr.b w147 rfl).trans ((Wr.b w142 rfl).trans ((Wr.b w137 rfl).trans ((Wr.b w132 rfl).trans ((Wr.b w127 rfl).trans ((Wr.b w122 rfl).trans ((Wr.b w117 rfl).trans ((Wr.b w112 rfl).trans ((Wr.b w107 rfl).trans k86_126_1))))))))))) ((Wr.b w157 rfl).trans ((Wr.b w152 rfl).trans ((Wr.b w147 rfl).trans ((Wr.b w142 rfl).trans ((Wr.b w137 rfl).trans ((Wr.b w132 rfl).trans ((Wr.b w127 rfl).trans ((Wr.b w122 rfl).trans ((Wr.b w117 rfl).trans ((Wr.b w112 rfl).trans ((Wr.b w107 rfl).trans k86_136_1))))))))))) (by omega) (by omega) (by omega) (by omega) (by omega) (Nat.lt_succ_self _)
                        · refine Tr.aload_n (pc := 92) (i := 0) d_X12_runs_92 rfl rfl ?_
                          refine Tr.getf (pc := 93) d_X12_runs_93 f_12_222 (by decide) (by decide) (ty_120 hS.1.1) ?_
                          refine Tr.tp 161 (fx_120_69 hS.1.1) ?_
                          refine Tr.iload_n (pc := 96) (i := 3) d_X12_runs_96 rfl rfl ?_
                          refine Tr.iconst (pc := 97) d_X12_runs_97 (by decide) ?_
                          refine Tr.iastS (pc := 98) (P := St Tb1 ws_X12_runs_120_w2 as_X12_runs_120_w2 M0) d_X12_runs_98 (ty_161 hS.1.1) (by omega) (by omega) (sa_161 hS (by decide) (by omega) (Tb1.of hS.1.2.2.2.2 (fun _ => rd_wb _ rfl) (rd_wb _ rfl))) (fun M98 hS w98 => ?_)
                          refine Tr.iincV (pc := 99) (n2 := (p86_3 + 1)) (ls2 := [(3, (0, (p86_3 + 1))), (0, (2, 120)), (1, (1, a1))]) d_X12_runs_99 rfl (by decide) ((w32_id (by omega)).trans (by omega)) rfl ?_
                          refine Tr.goto (pc := 102) (tgt := 86) d_X12_runs_102 rfl ?_
                          refine Tr.pick [1, 2, 0] (ls2 := [(0, (2, 120)), (1, (1, a1)), (3, (0, (p86_3 + 1)))]) rfl ?_
                          exact J86 _ _ hS (by omega) ((Wr.b w98 rfl).trans k86_120_59) ((Wr.b w98 rfl).trans k86_120_62) ((Wr.b w98 rfl).trans k86_120_68) ((Wr.b w98 rfl).trans k86_120_75) ((Wr.b w98 rfl).trans k86_120_79) ((Wr.b w98 rfl).trans k86_126_1) ((Wr.b w98 rfl).trans k86_136_1) (by omega) (by omega)
                    refine Tr.pick [1, 2, 0] (ls2 := [(0, (2, 120)), (1, (1, a1)), (3, (0, 0))]) rfl ?_
                    exact J86 _ _ _ hS (by omega) k65_120_59 k65_120_62 k65_120_68 k65_120_75 k65_120_79 k65_126_1 k65_136_1 (by omega) (Nat.lt_succ_self _)
                  · refine Tr.aload_n (pc := 71) (i := 0) d_X12_runs_71 rfl rfl ?_
                    refine Tr.getf (pc := 72) d_X12_runs_72 f_12_189 (by decide) (by decide) (ty_120 hS.1.1) ?_
                    refine Tr.tp 160 (fx_120_58 hS.1.1) ?_
                    refine Tr.iload_n (pc := 75) (i := 3) d_X12_runs_75 rfl rfl ?_
                    refine Tr.iconst (pc := 76) d_X12_runs_76 (by decide) ?_
                    refine Tr.iastS (pc := 77) (P := St Tb1 ws_X12_runs_120_w2 as_X12_runs_120_w2 M0) d_X12_runs_77 (ty_160 hS.1.1) (by omega) (by omega) (sa_160 hS (by decide) (by omega) (Tb1.of hS.1.2.2.2.2 (fun _ => rd_wb _ rfl) (rd_wb _ rfl))) (fun M77 hS w77 => ?_)
                    refine Tr.iincV (pc := 78) (n2 := (p65_3 + 1)) (ls2 := [(3, (0, (p65_3 + 1))), (0, (2, 120)), (1, (1, a1))]) d_X12_runs_78 rfl (by decide) ((w32_id (by omega)).trans (by omega)) rfl ?_
                    refine Tr.goto (pc := 81) (tgt := 65) d_X12_runs_81 rfl ?_
                    refine Tr.pick [1, 2, 0] (ls2 := [(0, (2, 120)), (1, (1, a1)), (3, (0, (p65_3 + 1)))]) rfl ?_
                    exact J65 _ _ hS (by omega) ((Wr.b w77 rfl).trans k65_120_59) ((Wr.b w77 rfl).trans k65_120_62) ((Wr.b w77 rfl).trans k65_120_68) ((Wr.b w77 rfl).trans k65_120_75) ((Wr.b w77 rfl).trans k65_120_79) ((Wr.b w77 rfl).trans k65_126_1) ((Wr.b w77 rfl).trans k65_136_1) (by omega) (by omega)
              refine Tr.pick [1, 2, 0] (ls2 := [(0, (2, 120)), (1, (1, a1)), (3, (0, 0))]) rfl ?_
              exact J65 _ _ _ hS (by omega) k23_120_59 k23_120_62 k23_120_68 k23_120_75 k23_120_79 k23_126_1 k23_136_1 (by omega) (Nat.lt_succ_self _)
            · refine Tr.aload_n (pc := 29) (i := 0) d_X12_runs_29 rfl rfl ?_
              refine Tr.getf (pc := 30) d_X12_runs_30 f_12_177 (by decide) (by decide) (ty_120 hS.1.1) ?_
              refine Tr.tp 156 (fx_120_54 hS.1.1) ?_
              refine Tr.iload_n (pc := 33) (i := 3) d_X12_runs_33 rfl rfl ?_
              refine Tr.iconst (pc := 34) d_X12_runs_34 (by decide) ?_
              refine Tr.zastS (pc := 35) (P := St Tru ws_X12_runs_120_w2 as_X12_runs_120_w2 M0) d_X12_runs_35 (ty_156 hS.1.1) (by omega) (by omega) (by omega) (sa_156 hS (by decide) (by omega) trivial) (fun M35 hS w35 => ?_)
              refine Tr.aload_n (pc := 36) (i := 0) d_X12_runs_36 rfl rfl ?_
              refine Tr.getf (pc := 37) d_X12_runs_37 f_12_180 (by decide) (by decide) (ty_120 hS.1.1) ?_
              refine Tr.tp 157 (fx_120_55 hS.1.1) ?_
              refine Tr.iload_n (pc := 40) (i := 3) d_X12_runs_40 rfl rfl ?_
              refine Tr.iconst (pc := 41) d_X12_runs_41 (by decide) ?_
              refine Tr.iastS (pc := 42) (P := St Tru ws_X12_runs_120_w2 as_X12_runs_120_w2 M0) d_X12_runs_42 (ty_157 hS.1.1) (by omega) (by omega) (sa_157 hS (by decide) (by omega) trivial) (fun M42 hS w42 => ?_)
              refine Tr.aload_n (pc := 43) (i := 0) d_X12_runs_43 rfl rfl ?_
              refine Tr.getf (pc := 44) d_X12_runs_44 f_12_183 (by decide) (by decide) (ty_120 hS.1.1) ?_
              refine Tr.tp 158 (fx_120_56 hS.1.1) ?_
              refine Tr.iload_n (pc := 47) (i := 3) d_X12_runs_47 rfl rfl ?_
              refine Tr.iconst (pc := 48) d_X12_runs_48 (by decide) ?_
              refine Tr.iastS (pc := 49) (P := St Tru ws_X12_runs_120_w2 as_X12_runs_120_w2 M0) d_X12_runs_49 (ty_158 hS.1.1) (by omega) (by omega) (sa_158 hS (by decide) (by omega) trivial) (fun M49 hS w49 => ?_)
              refine Tr.aload_n (pc := 50) (i := 0) d_X12_runs_50 rfl rfl ?_
              refine Tr.getf (pc := 51) d_X12_runs_51 f_12_186 (by decide) (by decide) (ty_120 hS.1.1) ?_
              refine Tr.tp 159 (fx_120_57 hS.1.1) ?_
              refine Tr.iload_n (pc := 54) (i := 3) d_X12_runs_54 rfl rfl ?_
              refine Tr.iconst (pc := 55) d_X12_runs_55 (by decide) ?_
              refine Tr.iastS (pc := 56) (P := St Tru ws_X12_runs_120_w2 as_X12_runs_120_w2 M0) d_X12_runs_56 (ty_159 hS.1.1) (by omega) (by omega) (sa_159 hS (by decide) (by omega) trivial) (fun M56 hS w56 => ?_)
              refine Tr.iincV (pc := 57) (n2 := (p23_3 + 1)) (ls2 := [(3, (0, (p23_3 + 1))), (0, (2, 120)), (1, (1, a1))]) d_X12_runs_57 rfl (by decide) ((w32_id (by omega)).trans (by omega)) rfl ?_
              refine Tr.goto (pc := 60) (tgt := 23) d_X12_runs_60 rfl ?_
              refine Tr.pick [1, 2, 0] (ls2 := [(0, (2, 120)), (1, (1, a1)), (3, (0, (p23_3 + 1)))]) rfl ?_
              exact J23 _ _ hS (by omega) ((Wr.b w56 rfl).trans ((Wr.b w49 rfl).trans ((Wr.b w42 rfl).trans ((Wr.b w35 rfl).trans k23_120_59)))) ((Wr.b w56 rfl).trans ((Wr.b w49 rfl).trans ((Wr.b w42 rfl).trans ((Wr.b w35 rfl).trans k23_120_62)))) ((Wr.b w56 rfl).trans ((Wr.b w49 rfl).trans ((Wr.b w42 rfl).trans ((Wr.b w35 rfl).trans k23_120_68)))) ((Wr.b w56 rfl).trans ((Wr.b w49 rfl).trans ((Wr.b w42 rfl).trans ((Wr.b w35 rfl).trans k23_120_75)))) ((Wr.b w56 rfl).trans ((Wr.b w49 rfl).trans ((Wr.b w42 rfl).trans ((Wr.b w35 rfl).trans k23_120_79)))) ((Wr.b w56 rfl).trans ((Wr.b w49 rfl).trans ((Wr.b w42 rfl).trans ((Wr.b w35 rfl).trans k23_126_1)))) ((Wr.b w56 rfl).trans ((Wr.b w49 rfl).trans ((Wr.b w42 rfl).trans ((Wr.b w35 rfl).trans k23_136_1)))) (by omega) (fun p p0 p1 => by rw [Wr.b w56 rfl]; by_cases c : p = p23_3; (rw [c, w49.1]; omega); (rw [w49.2 _ _ (fun d => c d.2), Wr.b w42 rfl, Wr.b w35 rfl]; exact tp23_0 p p0 (by omega))) (by omega)
        refine Tr.pick [1, 2, 0] (ls2 := [(0, (2, 120)), (1, (1, a1)), (3, (0, 0))]) rfl ?_
        exact J23 _ _ _ hS (by omega) k2_120_59 k2_120_62 k2_120_68 k2_120_75 k2_120_79 k2_126_1 k2_136_1 (by omega) (fun p p0 p1 => absurd p1 (by omega)) (Nat.lt_succ_self _)
      · refine Tr.aload_n (pc := 8) (i := 0) d_X12_runs_8 rfl rfl ?_
        refine Tr.getf (pc := 9) d_X12_runs_9 f_12_174 (by decide) (by decide) (ty_120 hS.1.1) ?_
        refine Tr.tp 155 (fx_120_53 hS.1.1) ?_
        refine Tr.iload_n (pc := 12) (i := 3) d_X12_runs_12 rfl rfl ?_
        refine Tr.iconst (pc := 13) d_X12_runs_13 (by decide) ?_
        refine Tr.iastS (pc := 14) (P := St Tru ws_X12_runs_120_w2 as_X12_runs_120_w2 M0) d_X12_runs_14 (ty_155 hS.1.1) (by omega) (by omega) (sa_155 hS (by decide) (by omega) trivial) (fun M14 hS w14 => ?_)
        refine Tr.iincV (pc := 15) (n2 := (p2_3 + 1)) (ls2 := [(3, (0, (p2_3 + 1))), (0, (2, 120)), (1, (1, a1))]) d_X12_runs_15 rfl (by decide) ((w32_id (by omega)).trans (by omega)) rfl ?_
        refine Tr.goto (pc := 18) (tgt := 2) d_X12_runs_18 rfl ?_
        refine Tr.pick [1, 2, 0] (ls2 := [(0, (2, 120)), (1, (1, a1)), (3, (0, (p2_3 + 1)))]) rfl ?_
        exact J2 _ _ hS (by omega) ((Wr.b w14 rfl).trans k2_120_59) ((Wr.b w14 rfl).trans k2_120_62) ((Wr.b w14 rfl).trans k2_120_68) ((Wr.b w14 rfl).trans k2_120_75) ((Wr.b w14 rfl).trans k2_120_79) ((Wr.b w14 rfl).trans k2_126_1) ((Wr.b w14 rfl).trans k2_136_1) (by omega) (by omega)
  refine Tr.pick [1, 2, 0] (ls2 := [(0, (2, 120)), (1, (1, a1)), (3, (0, 0))]) rfl ?_
  exact J2 _ _ _ hS (by omega) eg120_59 eg120_62 eg120_68 eg120_75 eg120_79 eg126_1 eg136_1 (by omega) (Nat.lt_succ_self _)
end
