def ws_X12_works_120_w1 : List (Int × Int) := []
def as_X12_works_120_w1 : List Int := [172]
def q_X12_works_120_w1 (M0 M' : Mem) (r : Option PV) : Prop := St Tru ws_X12_works_120_w1 as_X12_works_120_w1 M0 M' ∧ ∃ v : Int, r = some (1, v) ∧ (-9223372036854775808) ≤ v ∧ v ≤ 9223372036854775807
set_option maxRecDepth 100000 in
set_option maxHeartbeats 4000000 in
theorem sp_X12_works_120_w1 {l : Launch} {K : EC} {M0 : Mem} (hI : In Tru M0) (en_120_12 : rd M0 120 12 = 1) (a1 : Int) (ha1 : 0 ≤ a1 ∧ a1 ≤ 399)  (hq0 : 200 ≤ a1 ∧ a1 < 200 + rd M0 136 1) (hF_Bk1 : Bk1 M0) : Tr l K 2 mX12_works 0 [(0, (2, 120)), (1, (0, a1))] [] M0 (q_X12_works_120_w1 M0) := by
  have hS : St Tru ws_X12_works_120_w1 as_X12_works_120_w1 M0 M0 := St.rf hI
  obtain ⟨g136_1, eg136_1⟩ : ∃ v, rd M0 136 1 = v := ⟨_, rfl⟩
  have bg136_1 : 0 ≤ g136_1 ∧ g136_1 ≤ 200 := by rw [← eg136_1]; exact ir_136_1 hI.2.1
  refine Tr.iconst (pc := 0) d_X12_works_0 (by decide) ?_
  refine Tr.istore_n (pc := 1) (i := 2) (ls2 := [(2, (0, 0)), (0, (2, 120)), (1, (0, a1))]) d_X12_works_1 rfl (by decide) rfl ?_
  refine Tr.sipush (pc := 2) d_X12_works_2 rfl (by decide) ?_
  refine Tr.aload_n (pc := 5) (i := 0) d_X12_works_5 rfl rfl ?_
  refine Tr.getf (pc := 6) d_X12_works_6 f_12_48 (by decide) (by decide) (ty_120 hS.1.1) ?_
  refine Tr.tp 1 ((St.kp hS (by decide) (by decide) (by decide)).trans en_120_12) ?_
  refine Tr.imul (pc := 9) d_X12_works_9 ?_
  refine Tr.tp 900 (by decide) ?_
  refine Tr.aload_n (pc := 10) (i := 0) d_X12_works_10 rfl rfl ?_
  refine Tr.getf (pc := 11) d_X12_works_11 f_12_106 (by decide) (by decide) (ty_120 hS.1.1) ?_
  refine Tr.tp 140 (fx_120_31 hS.1.1) ?_
  refine Tr.iload_n (pc := 14) (i := 1) d_X12_works_14 rfl rfl ?_
  refine Tr.iald (pc := 15) d_X12_works_15 (ty_140 hS.1.1) (by omega) (by omega) ?_
  refine Tr.gen (P := fun v => 0 ≤ v ∧ v ≤ 900) (ar_140 hS.1.2.1 _) (fun r15 er15 br15 => ?_)
  refine Tr.iadd (pc := 16) d_X12_works_16 ?_
  refine Tr.tp (r15 + 900) ((w32_id (by omega)).trans (by omega)) ?_
  refine Tr.istore_n (pc := 17) (i := 3) (ls2 := [(3, (0, (r15 + 900))), (2, (0, 0)), (0, (2, 120)), (1, (0, a1))]) d_X12_works_17 rfl (by decide) rfl ?_
  have J18 : ∀ (n18 : Nat) (M : Mem) (p18_2 p18_3 : Int), St Tru ws_X12_works_120_w1 as_X12_works_120_w1 M0 M → (0 ≤ p18_2 ∧ p18_2 ≤ 950) → (900 ≤ p18_3 ∧ p18_3 ≤ 1800) → rd M 136 1 = g136_1 → rd M 140 a1 = r15 → (p18_2 = dp M0 (900 + rd M0 140 a1) (p18_3 - (900 + rd M0 140 a1)).toNat ∧ (900 + rd M0 140 a1) ≤ p18_3) → (0 ≤ p18_2 ∧ p18_2 ≤ 900) → (1800 - p18_3).toNat < n18 → Tr l K 2 mX12_works 18 [(0, (2, 120)), (1, (0, a1)), (2, (0, p18_2)), (3, (0, p18_3))] [] M (q_X12_works_120_w1 M0) := by
    intro n18
    induction n18 with
    | zero => intro M p18_2 p18_3 hS bp18_2 bp18_3 k18_136_1 k18_140_a110 t18_0 t18_1 hm18; exact absurd hm18 (Nat.not_lt_zero _)
    | succ n18 J18 =>
      intro M p18_2 p18_3 hS bp18_2 bp18_3 k18_136_1 k18_140_a110 t18_0 t18_1 hm18
      refine Tr.iload_n (pc := 18) (i := 3) d_X12_works_18 rfl rfl ?_
      refine Tr.sipush (pc := 19) d_X12_works_19 rfl (by decide) ?_
      refine Tr.aload_n (pc := 22) (i := 0) d_X12_works_22 rfl rfl ?_
      refine Tr.getf (pc := 23) d_X12_works_23 f_12_48 (by decide) (by decide) (ty_120 hS.1.1) ?_
      refine Tr.tp 1 ((St.kp hS (by decide) (by decide) (by decide)).trans en_120_12) ?_
      refine Tr.imul (pc := 26) d_X12_works_26 ?_
      refine Tr.tp 900 (by decide) ?_
      refine Tr.aload_n (pc := 27) (i := 0) d_X12_works_27 rfl rfl ?_
      refine Tr.getf (pc := 28) d_X12_works_28 f_12_109 (by decide) (by decide) (ty_120 hS.1.1) ?_
      refine Tr.tp 141 (fx_120_32 hS.1.1) ?_
      refine Tr.iload_n (pc := 31) (i := 1) d_X12_works_31 rfl rfl ?_
      refine Tr.iald (pc := 32) d_X12_works_32 (ty_141 hS.1.1) (by omega) (by omega) ?_
      refine Tr.gen (P := fun v => 0 ≤ v ∧ v ≤ 900) (ar_141 hS.1.2.1 _) (fun r32 er32 br32 => ?_)
      refine Tr.iadd (pc := 33) d_X12_works_33 ?_
      refine Tr.tp (r32 + 900) ((w32_id (by omega)).trans (by omega)) ?_
      refine Tr.icmp_ge (pc := 34) (tgt := 139) d_X12_works_34 rfl (fun c34 => ?_) (fun c34 => ?_)
      · refine Tr.aload_n (pc := 139) (i := 0) d_X12_works_139 rfl rfl ?_
        refine Tr.getf (pc := 140) d_X12_works_140 f_12_264 (by decide) (by decide) (ty_120 hS.1.1) ?_
        refine Tr.tp 172 (fx_120_83 hS.1.1) ?_
        refine Tr.iconst (pc := 143) d_X12_works_143 (by decide) ?_
        refine Tr.lald (pc := 144) d_X12_works_144 (ty_172 hS.1.1) (by omega) (by omega) ?_
        refine Tr.gen (P := fun v => (-9223372036854775808) ≤ v ∧ v ≤ 9223372036854775807) (ar_172 hS.1.2.1 _) (fun r144 er144 br144 => ?_)
        exact Tr.lret (pc := 145) d_X12_works_145 rfl ⟨hS, _, rfl, by omega, by omega⟩
      · refine Tr.aload_n (pc := 37) (i := 0) d_X12_works_37 rfl rfl ?_
        refine Tr.getf (pc := 38) d_X12_works_38 f_12_115 (by decide) (by decide) (ty_120 hS.1.1) ?_
        refine Tr.tp 143 (fx_120_34 hS.1.1) ?_
        refine Tr.iload_n (pc := 41) (i := 3) d_X12_works_41 rfl rfl ?_
        refine Tr.iald (pc := 42) d_X12_works_42 (ty_143 hS.1.1) (by omega) (by omega) ?_
        refine Tr.gen (P := fun v => (-2147483648) ≤ v ∧ v ≤ 2147483647) (ar_143 hS.1.2.1 _) (fun r42 er42 br42 => ?_)
        have hw0 : rd M0 143 p18_3 = r42 := (St.ka hS (by decide) (by decide) (by decide)).symm.trans er42
        have hw1 := Bk1_wf hF_Bk1 (i := a1) (j := p18_3) (by omega) (by omega) (by omega) (by have h9 : rd M 141 a1 = rd M0 141 a1 := St.ka hS (by decide) (by decide) (by decide); omega)
        rw [hw0, ← t18_0.1] at hw1
        refine Tr.istore (pc := 43) (i := 4) (ls2 := [(4, (0, r42)), (0, (2, 120)), (1, (0, a1)), (2, (0, p18_2)), (3, (0, p18_3))]) d_X12_works_43 (by decide) rfl ?_
        refine Tr.iload (pc := 45) (i := 4) d_X12_works_45 rfl ?_
        refine Tr.iconst (pc := 47) d_X12_works_47 (by decide) ?_
        have J133 : ∀ (M : Mem) (p133_2 : Int), St Tru ws_X12_works_120_w1 as_X12_works_120_w1 M0 M → (1 ≤ p133_2 ∧ p133_2 ≤ 950) → rd M 136 1 = g136_1 → rd M 140 a1 = r15 → rd M 141 a1 = r32 → rd M 143 p18_3 = r42 → (p133_2 = dp M0 (900 + rd M0 140 a1) (p18_3 + 1 - (900 + rd M0 140 a1)).toNat ∧ 0 ≤ p133_2 ∧ p133_2 ≤ 900) → Tr l K 2 mX12_works 133 [(0, (2, 120)), (1, (0, a1)), (2, (0, p133_2)), (3, (0, p18_3))] [] M (q_X12_works_120_w1 M0) := by
          intro M p133_2 hS bp133_2 k133_136_1 k133_140_a110 k133_141_a110 k133_143_p18_310 tp133_0
          refine Tr.iincV (pc := 133) (n2 := (p18_3 + 1)) (ls2 := [(3, (0, (p18_3 + 1))), (0, (2, 120)), (1, (0, a1)), (2, (0, p133_2))]) d_X12_works_133 rfl (by decide) ((w32_id (by omega)).trans (by omega)) rfl ?_
          refine Tr.goto (pc := 136) (tgt := 18) d_X12_works_136 rfl ?_
          refine Tr.pick [1, 2, 3, 0] (ls2 := [(0, (2, 120)), (1, (0, a1)), (2, (0, p133_2)), (3, (0, (p18_3 + 1)))]) rfl ?_
          exact J18 _ _ _ hS (by omega) (by omega) k133_136_1 k133_140_a110 (by omega) (by omega) (by omega)
        refine Tr.icmp_gt (pc := 48) (tgt := 75) d_X12_works_48 rfl (fun c48 => ?_) (fun c48 => ?_)
        · refine Tr.iload (pc := 75) (i := 4) d_X12_works_75 rfl ?_
          refine Tr.bipush (pc := 77) d_X12_works_77 rfl (by decide) ?_
          refine Tr.icmp_ne (pc := 79) (tgt := 103) d_X12_works_79 rfl (fun c79 => ?_) (fun c79 => ?_)
          · refine Tr.iincV (pc := 103) (n2 := (p18_2 - 1)) (ls2 := [(2, (0, (p18_2 - 1))), (4, (0, r42)), (0, (2, 120)), (1, (0, a1)), (3, (0, p18_3))]) d_X12_works_103 rfl (by decide) ((w32_id (by omega)).trans (by omega)) rfl ?_
            refine Tr.aload_n (pc := 106) (i := 0) d_X12_works_106 rfl rfl ?_
            refine Tr.getf (pc := 107) d_X12_works_107 f_12_264 (by decide) (by decide) (ty_120 hS.1.1) ?_
            refine Tr.tp 172 (fx_120_83 hS.1.1) ?_
            refine Tr.iload_n (pc := 110) (i := 2) d_X12_works_110 rfl rfl ?_
            refine Tr.iconst (pc := 111) d_X12_works_111 (by decide) ?_
            refine Tr.isub (pc := 112) d_X12_works_112 ?_
            refine Tr.tp (p18_2 - 2) ((w32_id (by omega)).trans (by omega)) ?_
            refine Tr.iload (pc := 113) (i := 4) d_X12_works_113 rfl ?_
            refine Tr.aload_n (pc := 115) (i := 0) d_X12_works_115 rfl rfl ?_
            refine Tr.getf (pc := 116) d_X12_works_116 f_12_264 (by decide) (by decide) (ty_120 hS.1.1) ?_
            refine Tr.tp 172 (fx_120_83 hS.1.1) ?_
            refine Tr.iload_n (pc := 119) (i := 2) d_X12_works_119 rfl rfl ?_
            refine Tr.iconst (pc := 120) d_X12_works_120 (by decide) ?_
            refine Tr.isub (pc := 121) d_X12_works_121 ?_
            refine Tr.tp (p18_2 - 2) ((w32_id (by omega)).trans (by omega)) ?_
            refine Tr.lald (pc := 122) d_X12_works_122 (ty_172 hS.1.1) (by omega) (by omega) ?_
            refine Tr.gen (P := fun v => (-9223372036854775808) ≤ v ∧ v ≤ 9223372036854775807) (ar_172 hS.1.2.1 _) (fun r122 er122 br122 => ?_)
            refine Tr.aload_n (pc := 123) (i := 0) d_X12_works_123 rfl rfl ?_
            refine Tr.getf (pc := 124) d_X12_works_124 f_12_264 (by decide) (by decide) (ty_120 hS.1.1) ?_
            refine Tr.tp 172 (fx_120_83 hS.1.1) ?_
            refine Tr.iload_n (pc := 127) (i := 2) d_X12_works_127 rfl rfl ?_
            refine Tr.lald (pc := 128) d_X12_works_128 (ty_172 hS.1.1) (by omega) (by omega) ?_
            refine Tr.gen (P := fun v => (-9223372036854775808) ≤ v ∧ v ≤ 9223372036854775807) (ar_172 hS.1.2.1 _) (fun r128 er128 br128 => ?_)
            refine Tr.callS (pc := 129) (as := [_, _, _]) d_X12_works_129 s_12_610 ok_X12_joined rfl rfl (Nat.le_of_ble_eq_true rfl) (Nat.le_of_ble_eq_true rfl) ?_
            refine Tr.imp (Tr.deep (by decide) (sp_X12_joined hS.1 r42 (by omega) r122 (by omega) r128 (by omega))) ?_
            rintro M129 _ ⟨h129, r129, rfl, lr129, ur129⟩
            have hS := St.tr hS h129 (by decide) (by decide)
            refine Tr.sc [(1, r129), (0, (p18_2 - 2)), (2, 172)] rfl ?_
            refine Tr.lastS (pc := 132) (P := St Tru ws_X12_works_120_w1 as_X12_works_120_w1 M0) d_X12_works_132 (ty_172 hS.1.1) (by omega) (by omega) (sa_172 hS (by decide) (by omega) trivial) (fun M132 hS w132 => ?_)
            refine Tr.pick [2, 3, 0, 4] (ls2 := [(0, (2, 120)), (1, (0, a1)), (2, (0, (p18_2 - 1))), (3, (0, p18_3))]) rfl ?_
            exact J133 _ _ hS (by omega) ((Wr.b w132 rfl).trans ((St.kp h129 (by decide) (by decide) (by decide)).trans k18_136_1)) ((Wr.b w132 rfl).trans ((St.ka h129 (by decide) (by decide) (by decide)).trans k18_140_a110)) ((Wr.b w132 rfl).trans ((St.ka h129 (by decide) (by decide) (by decide)).trans er32)) ((Wr.b w132 rfl).trans ((St.ka h129 (by decide) (by decide) (by decide)).trans er42)) ((wk_b2 hw1 (by omega) (by omega)).2.2 (by omega) (by omega))
          · refine Tr.aload_n (pc := 82) (i := 0) d_X12_works_82 rfl rfl ?_
            refine Tr.getf (pc := 83) d_X12_works_83 f_12_264 (by decide) (by decide) (ty_120 hS.1.1) ?_
            refine Tr.tp 172 (fx_120_83 hS.1.1) ?_
            refine Tr.iload_n (pc := 86) (i := 2) d_X12_works_86 rfl rfl ?_
            refine Tr.iconst (pc := 87) d_X12_works_87 (by decide) ?_
            refine Tr.isub (pc := 88) d_X12_works_88 ?_
            refine Tr.tp (p18_2 - 1) ((w32_id (by omega)).trans (by omega)) ?_
            refine Tr.lconst (pc := 89) (v := 1) d_X12_works_89 rfl (by decide) ?_
            refine Tr.aload_n (pc := 90) (i := 0) d_X12_works_90 rfl rfl ?_
            refine Tr.getf (pc := 91) d_X12_works_91 f_12_264 (by decide) (by decide) (ty_120 hS.1.1) ?_
            refine Tr.tp 172 (fx_120_83 hS.1.1) ?_
            refine Tr.iload_n (pc := 94) (i := 2) d_X12_works_94 rfl rfl ?_
            refine Tr.iconst (pc := 95) d_X12_works_95 (by decide) ?_
            refine Tr.isub (pc := 96) d_X12_works_96 ?_
            refine Tr.tp (p18_2 - 1) ((w32_id (by omega)).trans (by omega)) ?_
            refine Tr.lald (pc := 97) d_X12_works_97 (ty_172 hS.1.1) (by omega) (by omega) ?_
            refine Tr.gen (P := fun v => (-9223372036854775808) ≤ v ∧ v ≤ 9223372036854775807) (ar_172 hS.1.2.1 _) (fun r97 er97 br97 => ?_)
            refine Tr.lsub (pc := 98) d_X12_works_98 ?_
            refine Tr.gen (P := fun v => (-9223372036854775808) ≤ v ∧ v ≤ 9223372036854775807) (w64_b _) (fun r98 er98 br98 => ?_)
            refine Tr.lastS (pc := 99) (P := St Tru ws_X12_works_120_w1 as_X12_works_120_w1 M0) d_X12_works_99 (ty_172 hS.1.1) (by omega) (by omega) (sa_172 hS (by decide) (by omega) trivial) (fun M99 hS w99 => ?_)
            refine Tr.goto (pc := 100) (tgt := 133) d_X12_works_100 rfl ?_
            refine Tr.pick [1, 2, 3, 4] (ls2 := [(0, (2, 120)), (1, (0, a1)), (2, (0, p18_2)), (3, (0, p18_3))]) rfl ?_
            exact J133 _ _ hS (by omega) ((Wr.b w99 rfl).trans k18_136_1) ((Wr.b w99 rfl).trans k18_140_a110) ((Wr.b w99 rfl).trans er32) ((Wr.b w99 rfl).trans er42) ((wk_b2 hw1 (by omega) (by omega)).2.1 (by omega))
        · refine Tr.aload_n (pc := 51) (i := 0) d_X12_works_51 rfl rfl ?_
          refine Tr.getf (pc := 52) d_X12_works_52 f_12_264 (by decide) (by decide) (ty_120 hS.1.1) ?_
          refine Tr.tp 172 (fx_120_83 hS.1.1) ?_
          refine Tr.iload_n (pc := 55) (i := 2) d_X12_works_55 rfl rfl ?_
          refine Tr.aload_n (pc := 56) (i := 0) d_X12_works_56 rfl rfl ?_
          refine Tr.iload (pc := 57) (i := 4) d_X12_works_57 rfl ?_
          refine Tr.aload_n (pc := 59) (i := 0) d_X12_works_59 rfl rfl ?_
          refine Tr.getf (pc := 60) d_X12_works_60 f_12_118 (by decide) (by decide) (ty_120 hS.1.1) ?_
          refine Tr.tp 144 (fx_120_35 hS.1.1) ?_
          refine Tr.iload_n (pc := 63) (i := 3) d_X12_works_63 rfl rfl ?_
          refine Tr.iald (pc := 64) d_X12_works_64 (ty_144 hS.1.1) (by omega) (by omega) ?_
          refine Tr.gen (P := fun v => ((-2147483648) ≤ v ∧ v ≤ 2147483647) ∧ ((r42 = 1 → 0 ≤ v ∧ v ≤ 2) ∧ (r42 = 2 ∨ r42 = 4 → 0 ≤ v ∧ v ≤ 5))) (by have h8 := gc_at hS.1.2.2 143 144 (by decide) er42; have h9 := (ar_144 hS.1.2.1 (p18_3)); exact ⟨h9, h8⟩) (fun r64 er64 br64 => ?_)
          refine Tr.callV (pc := 65) (as := [_, _]) d_X12_works_65 s_12_606 ok_X12_leaf rfl rfl (Nat.le_of_ble_eq_true rfl) (Nat.le_of_ble_eq_true rfl) (by decide) (ty_120 hS.1.1) ?_
          refine Tr.imp (Tr.deep (by decide) (sp_X12_leaf_120 hS.1 r42 (by omega) r64 (by omega) (by omega))) ?_
          rintro M65 _ ⟨h65, r65, rfl, lr65, ur65⟩
          have hS := St.tr hS h65 (by decide) (by decide)
          refine Tr.sc [(1, r65), (0, p18_2), (2, 172)] rfl ?_
          refine Tr.lastS (pc := 68) (P := St Tru ws_X12_works_120_w1 as_X12_works_120_w1 M0) d_X12_works_68 (ty_172 hS.1.1) (by omega) (by omega) (sa_172 hS (by decide) (by omega) trivial) (fun M68 hS w68 => ?_)
          refine Tr.iincV (pc := 69) (n2 := (p18_2 + 1)) (ls2 := [(2, (0, (p18_2 + 1))), (4, (0, r42)), (0, (2, 120)), (1, (0, a1)), (3, (0, p18_3))]) d_X12_works_69 rfl (by decide) ((w32_id (by omega)).trans (by omega)) rfl ?_
          refine Tr.goto (pc := 72) (tgt := 133) d_X12_works_72 rfl ?_
          refine Tr.pick [2, 3, 0, 4] (ls2 := [(0, (2, 120)), (1, (0, a1)), (2, (0, (p18_2 + 1))), (3, (0, p18_3))]) rfl ?_
          exact J133 _ _ hS (by omega) ((Wr.b w68 rfl).trans ((St.kp h65 (by decide) (by decide) (by decide)).trans k18_136_1)) ((Wr.b w68 rfl).trans ((St.ka h65 (by decide) (by decide) (by decide)).trans k18_140_a110)) ((Wr.b w68 rfl).trans ((St.ka h65 (by decide) (by decide) (by decide)).trans er32)) ((Wr.b w68 rfl).trans ((St.ka h65 (by decide) (by decide) (by decide)).trans er42)) ((wk_b2 hw1 (by omega) (by omega)).1 (by omega))
  refine Tr.pick [2, 3, 1, 0] (ls2 := [(0, (2, 120)), (1, (0, a1)), (2, (0, 0)), (3, (0, (r15 + 900)))]) rfl ?_
  have hd0 : dp M0 (900 + rd M0 140 a1) ((r15 + 900) - (900 + rd M0 140 a1)).toNat = 0 := by rw [show ((r15 + 900) - (900 + rd M0 140 a1)).toNat = 0 by omega]; rfl
  exact J18 _ _ _ _ hS (by omega) (by omega) eg136_1 er15 (by omega) (by omega) (Nat.lt_succ_self _)

def ws_X12_ticksOf_120_w1 : List (Int × Int) := [(120, 59), (120, 61), (120, 62), (120, 63), (120, 68), (120, 75)]
def as_X12_ticksOf_120_w1 : List Int := [158, 159, 161, 162, 163, 164, 165, 166, 167, 168]
def q_X12_ticksOf_120_w1 (a1 : Int) (a2 : Int) (a3 : Int) (a4 : Int) (a5 : Int) (a6 : Int) (M0 M' : Mem) (r : Option PV) : Prop := St Tb1 ws_X12_ticksOf_120_w1 as_X12_ticksOf_120_w1 M0 M' ∧ ∃ v : Int, r = some (0, v) ∧ 0 ≤ v ∧ v ≤ 1 ∧ (rd M0 120 62 ≤ rd M' 120 62 ∧ rd M' 120 62 ≤ 2000) ∧ (v = 1 ∨ 1 ≤ rd M' 120 68) ∧ (rd M' 120 75 = rd M0 120 75 ∨ (rd M' 120 75 = rd M0 120 75 + 1 ∧ a5 = 1 ∧ 1 ≤ a3)) ∧ (rd M' 120 59 = -1)
set_option maxRecDepth 100000 in
set_option maxHeartbeats 4000000 in
theorem sp_X12_ticksOf_120_w1 {l : Launch} {K : EC} {M0 : Mem} (hI : In Tb1 M0) (en_120_12 : rd M0 120 12 = 1) (a1 : Int) (ha1 : (-1) ≤ a1 ∧ a1 ≤ 5) (a2 : Int) (ha2 : 0 ≤ a2 ∧ a2 ≤ 3) (a3 : Int) (ha3 : (-2147483648) ≤ a3 ∧ a3 ≤ 2147483647) (a4 : Int) (ha4 : 0 ≤ a4 ∧ a4 ≤ 59) (a5 : Int) (ha5 : 0 ≤ a5 ∧ a5 ≤ 1) (a6 : Int) (ha6 : (-2147483648) ≤ a6 ∧ a6 ≤ 2147483647)  (hq0 : rd M0 120 62 ≤ 2000) (hq1 : rd M0 120 75 ≤ 2000) (hq2 : a2 ≠ 2) (hq3 : a5 = 0 ∨ 0 ≤ a1) (hF_Bk1 : Bk1 M0) : Tr l K 4 mX12_ticksOf 0 [(0, (2, 120)), (1, (0, a1)), (2, (0, a2)), (3, (0, a3)), (4, (0, a4)), (5, (0, a5)), (6, (0, a6))] [] M0 (q_X12_ticksOf_120_w1 a1 a2 a3 a4 a5 a6 M0) := by
  have hS : St Tb1 ws_X12_ticksOf_120_w1 as_X12_ticksOf_120_w1 M0 M0 := St.rf hI
  obtain ⟨g120_62, eg120_62⟩ : ∃ v, rd M0 120 62 = v := ⟨_, rfl⟩
  have bg120_62 : 0 ≤ g120_62 ∧ g120_62 ≤ 2060 := by rw [← eg120_62]; exact ir_120_62 hI.2.1
  obtain ⟨g120_68, eg120_68⟩ : ∃ v, rd M0 120 68 = v := ⟨_, rfl⟩
  have bg120_68 : 0 ≤ g120_68 ∧ g120_68 ≤ 2 := by rw [← eg120_68]; exact ir_120_68 hI.2.1
  obtain ⟨g120_75, eg120_75⟩ : ∃ v, rd M0 120 75 = v := ⟨_, rfl⟩
  have bg120_75 : 0 ≤ g120_75 ∧ g120_75 ≤ 2100 := by rw [← eg120_75]; exact ir_120_75 hI.2.1
  obtain ⟨g120_61, eg120_61⟩ : ∃ v, rd M0 120 61 = v := ⟨_, rfl⟩
  have bg120_61 : 0 ≤ g120_61 ∧ g120_61 ≤ 3 := by rw [← eg120_61]; exact ir_120_61 hI.2.1
  refine Tr.aload_n (pc := 0) (i := 0) d_X12_ticksOf_0 rfl rfl ?_
  refine Tr.iload_n (pc := 1) (i := 1) d_X12_ticksOf_1 rfl rfl ?_
  refine Tr.putfS (pc := 2) (P := St Tb1 ws_X12_ticksOf_120_w1 as_X12_ticksOf_120_w1 M0) d_X12_ticksOf_2 f_12_192 (by decide) (by decide) (ty_120 hS.1.1) (st_120_59 hS (by decide) (by omega) (Tb1.of hS.1.2.2.2.2 (fun _ => rd_wb _ rfl) (rd_wb _ rfl))) (fun M2 hS w2 => ?_)
  refine Tr.aload_n (pc := 5) (i := 0) d_X12_ticksOf_5 rfl rfl ?_
  refine Tr.iload_n (pc := 6) (i := 2) d_X12_ticksOf_6 rfl rfl ?_
  refine Tr.putfS (pc := 7) (P := St Tb1 ws_X12_ticksOf_120_w1 as_X12_ticksOf_120_w1 M0) d_X12_ticksOf_7 f_12_198 (by decide) (by decide) (ty_120 hS.1.1) (st_120_61 hS (by decide) (by omega) (Tb1.of hS.1.2.2.2.2 (fun _ => rd_wb _ rfl) (rd_wb _ rfl))) (fun M7 hS w7 => ?_)
  refine Tr.iconst (pc := 10) d_X12_ticksOf_10 (by decide) ?_
  refine Tr.istore (pc := 11) (i := 7) (ls2 := [(7, (0, 1)), (0, (2, 120)), (1, (0, a1)), (2, (0, a2)), (3, (0, a3)), (4, (0, a4)), (5, (0, a5)), (6, (0, a6))]) d_X12_ticksOf_11 (by decide) rfl ?_
  refine Tr.iconst (pc := 13) d_X12_ticksOf_13 (by decide) ?_
  refine Tr.istore (pc := 14) (i := 8) (ls2 := [(8, (0, 0)), (7, (0, 1)), (0, (2, 120)), (1, (0, a1)), (2, (0, a2)), (3, (0, a3)), (4, (0, a4)), (5, (0, a5)), (6, (0, a6))]) d_X12_ticksOf_14 (by decide) rfl ?_
  have J16 : ∀ (n16 : Nat) (M : Mem) (p16_7 p16_8 u16_120_62 u16_120_68 u16_120_75 : Int), St Tb1 ws_X12_ticksOf_120_w1 as_X12_ticksOf_120_w1 M0 M → (0 ≤ p16_7 ∧ p16_7 ≤ 1) → (0 ≤ p16_8 ∧ p16_8 ≤ 2147483647) → (0 ≤ u16_120_62 ∧ u16_120_62 ≤ 2060) → (0 ≤ u16_120_68 ∧ u16_120_68 ≤ 2) → (0 ≤ u16_120_75 ∧ u16_120_75 ≤ 2100) → rd M 120 59 = a1 → rd M 120 61 = a2 → rd M 120 62 = u16_120_62 → rd M 120 68 = u16_120_68 → rd M 120 75 = u16_120_75 → (a2 ≠ 2) → (g120_62 ≤ u16_120_62 ∧ u16_120_62 ≤ 2000) → (p16_7 = 1 ∨ 1 ≤ u16_120_68) → (u16_120_75 = g120_75 ∨ (u16_120_75 = g120_75 + 1 ∧ a5 = 1 ∧ 1 ≤ a3)) → ((0 ≤ p16_8 ∧ u16_120_75 = g120_75) ∨ 1 ≤ p16_8) → (2147483647 - p16_8).toNat < n16 → Tr l K 4 mX12_ticksOf 16 [(0, (2, 120)), (1, (0, a1)), (3, (0, a3)), (4, (0, a4)), (5, (0, a5)), (6, (0, a6)), (7, (0, p16_7)), (8, (0, p16_8))] [] M (q_X12_ticksOf_120_w1 a1 a2 a3 a4 a5 a6 M0) := by
    intro n16
    induction n16 with
    | zero => intro M p16_7 p16_8 u16_120_62 u16_120_68 u16_120_75 hS bp16_7 bp16_8 bu16_120_62 bu16_120_68 bu16_120_75 k16_120_59 k16_120_61 k16_120_62 k16_120_68 k16_120_75 t16_0 t16_1 t16_2 t16_3 t16_4 hm16; exact absurd hm16 (Nat.not_lt_zero _)
    | succ n16 J16 =>
      intro M p16_7 p16_8 u16_120_62 u16_120_68 u16_120_75 hS bp16_7 bp16_8 bu16_120_62 bu16_120_68 bu16_120_75 k16_120_59 k16_120_61 k16_120_62 k16_120_68 k16_120_75 t16_0 t16_1 t16_2 t16_3 t16_4 hm16
      refine Tr.iload (pc := 16) (i := 8) d_X12_ticksOf_16 rfl ?_
      refine Tr.iload_n (pc := 18) (i := 3) d_X12_ticksOf_18 rfl rfl ?_
      refine Tr.icmp_ge (pc := 19) (tgt := 65) d_X12_ticksOf_19 rfl (fun c19 => ?_) (fun c19 => ?_)
      · refine Tr.aload_n (pc := 65) (i := 0) d_X12_ticksOf_65 rfl rfl ?_
        refine Tr.iconst (pc := 66) d_X12_ticksOf_66 (by decide) ?_
        refine Tr.putfS (pc := 67) (P := St Tb1 ws_X12_ticksOf_120_w1 as_X12_ticksOf_120_w1 M0) d_X12_ticksOf_67 f_12_192 (by decide) (by decide) (ty_120 hS.1.1) (st_120_59 hS (by decide) (by omega) (Tb1.of hS.1.2.2.2.2 (fun _ => rd_wb _ rfl) (rd_wb _ rfl))) (fun M67 hS w67 => ?_)
        refine Tr.iload (pc := 70) (i := 7) d_X12_ticksOf_70 rfl ?_
        have kr_120_59 : rd M67 120 59 = (-1) := w67.1
        have kr_120_62 : rd M67 120 62 = u16_120_62 := ((Wr.b w67 rfl).trans k16_120_62)
        have kr_120_68 : rd M67 120 68 = u16_120_68 := ((Wr.b w67 rfl).trans k16_120_68)
        have kr_120_75 : rd M67 120 75 = u16_120_75 := ((Wr.b w67 rfl).trans k16_120_75)
        exact Tr.zret (pc := 72) d_X12_ticksOf_72 rfl (by omega) ⟨hS, _, rfl, by omega, by omega, by omega, by omega, by omega, by omega⟩
      · refine Tr.iload (pc := 22) (i := 7) d_X12_ticksOf_22 rfl ?_
        refine Tr.if_eq (pc := 24) (tgt := 65) d_X12_ticksOf_24 rfl (fun c24 => ?_) (fun c24 => ?_)
        · refine Tr.aload_n (pc := 65) (i := 0) d_X12_ticksOf_65 rfl rfl ?_
          refine Tr.iconst (pc := 66) d_X12_ticksOf_66 (by decide) ?_
          refine Tr.putfS (pc := 67) (P := St Tb1 ws_X12_ticksOf_120_w1 as_X12_ticksOf_120_w1 M0) d_X12_ticksOf_67 f_12_192 (by decide) (by decide) (ty_120 hS.1.1) (st_120_59 hS (by decide) (by omega) (Tb1.of hS.1.2.2.2.2 (fun _ => rd_wb _ rfl) (rd_wb _ rfl))) (fun M67 hS w67 => ?_)
          refine Tr.iload (pc := 70) (i := 7) d_X12_ticksOf_70 rfl ?_
          have kr_120_59 : rd M67 120 59 = (-1) := w67.1
          have kr_120_62 : rd M67 120 62 = u16_120_62 := ((Wr.b w67 rfl).trans k16_120_62)
          have kr_120_68 : rd M67 120 68 = u16_120_68 := ((Wr.b w67 rfl).trans k16_120_68)
          have kr_120_75 : rd M67 120 75 = u16_120_75 := ((Wr.b w67 rfl).trans k16_120_75)
          exact Tr.zret (pc := 72) d_X12_ticksOf_72 rfl (by omega) ⟨hS, _, rfl, by omega, by omega, by omega, by omega, by omega, by omega⟩
        · refine Tr.aload_n (pc := 27) (i := 0) d_X12_ticksOf_27 rfl rfl ?_
          refine Tr.iload (pc := 28) (i := 4) d_X12_ticksOf_28 rfl ?_
          refine Tr.callV (pc := 30) (as := [_]) d_X12_ticksOf_30 s_12_577 ok_X12_tick rfl rfl (Nat.le_of_ble_eq_true rfl) (Nat.le_of_ble_eq_true rfl) (by decide) (ty_120 hS.1.1) ?_
          have kb30_120_59 : rd M 120 59 = a1 := k16_120_59
          have kb30_120_61 : rd M 120 61 = a2 := k16_120_61
          have kb30_120_62 : rd M 120 62 = u16_120_62 := k16_120_62
          have kb30_120_68 : rd M 120 68 = u16_120_68 := k16_120_68
          refine Tr.imp (Tr.deep (by decide) (sp_X12_tick_120_w2 hS.1 ((St.kp hS (by decide) (by decide) (by decide)).trans en_120_12) a4 (by omega) (by omega) (by omega) (Bk1.of hF_Bk1 (fun j => (St.ka hS (by decide) (by decide) (by decide))) (fun j => (St.ka hS (by decide) (by decide) (by decide))) (fun j => (St.ka hS (by decide) (by decide) (by decide))) (fun j => (St.ka hS (by decide) (by decide) (by decide))) (fun j => (St.ka hS (by decide) (by decide) (by decide))) (fun j => (St.ka hS (by decide) (by decide) (by decide))) (fun j => (St.ka hS (by decide) (by decide) (by decide))) (fun j => (St.ka hS (by decide) (by decide) (by decide))) (St.kp hS (by decide) (by decide) (by decide)) (St.kp hS (by decide) (by decide) (by decide)) (St.kp hS (by decide) (by decide) (by decide)) (St.kp hS (by decide) (by decide) (by decide))))) ?_
          rintro M30 _ ⟨h30, r30, rfl, lr30, ur30, z30_0, z30_1, z30_2⟩
          have hS := St.tr hS h30 (by decide) (by decide)
          have ka30_120_59 : rd M30 120 59 = a1 := ((St.kp h30 (by decide) (by decide) (by decide)).trans k16_120_59)
          obtain ⟨s30_120_62, es30_120_62⟩ : ∃ v, rd M30 120 62 = v := ⟨_, rfl⟩
          have bs30_120_62 : 0 ≤ s30_120_62 ∧ s30_120_62 ≤ 2060 := by rw [← es30_120_62]; exact ir_120_62 hS.1.2.1
          obtain ⟨s30_120_68, es30_120_68⟩ : ∃ v, rd M30 120 68 = v := ⟨_, rfl⟩
          have bs30_120_68 : 0 ≤ s30_120_68 ∧ s30_120_68 ≤ 2 := by rw [← es30_120_68]; exact ir_120_68 hS.1.2.1
          refine Tr.sc [(0, r30)] rfl ?_
          refine Tr.istore (pc := 33) (i := 7) (ls2 := [(7, (0, r30)), (0, (2, 120)), (1, (0, a1)), (3, (0, a3)), (4, (0, a4)), (5, (0, a5)), (6, (0, a6)), (8, (0, p16_8))]) d_X12_ticksOf_33 (by decide) rfl ?_
          refine Tr.iload (pc := 35) (i := 7) d_X12_ticksOf_35 rfl ?_
          have J59 : ∀ (M : Mem) (u59_120_75 : Int), St Tb1 ws_X12_ticksOf_120_w1 as_X12_ticksOf_120_w1 M0 M → (0 ≤ u59_120_75 ∧ u59_120_75 ≤ 2100) → rd M 120 59 = a1 → rd M 120 61 = a2 → rd M 120 62 = s30_120_62 → rd M 120 68 = s30_120_68 → rd M 120 75 = u59_120_75 → (a2 ≠ 2) → (g120_62 ≤ s30_120_62 ∧ s30_120_62 ≤ 2000) → (r30 = 1 ∨ 1 ≤ s30_120_68) → (u59_120_75 = g120_75 ∨ (u59_120_75 = g120_75 + 1 ∧ a5 = 1 ∧ 1 ≤ a3)) → (0 ≤ p16_8) → Tr l K 4 mX12_ticksOf 59 [(0, (2, 120)), (1, (0, a1)), (3, (0, a3)), (4, (0, a4)), (5, (0, a5)), (6, (0, a6)), (7, (0, r30)), (8, (0, p16_8))] [] M (q_X12_ticksOf_120_w1 a1 a2 a3 a4 a5 a6 M0) := by
            intro M u59_120_75 hS bu59_120_75 k59_120_59 k59_120_61 k59_120_62 k59_120_68 k59_120_75 t59_0 t59_1 t59_2 t59_3 t59_4
            refine Tr.iincV (pc := 59) (n2 := (p16_8 + 1)) (ls2 := [(8, (0, (p16_8 + 1))), (0, (2, 120)), (1, (0, a1)), (3, (0, a3)), (4, (0, a4)), (5, (0, a5)), (6, (0, a6)), (7, (0, r30))]) d_X12_ticksOf_59 rfl (by decide) ((w32_id (by omega)).trans (by omega)) rfl ?_
            refine Tr.goto (pc := 62) (tgt := 16) d_X12_ticksOf_62 rfl ?_
            refine Tr.pick [1, 2, 3, 4, 5, 6, 7, 0] (ls2 := [(0, (2, 120)), (1, (0, a1)), (3, (0, a3)), (4, (0, a4)), (5, (0, a5)), (6, (0, a6)), (7, (0, r30)), (8, (0, (p16_8 + 1)))]) rfl ?_
            exact J16 _ _ _ _ _ _ hS (by omega) (by omega) (by omega) (by omega) (by omega) k59_120_59 k59_120_61 k59_120_62 k59_120_68 k59_120_75 (by omega) (by omega) (by first | assumption | omega) (by first | assumption | omega) (by first | assumption | omega) (by omega)
          refine Tr.if_eq (pc := 37) (tgt := 59) d_X12_ticksOf_37 rfl (fun c37 => ?_) (fun c37 => ?_)
          · refine Tr.pick [1, 2, 3, 4, 5, 6, 0, 7] (ls2 := [(0, (2, 120)), (1, (0, a1)), (3, (0, a3)), (4, (0, a4)), (5, (0, a5)), (6, (0, a6)), (7, (0, r30)), (8, (0, p16_8))]) rfl ?_
            exact J59 _ _ hS (by omega) ((St.kp h30 (by decide) (by decide) (by decide)).trans k16_120_59) ((St.kp h30 (by decide) (by decide) (by decide)).trans k16_120_61) es30_120_62 es30_120_68 ((St.kp h30 (by decide) (by decide) (by decide)).trans k16_120_75) (by omega) (by omega) (by first | assumption | omega) (by first | assumption | omega) (by omega)
          · refine Tr.iload (pc := 40) (i := 5) d_X12_ticksOf_40 rfl ?_
            refine Tr.if_eq (pc := 42) (tgt := 59) d_X12_ticksOf_42 rfl (fun c42 => ?_) (fun c42 => ?_)
            · refine Tr.pick [1, 2, 3, 4, 5, 6, 0, 7] (ls2 := [(0, (2, 120)), (1, (0, a1)), (3, (0, a3)), (4, (0, a4)), (5, (0, a5)), (6, (0, a6)), (7, (0, r30)), (8, (0, p16_8))]) rfl ?_
              exact J59 _ _ hS (by omega) ((St.kp h30 (by decide) (by decide) (by decide)).trans k16_120_59) ((St.kp h30 (by decide) (by decide) (by decide)).trans k16_120_61) es30_120_62 es30_120_68 ((St.kp h30 (by decide) (by decide) (by decide)).trans k16_120_75) (by omega) (by omega) (by first | assumption | omega) (by first | assumption | omega) (by omega)
            · refine Tr.iload (pc := 45) (i := 8) d_X12_ticksOf_45 rfl ?_
              refine Tr.if_ne (pc := 47) (tgt := 59) d_X12_ticksOf_47 rfl (fun c47 => ?_) (fun c47 => ?_)
              · refine Tr.pick [1, 2, 3, 4, 5, 6, 0, 7] (ls2 := [(0, (2, 120)), (1, (0, a1)), (3, (0, a3)), (4, (0, a4)), (5, (0, a5)), (6, (0, a6)), (7, (0, r30)), (8, (0, p16_8))]) rfl ?_
                exact J59 _ _ hS (by omega) ((St.kp h30 (by decide) (by decide) (by decide)).trans k16_120_59) ((St.kp h30 (by decide) (by decide) (by decide)).trans k16_120_61) es30_120_62 es30_120_68 ((St.kp h30 (by decide) (by decide) (by decide)).trans k16_120_75) (by omega) (by omega) (by first | assumption | omega) (by first | assumption | omega) (by omega)
              · refine Tr.aload_n (pc := 50) (i := 0) d_X12_ticksOf_50 rfl rfl ?_
                refine Tr.iload_n (pc := 51) (i := 1) d_X12_ticksOf_51 rfl rfl ?_
                refine Tr.iload (pc := 52) (i := 4) d_X12_ticksOf_52 rfl ?_
                refine Tr.iload (pc := 54) (i := 6) d_X12_ticksOf_54 rfl ?_
                refine Tr.callV (pc := 56) (as := [_, _, _]) d_X12_ticksOf_56 s_12_580 ok_X12_acts rfl rfl (Nat.le_of_ble_eq_true rfl) (Nat.le_of_ble_eq_true rfl) (by decide) (ty_120 hS.1.1) ?_
                have kb56_120_75 : rd M30 120 75 = u16_120_75 := ((St.kp h30 (by decide) (by decide) (by decide)).trans k16_120_75)
                refine Tr.imp (Tr.deep (by decide) (sp_X12_acts_120 hS.1.wk a1 (by omega) a4 (by omega) a6 (by omega) (by omega))) ?_
                rintro M56 _ ⟨h56, rfl, z56_0⟩
                have h56 := St.rn h56 (Tb1.of hS.1.2.2.2.2 (fun _ => (St.ka h56 (by decide) (by decide) (by decide))) (St.kp h56 (by decide) (by decide) (by decide)))
                have hS := St.tr hS h56 (by decide) (by decide)
                obtain ⟨s56_120_75, es56_120_75⟩ : ∃ v, rd M56 120 75 = v := ⟨_, rfl⟩
                have bs56_120_75 : 0 ≤ s56_120_75 ∧ s56_120_75 ≤ 2100 := by rw [← es56_120_75]; exact ir_120_75 hS.1.2.1
                refine Tr.sc [] rfl ?_
                refine Tr.pick [1, 2, 3, 4, 5, 6, 0, 7] (ls2 := [(0, (2, 120)), (1, (0, a1)), (3, (0, a3)), (4, (0, a4)), (5, (0, a5)), (6, (0, a6)), (7, (0, r30)), (8, (0, p16_8))]) rfl ?_
                exact J59 _ _ hS (by omega) ((St.kp h56 (by decide) (by decide) (by decide)).trans ((St.kp h30 (by decide) (by decide) (by decide)).trans k16_120_59)) ((St.kp h56 (by decide) (by decide) (by decide)).trans ((St.kp h30 (by decide) (by decide) (by decide)).trans k16_120_61)) ((St.kp h56 (by decide) (by decide) (by decide)).trans es30_120_62) ((St.kp h56 (by decide) (by decide) (by decide)).trans es30_120_68) es56_120_75 (by omega) (by omega) (by first | assumption | omega) (by first | assumption | omega) (by omega)
  refine Tr.pick [2, 3, 5, 6, 7, 8, 1, 0] (ls2 := [(0, (2, 120)), (1, (0, a1)), (3, (0, a3)), (4, (0, a4)), (5, (0, a5)), (6, (0, a6)), (7, (0, 1)), (8, (0, 0))]) rfl ?_
  exact J16 _ _ _ _ _ _ _ hS (by omega) (by omega) (by omega) (by omega) (by omega) ((Wr.b w7 rfl).trans w2.1) w7.1 ((Wr.b w7 rfl).trans ((Wr.b w2 rfl).trans eg120_62)) ((Wr.b w7 rfl).trans ((Wr.b w2 rfl).trans eg120_68)) ((Wr.b w7 rfl).trans ((Wr.b w2 rfl).trans eg120_75)) (by omega) (by omega) (by first | assumption | omega) (by first | assumption | omega) (by first | assumption | omega) (Nat.lt_succ_self _)

def ws_X12_touches_120_w1 : List (Int × Int) := [(120, 59), (120, 61), (120, 62), (120, 63), (120, 65), (120, 66), (120, 68), (120, 75)]
def as_X12_touches_120_w1 : List Int := [158, 159, 160, 161, 162, 163, 164, 165, 166, 167, 168]
def q_X12_touches_120_w1 (a1 : Int) (a2 : Int) (M0 M' : Mem) (r : Option PV) : Prop := St Tb1 ws_X12_touches_120_w1 as_X12_touches_120_w1 M0 M' ∧ ∃ v : Int, r = some (0, v) ∧ 0 ≤ v ∧ v ≤ 1 ∧ (rd M' 120 75 ≤ rd M' 120 62) ∧ (rd M0 120 62 ≤ rd M' 120 62 ∧ rd M' 120 62 ≤ 2000) ∧ (v = 1 ∨ 1 ≤ rd M' 120 68) ∧ (rd M' 120 59 = -1)
set_option maxRecDepth 100000 in
set_option maxHeartbeats 4000000 in
theorem sp_X12_touches_120_w1 {l : Launch} {K : EC} {M0 : Mem} (hI : In Tb1 M0) (en_120_12 : rd M0 120 12 = 1) (a1 : Int) (ha1 : 0 ≤ a1 ∧ a1 ≤ 999) (a2 : Int) (ha2 : 0 ≤ a2 ∧ a2 ≤ 59)  (hq0 : rd M0 120 75 + 1 ≤ rd M0 120 62) (hq1 : rd M0 120 62 ≤ 2000) (hq2 : rd M0 120 59 = -1) (hF_Bk1 : Bk1 M0) : Tr l K 5 mX12_touches 0 [(0, (2, 120)), (1, (0, a1)), (2, (0, a2))] [] M0 (q_X12_touches_120_w1 a1 a2 M0) := by
  have hS : St Tb1 ws_X12_touches_120_w1 as_X12_touches_120_w1 M0 M0 := St.rf hI
  obtain ⟨g120_62, eg120_62⟩ : ∃ v, rd M0 120 62 = v := ⟨_, rfl⟩
  have bg120_62 : 0 ≤ g120_62 ∧ g120_62 ≤ 2060 := by rw [← eg120_62]; exact ir_120_62 hI.2.1
  obtain ⟨g120_68, eg120_68⟩ : ∃ v, rd M0 120 68 = v := ⟨_, rfl⟩
  have bg120_68 : 0 ≤ g120_68 ∧ g120_68 ≤ 2 := by rw [← eg120_68]; exact ir_120_68 hI.2.1
  obtain ⟨g120_75, eg120_75⟩ : ∃ v, rd M0 120 75 = v := ⟨_, rfl⟩
  have bg120_75 : 0 ≤ g120_75 ∧ g120_75 ≤ 2100 := by rw [← eg120_75]; exact ir_120_75 hI.2.1
  obtain ⟨g120_59, eg120_59⟩ : ∃ v, rd M0 120 59 = v := ⟨_, rfl⟩
  have bg120_59 : (-1) ≤ g120_59 ∧ g120_59 ≤ 5 := by rw [← eg120_59]; exact ir_120_59 hI.2.1
  obtain ⟨g123_1, eg123_1⟩ : ∃ v, rd M0 123 1 = v := ⟨_, rfl⟩
  have bg123_1 : (-2147483648) ≤ g123_1 ∧ g123_1 ≤ 2147483647 := by rw [← eg123_1]; exact ir_123_1 hI.2.1
  obtain ⟨g124_1, eg124_1⟩ : ∃ v, rd M0 124 1 = v := ⟨_, rfl⟩
  have bg124_1 : (-2147483648) ≤ g124_1 ∧ g124_1 ≤ 2147483647 := by rw [← eg124_1]; exact ir_124_1 hI.2.1
  refine Tr.aload_n (pc := 0) (i := 0) d_X12_touches_0 rfl rfl ?_
  refine Tr.dup (pc := 1) d_X12_touches_1 ne21 ?_
  refine Tr.getf (pc := 2) d_X12_touches_2 f_12_213 (by decide) (by decide) (ty_120 hS.1.1) ?_
  refine Tr.gen (P := fun v => (-2147483648) ≤ v ∧ v ≤ 2147483647) (ir_120_66 hS.1.2.1) (fun r2 er2 br2 => ?_)
  refine Tr.iconst (pc := 5) d_X12_touches_5 (by decide) ?_
  refine Tr.iadd (pc := 6) d_X12_touches_6 ?_
  refine Tr.gen (P := fun v => (-2147483648) ≤ v ∧ v ≤ 2147483647) (w32_b _) (fun r6 er6 br6 => ?_)
  refine Tr.putfS (pc := 7) (P := St Tb1 ws_X12_touches_120_w1 as_X12_touches_120_w1 M0) d_X12_touches_7 f_12_213 (by decide) (by decide) (ty_120 hS.1.1) (st_120_66 hS (by decide) (by omega) (Tb1.of hS.1.2.2.2.2 (fun _ => rd_wb _ rfl) (rd_wb _ rfl))) (fun M7 hS w7 => ?_)
  refine Tr.iload_n (pc := 10) (i := 1) d_X12_touches_10 rfl rfl ?_
  refine Tr.aload_n (pc := 11) (i := 0) d_X12_touches_11 rfl rfl ?_
  refine Tr.getf (pc := 12) d_X12_touches_12 f_12_57 (by decide) (by decide) (ty_120 hS.1.1) ?_
  refine Tr.tp 124 (fx_120_15 hS.1.1) ?_
  refine Tr.aload_n (pc := 15) (i := 0) d_X12_touches_15 rfl rfl ?_
  refine Tr.getf (pc := 16) d_X12_touches_16 f_12_48 (by decide) (by decide) (ty_120 hS.1.1) ?_
  refine Tr.tp 1 ((St.kp hS (by decide) (by decide) (by decide)).trans en_120_12) ?_
  refine Tr.iald (pc := 19) d_X12_touches_19 (ty_124 hS.1.1) (by omega) (by omega) ?_
  refine Tr.tp g124_1 ((Wr.b w7 rfl).trans eg124_1) ?_
  have ksw_123_1 : rd M7 123 1 = g123_1 := ((Wr.b w7 rfl).trans eg123_1)
  have ksw_124_1 : rd M7 124 1 = g124_1 := ((Wr.b w7 rfl).trans eg124_1)
  have hsw := (Bk1.of hF_Bk1 (fun j => (St.ka hS (by decide) (by decide) (by decide))) (fun j => (St.ka hS (by decide) (by decide) (by decide))) (fun j => (St.ka hS (by decide) (by decide) (by decide))) (fun j => (St.ka hS (by decide) (by decide) (by decide))) (fun j => (St.ka hS (by decide) (by decide) (by decide))) (fun j => (St.ka hS (by decide) (by decide) (by decide))) (fun j => (St.ka hS (by decide) (by decide) (by decide))) (fun j => (St.ka hS (by decide) (by decide) (by decide))) (St.kp hS (by decide) (by decide) (by decide)) (St.kp hS (by decide) (by decide) (by decide)) (St.kp hS (by decide) (by decide) (by decide)) (St.kp hS (by decide) (by decide) (by decide))).2.2.2.2.1
  refine Tr.idiv (pc := 20) d_X12_touches_20 (by omega) ?_
  refine Tr.gen (P := fun v => 0 ≤ v ∧ v ≤ 999) (div32_p (A := 999) (by omega) (by omega) (by omega) (by omega)) (fun r20 er20 br20 => ?_)
  refine Tr.istore_n (pc := 21) (i := 3) (ls2 := [(3, (0, r20)), (0, (2, 120)), (1, (0, a1)), (2, (0, a2))]) d_X12_touches_21 rfl (by decide) rfl ?_
  refine Tr.iload_n (pc := 22) (i := 3) d_X12_touches_22 rfl rfl ?_
  refine Tr.aload_n (pc := 23) (i := 0) d_X12_touches_23 rfl rfl ?_
  refine Tr.getf (pc := 24) d_X12_touches_24 f_12_54 (by decide) (by decide) (ty_120 hS.1.1) ?_
  refine Tr.tp 123 (fx_120_14 hS.1.1) ?_
  refine Tr.aload_n (pc := 27) (i := 0) d_X12_touches_27 rfl rfl ?_
  refine Tr.getf (pc := 28) d_X12_touches_28 f_12_48 (by decide) (by decide) (ty_120 hS.1.1) ?_
  refine Tr.tp 1 ((St.kp hS (by decide) (by decide) (by decide)).trans en_120_12) ?_
  refine Tr.iald (pc := 31) d_X12_touches_31 (ty_123 hS.1.1) (by omega) (by omega) ?_
  refine Tr.tp g123_1 ((Wr.b w7 rfl).trans eg123_1) ?_
  refine Tr.irem (pc := 32) d_X12_touches_32 (by omega) ?_
  refine Tr.gen (P := fun v => 0 ≤ v ∧ v ≤ 7) (rem_p (A := 7) (by omega) (by omega) (Or.inr (by omega))) (fun r32 er32 br32 => ?_)
  refine Tr.istore (pc := 33) (i := 4) (ls2 := [(4, (0, r32)), (3, (0, r20)), (0, (2, 120)), (1, (0, a1)), (2, (0, a2))]) d_X12_touches_33 (by decide) rfl ?_
  refine Tr.aload_n (pc := 35) (i := 0) d_X12_touches_35 rfl rfl ?_
  refine Tr.getf (pc := 36) d_X12_touches_36 f_12_189 (by decide) (by decide) (ty_120 hS.1.1) ?_
  refine Tr.tp 160 (fx_120_58 hS.1.1) ?_
  refine Tr.iload (pc := 39) (i := 4) d_X12_touches_39 rfl ?_
  refine Tr.iald (pc := 41) d_X12_touches_41 (ty_160 hS.1.1) (by omega) (by omega) ?_
  refine Tr.gen (P := fun v => (-2147483648) ≤ v ∧ v ≤ 2147483647) (ar_160 hS.1.2.1 _) (fun r41 er41 br41 => ?_)
  refine Tr.iload_n (pc := 42) (i := 3) d_X12_touches_42 rfl rfl ?_
  refine Tr.icmp_ne (pc := 43) (tgt := 48) d_X12_touches_43 rfl (fun c43 => ?_) (fun c43 => ?_)
  · refine Tr.aload_n (pc := 48) (i := 0) d_X12_touches_48 rfl rfl ?_
    refine Tr.dup (pc := 49) d_X12_touches_49 ne21 ?_
    refine Tr.getf (pc := 50) d_X12_touches_50 f_12_210 (by decide) (by decide) (ty_120 hS.1.1) ?_
    refine Tr.gen (P := fun v => (-2147483648) ≤ v ∧ v ≤ 2147483647) (ir_120_65 hS.1.2.1) (fun r50 er50 br50 => ?_)
    refine Tr.iconst (pc := 53) d_X12_touches_53 (by decide) ?_
    refine Tr.iadd (pc := 54) d_X12_touches_54 ?_
    refine Tr.gen (P := fun v => (-2147483648) ≤ v ∧ v ≤ 2147483647) (w32_b _) (fun r54 er54 br54 => ?_)
    refine Tr.putfS (pc := 55) (P := St Tb1 ws_X12_touches_120_w1 as_X12_touches_120_w1 M0) d_X12_touches_55 f_12_210 (by decide) (by decide) (ty_120 hS.1.1) (st_120_65 hS (by decide) (by omega) (Tb1.of hS.1.2.2.2.2 (fun _ => rd_wb _ rfl) (rd_wb _ rfl))) (fun M55 hS w55 => ?_)
    refine Tr.aload_n (pc := 58) (i := 0) d_X12_touches_58 rfl rfl ?_
    refine Tr.getf (pc := 59) d_X12_touches_59 f_12_189 (by decide) (by decide) (ty_120 hS.1.1) ?_
    refine Tr.tp 160 (fx_120_58 hS.1.1) ?_
    refine Tr.iload (pc := 62) (i := 4) d_X12_touches_62 rfl ?_
    refine Tr.iload_n (pc := 64) (i := 3) d_X12_touches_64 rfl rfl ?_
    refine Tr.iastS (pc := 65) (P := St Tb1 ws_X12_touches_120_w1 as_X12_touches_120_w1 M0) d_X12_touches_65 (ty_160 hS.1.1) (by omega) (by omega) (sa_160 hS (by decide) (by omega) (Tb1.of hS.1.2.2.2.2 (fun _ => rd_wb _ rfl) (rd_wb _ rfl))) (fun M65 hS w65 => ?_)
    refine Tr.aload_n (pc := 66) (i := 0) d_X12_touches_66 rfl rfl ?_
    refine Tr.iconst (pc := 67) d_X12_touches_67 (by decide) ?_
    refine Tr.iconst (pc := 68) d_X12_touches_68 (by decide) ?_
    refine Tr.aload_n (pc := 69) (i := 0) d_X12_touches_69 rfl rfl ?_
    refine Tr.getf (pc := 70) d_X12_touches_70 f_12_60 (by decide) (by decide) (ty_120 hS.1.1) ?_
    refine Tr.tp 125 (fx_120_16 hS.1.1) ?_
    refine Tr.aload_n (pc := 73) (i := 0) d_X12_touches_73 rfl rfl ?_
    refine Tr.getf (pc := 74) d_X12_touches_74 f_12_48 (by decide) (by decide) (ty_120 hS.1.1) ?_
    refine Tr.tp 1 ((St.kp hS (by decide) (by decide) (by decide)).trans en_120_12) ?_
    refine Tr.iald (pc := 77) d_X12_touches_77 (ty_125 hS.1.1) (by omega) (by omega) ?_
    refine Tr.gen (P := fun v => (-2147483648) ≤ v ∧ v ≤ 2147483647) (ir_125_1 hS.1.2.1) (fun r77 er77 br77 => ?_)
    refine Tr.iload_n (pc := 78) (i := 2) d_X12_touches_78 rfl rfl ?_
    refine Tr.iconst (pc := 79) d_X12_touches_79 (by decide) ?_
    refine Tr.iconst (pc := 80) d_X12_touches_80 (by decide) ?_
    refine Tr.callV (pc := 81) (as := [_, _, _, _, _, _]) d_X12_touches_81 s_12_587 ok_X12_ticksOf rfl rfl (Nat.le_of_ble_eq_true rfl) (Nat.le_of_ble_eq_true rfl) (by decide) (ty_120 hS.1.1) ?_
    have kb81_120_62 : rd M65 120 62 = g120_62 := ((Wr.b w65 rfl).trans ((Wr.b w55 rfl).trans ((Wr.b w7 rfl).trans eg120_62)))
    have kb81_120_75 : rd M65 120 75 = g120_75 := ((Wr.b w65 rfl).trans ((Wr.b w55 rfl).trans ((Wr.b w7 rfl).trans eg120_75)))
    refine Tr.imp (Tr.deep (by decide) (sp_X12_ticksOf_120_w1 hS.1 ((St.kp hS (by decide) (by decide) (by decide)).trans en_120_12) (-1) (by omega) 0 (by omega) r77 (by omega) a2 (by omega) 0 (by omega) 0 (by omega) (by omega) (by omega) (by omega) (by omega) (Bk1.of hF_Bk1 (fun j => (St.ka hS (by decide) (by decide) (by decide))) (fun j => (St.ka hS (by decide) (by decide) (by decide))) (fun j => (St.ka hS (by decide) (by decide) (by decide))) (fun j => (St.ka hS (by decide) (by decide) (by decide))) (fun j => (St.ka hS (by decide) (by decide) (by decide))) (fun j => (St.ka hS (by decide) (by decide) (by decide))) (fun j => (St.ka hS (by decide) (by decide) (by decide))) (fun j => (St.ka hS (by decide) (by decide) (by decide))) (St.kp hS (by decide) (by decide) (by decide)) (St.kp hS (by decide) (by decide) (by decide)) (St.kp hS (by decide) (by decide) (by decide)) (St.kp hS (by decide) (by decide) (by decide))))) ?_
    rintro M81 _ ⟨h81, r81, rfl, lr81, ur81, z81_0, z81_1, z81_2, z81_3⟩
    have hS := St.tr hS h81 (by decide) (by decide)
    obtain ⟨s81_120_59, es81_120_59⟩ : ∃ v, rd M81 120 59 = v := ⟨_, rfl⟩
    have bs81_120_59 : (-1) ≤ s81_120_59 ∧ s81_120_59 ≤ 5 := by rw [← es81_120_59]; exact ir_120_59 hS.1.2.1
    obtain ⟨s81_120_62, es81_120_62⟩ : ∃ v, rd M81 120 62 = v := ⟨_, rfl⟩
    have bs81_120_62 : 0 ≤ s81_120_62 ∧ s81_120_62 ≤ 2060 := by rw [← es81_120_62]; exact ir_120_62 hS.1.2.1
    obtain ⟨s81_120_68, es81_120_68⟩ : ∃ v, rd M81 120 68 = v := ⟨_, rfl⟩
    have bs81_120_68 : 0 ≤ s81_120_68 ∧ s81_120_68 ≤ 2 := by rw [← es81_120_68]; exact ir_120_68 hS.1.2.1
    obtain ⟨s81_120_75, es81_120_75⟩ : ∃ v, rd M81 120 75 = v := ⟨_, rfl⟩
    have bs81_120_75 : 0 ≤ s81_120_75 ∧ s81_120_75 ≤ 2100 := by rw [← es81_120_75]; exact ir_120_75 hS.1.2.1
    refine Tr.sc [(0, r81)] rfl ?_
    have kr_120_59 : rd M81 120 59 = s81_120_59 := es81_120_59
    have kr_120_62 : rd M81 120 62 = s81_120_62 := es81_120_62
    have kr_120_68 : rd M81 120 68 = s81_120_68 := es81_120_68
    have kr_120_75 : rd M81 120 75 = s81_120_75 := es81_120_75
    exact Tr.zret (pc := 84) d_X12_touches_84 rfl (by omega) ⟨hS, _, rfl, by omega, by omega, by omega, by omega, by omega, by omega⟩
  · refine Tr.iconst (pc := 46) d_X12_touches_46 (by decide) ?_
    have kr_120_59 : rd M7 120 59 = g120_59 := ((Wr.b w7 rfl).trans eg120_59)
    have kr_120_62 : rd M7 120 62 = g120_62 := ((Wr.b w7 rfl).trans eg120_62)
    have kr_120_68 : rd M7 120 68 = g120_68 := ((Wr.b w7 rfl).trans eg120_68)
    have kr_120_75 : rd M7 120 75 = g120_75 := ((Wr.b w7 rfl).trans eg120_75)
    exact Tr.zret (pc := 47) d_X12_touches_47 rfl (by omega) ⟨hS, _, rfl, by omega, by omega, by omega, by omega, by omega, by omega⟩

def ws_X12_frees_120_w1 : List (Int × Int) := [(120, 75)]
def as_X12_frees_120_w1 : List Int := [156, 158, 159, 166, 167, 168]
def q_X12_frees_120_w1 (a1 : Int) (a2 : Int) (M0 M' : Mem) (r : Option PV) : Prop := St Tb1 ws_X12_frees_120_w1 as_X12_frees_120_w1 M0 M' ∧ r = none ∧ (rd M' 120 75 ≤ rd M' 120 62)
set_option maxRecDepth 100000 in
set_option maxHeartbeats 4000000 in
theorem sp_X12_frees_120_w1 {l : Launch} {K : EC} {M0 : Mem} (hI : In Tb1 M0) (en_120_12 : rd M0 120 12 = 1) (a1 : Int) (ha1 : 0 ≤ a1 ∧ a1 ≤ 5) (a2 : Int) (ha2 : 0 ≤ a2 ∧ a2 ≤ 59)  (hq0 : rd M0 120 75 + 1 ≤ rd M0 120 62) (hF_Bk1 : Bk1 M0) : Tr l K 2 mX12_frees 0 [(0, (2, 120)), (1, (0, a1)), (2, (0, a2))] [] M0 (q_X12_frees_120_w1 a1 a2 M0) := by
  have hS : St Tb1 ws_X12_frees_120_w1 as_X12_frees_120_w1 M0 M0 := St.rf hI
  obtain ⟨g120_62, eg120_62⟩ : ∃ v, rd M0 120 62 = v := ⟨_, rfl⟩
  have bg120_62 : 0 ≤ g120_62 ∧ g120_62 ≤ 2060 := by rw [← eg120_62]; exact ir_120_62 hI.2.1
  obtain ⟨g120_75, eg120_75⟩ : ∃ v, rd M0 120 75 = v := ⟨_, rfl⟩
  have bg120_75 : 0 ≤ g120_75 ∧ g120_75 ≤ 2100 := by rw [← eg120_75]; exact ir_120_75 hI.2.1
  obtain ⟨g126_1, eg126_1⟩ : ∃ v, rd M0 126 1 = v := ⟨_, rfl⟩
  have bg126_1 : 0 ≤ g126_1 ∧ g126_1 ≤ 6 := by rw [← eg126_1]; exact ir_126_1 hI.2.1
  refine Tr.aload_n (pc := 0) (i := 0) d_X12_frees_0 rfl rfl ?_
  refine Tr.getf (pc := 1) d_X12_frees_1 f_12_177 (by decide) (by decide) (ty_120 hS.1.1) ?_
  refine Tr.tp 156 (fx_120_54 hS.1.1) ?_
  refine Tr.iload_n (pc := 4) (i := 1) d_X12_frees_4 rfl rfl ?_
  refine Tr.zald (pc := 5) d_X12_frees_5 (ty_156 hS.1.1) (by omega) (by omega) ?_
  refine Tr.gen (P := fun v => 0 ≤ v ∧ v ≤ 1) (ar_156 hS.1.2.1 _) (fun r5 er5 br5 => ?_)
  refine Tr.if_ne (pc := 6) (tgt := 10) d_X12_frees_6 rfl (fun c6 => ?_) (fun c6 => ?_)
  · refine Tr.aload_n (pc := 10) (i := 0) d_X12_frees_10 rfl rfl ?_
    refine Tr.iload_n (pc := 11) (i := 1) d_X12_frees_11 rfl rfl ?_
    refine Tr.iload_n (pc := 12) (i := 2) d_X12_frees_12 rfl rfl ?_
    refine Tr.aload_n (pc := 13) (i := 0) d_X12_frees_13 rfl rfl ?_
    refine Tr.getf (pc := 14) d_X12_frees_14 f_12_201 (by decide) (by decide) (ty_120 hS.1.1) ?_
    refine Tr.tp g120_62 eg120_62 ?_
    refine Tr.iconst (pc := 17) d_X12_frees_17 (by decide) ?_
    refine Tr.isub (pc := 18) d_X12_frees_18 ?_
    refine Tr.tp (g120_62 - 1) ((w32_id (by omega)).trans (by omega)) ?_
    refine Tr.callV (pc := 19) (as := [_, _, _]) d_X12_frees_19 s_12_580 ok_X12_acts rfl rfl (Nat.le_of_ble_eq_true rfl) (Nat.le_of_ble_eq_true rfl) (by decide) (ty_120 hS.1.1) ?_
    have kb19_120_75 : rd M0 120 75 = g120_75 := eg120_75
    refine Tr.imp (Tr.deep (by decide) (sp_X12_acts_120 hS.1.wk a1 (by omega) a2 (by omega) (g120_62 - 1) (by omega) (by omega))) ?_
    rintro M19 _ ⟨h19, rfl, z19_0⟩
    have h19 := St.rn h19 (Tb1.of hS.1.2.2.2.2 (fun _ => (St.ka h19 (by decide) (by decide) (by decide))) (St.kp h19 (by decide) (by decide) (by decide)))
    have hS := St.tr hS h19 (by decide) (by decide)
    obtain ⟨s19_120_75, es19_120_75⟩ : ∃ v, rd M19 120 75 = v := ⟨_, rfl⟩
    have bs19_120_75 : 0 ≤ s19_120_75 ∧ s19_120_75 ≤ 2100 := by rw [← es19_120_75]; exact ir_120_75 hS.1.2.1
    refine Tr.sc [] rfl ?_
    refine Tr.aload_n (pc := 22) (i := 0) d_X12_frees_22 rfl rfl ?_
    refine Tr.getf (pc := 23) d_X12_frees_23 f_12_177 (by decide) (by decide) (ty_120 hS.1.1) ?_
    refine Tr.tp 156 (fx_120_54 hS.1.1) ?_
    refine Tr.iload_n (pc := 26) (i := 1) d_X12_frees_26 rfl rfl ?_
    refine Tr.iconst (pc := 27) d_X12_frees_27 (by decide) ?_
    refine Tr.zastS (pc := 28) (P := St Tb1 ws_X12_frees_120_w1 as_X12_frees_120_w1 M0) d_X12_frees_28 (ty_156 hS.1.1) (by omega) (by omega) (by omega) (sa_156 hS (by decide) (by omega) (Tb1.of hS.1.2.2.2.2 (fun _ => rd_wb _ rfl) (rd_wb _ rfl))) (fun M28 hS w28 => ?_)
    refine Tr.aload_n (pc := 29) (i := 0) d_X12_frees_29 rfl rfl ?_
    refine Tr.getf (pc := 30) d_X12_frees_30 f_12_183 (by decide) (by decide) (ty_120 hS.1.1) ?_
    refine Tr.tp 158 (fx_120_56 hS.1.1) ?_
    refine Tr.iload_n (pc := 33) (i := 1) d_X12_frees_33 rfl rfl ?_
    refine Tr.aload_n (pc := 34) (i := 0) d_X12_frees_34 rfl rfl ?_
    refine Tr.iload_n (pc := 35) (i := 1) d_X12_frees_35 rfl rfl ?_
    refine Tr.callV (pc := 36) (as := [_]) d_X12_frees_36 s_12_591 ok_X12_tails rfl rfl (Nat.le_of_ble_eq_true rfl) (Nat.le_of_ble_eq_true rfl) (by decide) (ty_120 hS.1.1) ?_
    refine Tr.imp (Tr.deep (by decide) (sp_X12_tails_120_w1 hS.1.wk ((St.kp hS (by decide) (by decide) (by decide)).trans en_120_12) a1 (by omega) (Bk1.of hF_Bk1 (fun j => (St.ka hS (by decide) (by decide) (by decide))) (fun j => (St.ka hS (by decide) (by decide) (by decide))) (fun j => (St.ka hS (by decide) (by decide) (by decide))) (fun j => (St.ka hS (by decide) (by decide) (by decide))) (fun j => (St.ka hS (by decide) (by decide) (by decide))) (fun j => (St.ka hS (by decide) (by decide) (by decide))) (fun j => (St.ka hS (by decide) (by decide) (by decide))) (fun j => (St.ka hS (by decide) (by decide) (by decide))) (St.kp hS (by decide) (by decide) (by decide)) (St.kp hS (by decide) (by decide) (by decide)) (St.kp hS (by decide) (by decide) (by decide)) (St.kp hS (by decide) (by decide) (by decide))))) ?_
    rintro M36 _ ⟨h36, r36, rfl, lr36, ur36, z36_0⟩
    have h36 := St.rn h36 (Tb1.of hS.1.2.2.2.2 (fun _ => (St.ka h36 (by decide) (by decide) (by decide))) (St.kp h36 (by decide) (by decide) (by decide)))
    have hS := St.tr hS h36 (by decide) (by decide)
    have ka36_126_1 : rd M36 126 1 = g126_1 := ((St.kp h36 (by decide) (by decide) (by decide)).trans ((Wr.b w28 rfl).trans ((St.kp h19 (by decide) (by decide) (by decide)).trans eg126_1)))
    refine Tr.sc [(0, r36), (0, a1), (2, 158)] rfl ?_
    refine Tr.iastS (pc := 39) (P := St Tb1 ws_X12_frees_120_w1 as_X12_frees_120_w1 M0) d_X12_frees_39 (ty_158 hS.1.1) (by omega) (by omega) (sa_158 hS (by decide) (by omega) (Tb1_wr hS.1.2.2.2.2 (fun i0 i1 => by omega))) (fun M39 hS w39 => ?_)
    have kr_120_62 : rd M39 120 62 = g120_62 := ((Wr.b w39 rfl).trans ((St.kp h36 (by decide) (by decide) (by decide)).trans ((Wr.b w28 rfl).trans ((St.kp h19 (by decide) (by decide) (by decide)).trans eg120_62))))
    have kr_120_75 : rd M39 120 75 = s19_120_75 := ((Wr.b w39 rfl).trans ((St.kp h36 (by decide) (by decide) (by decide)).trans ((Wr.b w28 rfl).trans es19_120_75)))
    exact Tr.vret (pc := 40) d_X12_frees_40 rfl ⟨hS, rfl, by omega⟩
  · have kr_120_62 : rd M0 120 62 = g120_62 := eg120_62
    have kr_120_75 : rd M0 120 75 = g120_75 := eg120_75
    exact Tr.vret (pc := 9) d_X12_frees_9 rfl ⟨hS, rfl, by omega⟩

def ws_X12_wakes_120_w1 : List (Int × Int) := []
def as_X12_wakes_120_w1 : List Int := []
def q_X12_wakes_120_w1 (M0 M' : Mem) (r : Option PV) : Prop := St Tru ws_X12_wakes_120_w1 as_X12_wakes_120_w1 M0 M' ∧ ∃ v : Int, r = some (0, v) ∧ (-2147483648) ≤ v ∧ v ≤ 2147483647
set_option maxRecDepth 100000 in
set_option maxHeartbeats 4000000 in
theorem sp_X12_wakes_120_w1 {l : Launch} {K : EC} {M0 : Mem} (hI : In Tru M0) (en_120_12 : rd M0 120 12 = 1) (a1 : Int) (ha1 : 0 ≤ a1 ∧ a1 ≤ 5)  (hF_Bk1 : Bk1 M0) : Tr l K 1 mX12_wakes 0 [(0, (2, 120)), (1, (0, a1))] [] M0 (q_X12_wakes_120_w1 M0) := by
  have hS : St Tru ws_X12_wakes_120_w1 as_X12_wakes_120_w1 M0 M0 := St.rf hI
  refine Tr.aload_n (pc := 0) (i := 0) d_X12_wakes_0 rfl rfl ?_
  refine Tr.iload_n (pc := 1) (i := 1) d_X12_wakes_1 rfl rfl ?_
  refine Tr.iconst (pc := 2) d_X12_wakes_2 (by decide) ?_
  refine Tr.callV (pc := 3) (as := [_, _]) d_X12_wakes_3 s_12_565 ok_X12_rate rfl rfl (Nat.le_of_ble_eq_true rfl) (Nat.le_of_ble_eq_true rfl) (by decide) (ty_120 hS.1.1) ?_
  refine Tr.imp (Tr.deep (by decide) (sp_X12_rate_120_w1 hS.1 ((St.kp hS (by decide) (by decide) (by decide)).trans en_120_12) a1 (by omega) 1 (by omega) (Bk1.of hF_Bk1 (fun j => (St.ka hS (by decide) (by decide) (by decide))) (fun j => (St.ka hS (by decide) (by decide) (by decide))) (fun j => (St.ka hS (by decide) (by decide) (by decide))) (fun j => (St.ka hS (by decide) (by decide) (by decide))) (fun j => (St.ka hS (by decide) (by decide) (by decide))) (fun j => (St.ka hS (by decide) (by decide) (by decide))) (fun j => (St.ka hS (by decide) (by decide) (by decide))) (fun j => (St.ka hS (by decide) (by decide) (by decide))) (St.kp hS (by decide) (by decide) (by decide)) (St.kp hS (by decide) (by decide) (by decide)) (St.kp hS (by decide) (by decide) (by decide)) (St.kp hS (by decide) (by decide) (by decide))))) ?_
  rintro M3 _ ⟨h3, r3, rfl, lr3, ur3, z3_0⟩
  have hS := St.tr hS h3 (by decide) (by decide)
  obtain ⟨w3_126_1, ew3_126_1⟩ : ∃ v, rd M3 126 1 = v := ⟨_, rfl⟩
  have bw3_126_1 : 0 ≤ w3_126_1 ∧ w3_126_1 ≤ 6 := by rw [← ew3_126_1]; exact ir_126_1 hS.1.2.1
  have ka3_126_1 : rd M3 126 1 = w3_126_1 := ew3_126_1
  refine Tr.sc [(0, r3)] rfl ?_
  exact Tr.iret (pc := 6) d_X12_wakes_6 rfl ⟨hS, _, rfl, by omega, by omega⟩

def ws_X12_holds_120_w1 : List (Int × Int) := [(120, 59), (120, 60), (120, 61), (120, 62), (120, 63), (120, 68), (120, 75)]
def as_X12_holds_120_w1 : List Int := [156, 157, 158, 159, 161, 162, 163, 164, 165, 166, 167, 168]
def q_X12_holds_120_w1 (a1 : Int) (a2 : Int) (M0 M' : Mem) (r : Option PV) : Prop := St Tb1 ws_X12_holds_120_w1 as_X12_holds_120_w1 M0 M' ∧ ∃ v : Int, r = some (0, v) ∧ 0 ≤ v ∧ v ≤ 1 ∧ (rd M' 120 75 ≤ rd M' 120 62) ∧ (rd M0 120 62 ≤ rd M' 120 62 ∧ rd M' 120 62 ≤ 2000) ∧ (v = 1 ∨ 1 ≤ rd M' 120 68) ∧ (rd M' 120 59 = -1)
set_option maxRecDepth 100000 in
set_option maxHeartbeats 4000000 in
theorem sp_X12_holds_120_w1 {l : Launch} {K : EC} {M0 : Mem} (hI : In Tb1 M0) (en_120_12 : rd M0 120 12 = 1) (a1 : Int) (ha1 : 0 ≤ a1 ∧ a1 ≤ 5) (a2 : Int) (ha2 : 0 ≤ a2 ∧ a2 ≤ 59)  (hq0 : rd M0 120 75 + 1 ≤ rd M0 120 62) (hq1 : rd M0 120 62 ≤ 2000) (hq2 : rd M0 120 59 = -1) (hF_Bk1 : Bk1 M0) : Tr l K 5 mX12_holds 0 [(0, (2, 120)), (1, (0, a1)), (2, (0, a2))] [] M0 (q_X12_holds_120_w1 a1 a2 M0) := by
  have hS : St Tb1 ws_X12_holds_120_w1 as_X12_holds_120_w1 M0 M0 := St.rf hI
  obtain ⟨g120_62, eg120_62⟩ : ∃ v, rd M0 120 62 = v := ⟨_, rfl⟩
  have bg120_62 : 0 ≤ g120_62 ∧ g120_62 ≤ 2060 := by rw [← eg120_62]; exact ir_120_62 hI.2.1
  obtain ⟨g120_68, eg120_68⟩ : ∃ v, rd M0 120 68 = v := ⟨_, rfl⟩
  have bg120_68 : 0 ≤ g120_68 ∧ g120_68 ≤ 2 := by rw [← eg120_68]; exact ir_120_68 hI.2.1
  obtain ⟨g120_75, eg120_75⟩ : ∃ v, rd M0 120 75 = v := ⟨_, rfl⟩
  have bg120_75 : 0 ≤ g120_75 ∧ g120_75 ≤ 2100 := by rw [← eg120_75]; exact ir_120_75 hI.2.1
  obtain ⟨g120_59, eg120_59⟩ : ∃ v, rd M0 120 59 = v := ⟨_, rfl⟩
  have bg120_59 : (-1) ≤ g120_59 ∧ g120_59 ≤ 5 := by rw [← eg120_59]; exact ir_120_59 hI.2.1
  refine Tr.aload_n (pc := 0) (i := 0) d_X12_holds_0 rfl rfl ?_
  refine Tr.getf (pc := 1) d_X12_holds_1 f_12_177 (by decide) (by decide) (ty_120 hS.1.1) ?_
  refine Tr.tp 156 (fx_120_54 hS.1.1) ?_
  refine Tr.iload_n (pc := 4) (i := 1) d_X12_holds_4 rfl rfl ?_
  refine Tr.zald (pc := 5) d_X12_holds_5 (ty_156 hS.1.1) (by omega) (by omega) ?_
  refine Tr.gen (P := fun v => 0 ≤ v ∧ v ≤ 1) (ar_156 hS.1.2.1 _) (fun r5 er5 br5 => ?_)
  refine Tr.if_eq (pc := 6) (tgt := 11) d_X12_holds_6 rfl (fun c6 => ?_) (fun c6 => ?_)
  · refine Tr.aload_n (pc := 11) (i := 0) d_X12_holds_11 rfl rfl ?_
    refine Tr.getf (pc := 12) d_X12_holds_12 f_12_201 (by decide) (by decide) (ty_120 hS.1.1) ?_
    refine Tr.tp g120_62 eg120_62 ?_
    refine Tr.iconst (pc := 15) d_X12_holds_15 (by decide) ?_
    refine Tr.isub (pc := 16) d_X12_holds_16 ?_
    refine Tr.tp (g120_62 - 1) ((w32_id (by omega)).trans (by omega)) ?_
    refine Tr.istore_n (pc := 17) (i := 3) (ls2 := [(3, (0, (g120_62 - 1))), (0, (2, 120)), (1, (0, a1)), (2, (0, a2))]) d_X12_holds_17 rfl (by decide) rfl ?_
    refine Tr.aload_n (pc := 18) (i := 0) d_X12_holds_18 rfl rfl ?_
    refine Tr.iload_n (pc := 19) (i := 1) d_X12_holds_19 rfl rfl ?_
    refine Tr.callV (pc := 20) (as := [_]) d_X12_holds_20 s_12_571 ok_X12_stateOf rfl rfl (Nat.le_of_ble_eq_true rfl) (Nat.le_of_ble_eq_true rfl) (by decide) (ty_120 hS.1.1) ?_
    refine Tr.imp (Tr.deep (by decide) (sp_X12_stateOf_120 hS.1.wk a1 (by omega))) ?_
    rintro M20 _ ⟨h20, r20, rfl, lr20, ur20, z20_0⟩
    have h20 := St.rn h20 (Tb1.of hS.1.2.2.2.2 (fun _ => (St.ka h20 (by decide) (by decide) (by decide))) (St.kp h20 (by decide) (by decide) (by decide)))
    have hS := St.tr hS h20 (by decide) (by decide)
    have ka20_120_59 : rd M20 120 59 = g120_59 := ((St.kp h20 (by decide) (by decide) (by decide)).trans eg120_59)
    obtain ⟨w20_120_61, ew20_120_61⟩ : ∃ v, rd M20 120 61 = v := ⟨_, rfl⟩
    have bw20_120_61 : 0 ≤ w20_120_61 ∧ w20_120_61 ≤ 3 := by rw [← ew20_120_61]; exact ir_120_61 hS.1.2.1
    have ka20_120_61 : rd M20 120 61 = w20_120_61 := ew20_120_61
    refine Tr.sc [(0, r20)] rfl ?_
    have J35 : ∀ (M : Mem) (q35_0 : Int), St Tb1 ws_X12_holds_120_w1 as_X12_holds_120_w1 M0 M → ((-2147483648) ≤ q35_0 ∧ q35_0 ≤ 2147483647) → rd M 120 59 = g120_59 → rd M 120 61 = w20_120_61 → rd M 120 62 = g120_62 → rd M 120 68 = g120_68 → rd M 120 75 = g120_75 → rd M 156 a1 = r5 → Tr l K 5 mX12_holds 35 [(0, (2, 120)), (1, (0, a1)), (2, (0, a2)), (3, (0, (g120_62 - 1)))] [(0, q35_0)] M (q_X12_holds_120_w1 a1 a2 M0) := by
      intro M q35_0 hS bq35_0 k35_120_59 k35_120_61 k35_120_62 k35_120_68 k35_120_75 k35_156_a110
      refine Tr.istore (pc := 35) (i := 4) (ls2 := [(4, (0, q35_0)), (0, (2, 120)), (1, (0, a1)), (2, (0, a2)), (3, (0, (g120_62 - 1)))]) d_X12_holds_35 (by decide) rfl ?_
      refine Tr.aload_n (pc := 37) (i := 0) d_X12_holds_37 rfl rfl ?_
      refine Tr.iload_n (pc := 38) (i := 1) d_X12_holds_38 rfl rfl ?_
      refine Tr.iconst (pc := 39) d_X12_holds_39 (by decide) ?_
      refine Tr.iload (pc := 40) (i := 4) d_X12_holds_40 rfl ?_
      refine Tr.iload_n (pc := 42) (i := 2) d_X12_holds_42 rfl rfl ?_
      refine Tr.iconst (pc := 43) d_X12_holds_43 (by decide) ?_
      refine Tr.iload_n (pc := 44) (i := 3) d_X12_holds_44 rfl rfl ?_
      refine Tr.callV (pc := 45) (as := [_, _, _, _, _, _]) d_X12_holds_45 s_12_587 ok_X12_ticksOf rfl rfl (Nat.le_of_ble_eq_true rfl) (Nat.le_of_ble_eq_true rfl) (by decide) (ty_120 hS.1.1) ?_
      have kb45_120_62 : rd M 120 62 = g120_62 := k35_120_62
      have kb45_120_75 : rd M 120 75 = g120_75 := k35_120_75
      refine Tr.imp (Tr.deep (by decide) (sp_X12_ticksOf_120_w1 hS.1 ((St.kp hS (by decide) (by decide) (by decide)).trans en_120_12) a1 (by omega) 1 (by omega) q35_0 (by omega) a2 (by omega) 1 (by omega) (g120_62 - 1) (by omega) (by omega) (by omega) (by omega) (by omega) (Bk1.of hF_Bk1 (fun j => (St.ka hS (by decide) (by decide) (by decide))) (fun j => (St.ka hS (by decide) (by decide) (by decide))) (fun j => (St.ka hS (by decide) (by decide) (by decide))) (fun j => (St.ka hS (by decide) (by decide) (by decide))) (fun j => (St.ka hS (by decide) (by decide) (by decide))) (fun j => (St.ka hS (by decide) (by decide) (by decide))) (fun j => (St.ka hS (by decide) (by decide) (by decide))) (fun j => (St.ka hS (by decide) (by decide) (by decide))) (St.kp hS (by decide) (by decide) (by decide)) (St.kp hS (by decide) (by decide) (by decide)) (St.kp hS (by decide) (by decide) (by decide)) (St.kp hS (by decide) (by decide) (by decide))))) ?_
      rintro M45 _ ⟨h45, r45, rfl, lr45, ur45, z45_0, z45_1, z45_2, z45_3⟩
      have hS := St.tr hS h45 (by decide) (by decide)
      obtain ⟨s45_120_59, es45_120_59⟩ : ∃ v, rd M45 120 59 = v := ⟨_, rfl⟩
      have bs45_120_59 : (-1) ≤ s45_120_59 ∧ s45_120_59 ≤ 5 := by rw [← es45_120_59]; exact ir_120_59 hS.1.2.1
      obtain ⟨s45_120_62, es45_120_62⟩ : ∃ v, rd M45 120 62 = v := ⟨_, rfl⟩
      have bs45_120_62 : 0 ≤ s45_120_62 ∧ s45_120_62 ≤ 2060 := by rw [← es45_120_62]; exact ir_120_62 hS.1.2.1
      obtain ⟨s45_120_68, es45_120_68⟩ : ∃ v, rd M45 120 68 = v := ⟨_, rfl⟩
      have bs45_120_68 : 0 ≤ s45_120_68 ∧ s45_120_68 ≤ 2 := by rw [← es45_120_68]; exact ir_120_68 hS.1.2.1
      obtain ⟨s45_120_75, es45_120_75⟩ : ∃ v, rd M45 120 75 = v := ⟨_, rfl⟩
      have bs45_120_75 : 0 ≤ s45_120_75 ∧ s45_120_75 ≤ 2100 := by rw [← es45_120_75]; exact ir_120_75 hS.1.2.1
      refine Tr.sc [(0, r45)] rfl ?_
      refine Tr.if_ne (pc := 48) (tgt := 72) d_X12_holds_48 rfl (fun c48 => ?_) (fun c48 => ?_)
      · refine Tr.iload (pc := 72) (i := 4) d_X12_holds_72 rfl ?_
        have J84 : ∀ (M : Mem) (u84_120_75 : Int), St Tb1 ws_X12_holds_120_w1 as_X12_holds_120_w1 M0 M → (0 ≤ u84_120_75 ∧ u84_120_75 ≤ 2100) → rd M 120 59 = s45_120_59 → rd M 120 62 = s45_120_62 → rd M 120 68 = s45_120_68 → rd M 120 75 = u84_120_75 → rd M 156 a1 = r5 → (u84_120_75 ≤ g120_75 + 1) → (g120_62 ≤ s45_120_62 ∧ s45_120_62 ≤ 2000) → (s45_120_59 = -1) → Tr l K 5 mX12_holds 84 [(0, (2, 120)), (1, (0, a1)), (2, (0, a2))] [] M (q_X12_holds_120_w1 a1 a2 M0) := by
          intro M u84_120_75 hS bu84_120_75 k84_120_59 k84_120_62 k84_120_68 k84_120_75 k84_156_a110 t84_0 t84_1 t84_2
          refine Tr.aload_n (pc := 84) (i := 0) d_X12_holds_84 rfl rfl ?_
          refine Tr.getf (pc := 85) d_X12_holds_85 f_12_177 (by decide) (by decide) (ty_120 hS.1.1) ?_
          refine Tr.tp 156 (fx_120_54 hS.1.1) ?_
          refine Tr.iload_n (pc := 88) (i := 1) d_X12_holds_88 rfl rfl ?_
          refine Tr.iconst (pc := 89) d_X12_holds_89 (by decide) ?_
          refine Tr.zastS (pc := 90) (P := St Tb1 ws_X12_holds_120_w1 as_X12_holds_120_w1 M0) d_X12_holds_90 (ty_156 hS.1.1) (by omega) (by omega) (by omega) (sa_156 hS (by decide) (by omega) (Tb1.of hS.1.2.2.2.2 (fun _ => rd_wb _ rfl) (rd_wb _ rfl))) (fun M90 hS w90 => ?_)
          refine Tr.aload_n (pc := 91) (i := 0) d_X12_holds_91 rfl rfl ?_
          refine Tr.getf (pc := 92) d_X12_holds_92 f_12_180 (by decide) (by decide) (ty_120 hS.1.1) ?_
          refine Tr.tp 157 (fx_120_55 hS.1.1) ?_
          refine Tr.iload_n (pc := 95) (i := 1) d_X12_holds_95 rfl rfl ?_
          refine Tr.iload_n (pc := 96) (i := 2) d_X12_holds_96 rfl rfl ?_
          refine Tr.iastS (pc := 97) (P := St Tb1 ws_X12_holds_120_w1 as_X12_holds_120_w1 M0) d_X12_holds_97 (ty_157 hS.1.1) (by omega) (by omega) (sa_157 hS (by decide) (by omega) (Tb1.of hS.1.2.2.2.2 (fun _ => rd_wb _ rfl) (rd_wb _ rfl))) (fun M97 hS w97 => ?_)
          refine Tr.iconst (pc := 98) d_X12_holds_98 (by decide) ?_
          have kr_120_59 : rd M97 120 59 = s45_120_59 := ((Wr.b w97 rfl).trans ((Wr.b w90 rfl).trans k84_120_59))
          have kr_120_62 : rd M97 120 62 = s45_120_62 := ((Wr.b w97 rfl).trans ((Wr.b w90 rfl).trans k84_120_62))
          have kr_120_68 : rd M97 120 68 = s45_120_68 := ((Wr.b w97 rfl).trans ((Wr.b w90 rfl).trans k84_120_68))
          have kr_120_75 : rd M97 120 75 = u84_120_75 := ((Wr.b w97 rfl).trans ((Wr.b w90 rfl).trans k84_120_75))
          exact Tr.zret (pc := 99) d_X12_holds_99 rfl (by omega) ⟨hS, _, rfl, by omega, by omega, by omega, by omega, by omega, by omega⟩
        refine Tr.if_ne (pc := 74) (tgt := 84) d_X12_holds_74 rfl (fun c74 => ?_) (fun c74 => ?_)
        · refine Tr.pick [1, 2, 3] (ls2 := [(0, (2, 120)), (1, (0, a1)), (2, (0, a2))]) rfl ?_
          exact J84 _ _ hS (by omega) es45_120_59 es45_120_62 es45_120_68 es45_120_75 ((St.ka h45 (by decide) (by decide) (by decide)).trans k35_156_a110) (by omega) (by omega) (by omega)
        · refine Tr.aload_n (pc := 77) (i := 0) d_X12_holds_77 rfl rfl ?_
          refine Tr.iload_n (pc := 78) (i := 1) d_X12_holds_78 rfl rfl ?_
          refine Tr.iload_n (pc := 79) (i := 2) d_X12_holds_79 rfl rfl ?_
          refine Tr.iload_n (pc := 80) (i := 3) d_X12_holds_80 rfl rfl ?_
          refine Tr.callV (pc := 81) (as := [_, _, _]) d_X12_holds_81 s_12_580 ok_X12_acts rfl rfl (Nat.le_of_ble_eq_true rfl) (Nat.le_of_ble_eq_true rfl) (by decide) (ty_120 hS.1.1) ?_
          have kb81_120_75 : rd M45 120 75 = s45_120_75 := es45_120_75
          refine Tr.imp (Tr.deep (by decide) (sp_X12_acts_120 hS.1.wk a1 (by omega) a2 (by omega) (g120_62 - 1) (by omega) (by omega))) ?_
          rintro M81 _ ⟨h81, rfl, z81_0⟩
          have h81 := St.rn h81 (Tb1.of hS.1.2.2.2.2 (fun _ => (St.ka h81 (by decide) (by decide) (by decide))) (St.kp h81 (by decide) (by decide) (by decide)))
          have hS := St.tr hS h81 (by decide) (by decide)
          obtain ⟨s81_120_75, es81_120_75⟩ : ∃ v, rd M81 120 75 = v := ⟨_, rfl⟩
          have bs81_120_75 : 0 ≤ s81_120_75 ∧ s81_120_75 ≤ 2100 := by rw [← es81_120_75]; exact ir_120_75 hS.1.2.1
          refine Tr.sc [] rfl ?_
          refine Tr.pick [1, 2, 3] (ls2 := [(0, (2, 120)), (1, (0, a1)), (2, (0, a2))]) rfl ?_
          exact J84 _ _ hS (by omega) ((St.kp h81 (by decide) (by decide) (by decide)).trans es45_120_59) ((St.kp h81 (by decide) (by decide) (by decide)).trans es45_120_62) ((St.kp h81 (by decide) (by decide) (by decide)).trans es45_120_68) es81_120_75 ((St.ka h81 (by decide) (by decide) (by decide)).trans ((St.ka h45 (by decide) (by decide) (by decide)).trans k35_156_a110)) (by omega) (by omega) (by omega)
      · refine Tr.aload_n (pc := 51) (i := 0) d_X12_holds_51 rfl rfl ?_
        refine Tr.aload_n (pc := 52) (i := 0) d_X12_holds_52 rfl rfl ?_
        refine Tr.getf (pc := 53) d_X12_holds_53 f_12_201 (by decide) (by decide) (ty_120 hS.1.1) ?_
        refine Tr.tp s45_120_62 es45_120_62 ?_
        refine Tr.iload_n (pc := 56) (i := 3) d_X12_holds_56 rfl rfl ?_
        refine Tr.iconst (pc := 57) d_X12_holds_57 (by decide) ?_
        refine Tr.iadd (pc := 58) d_X12_holds_58 ?_
        refine Tr.tp g120_62 ((w32_id (by omega)).trans (by omega)) ?_
        refine Tr.icmp_le (pc := 59) (tgt := 66) d_X12_holds_59 rfl (fun c59 => ?_) (fun c59 => ?_)
        · refine Tr.iconst (pc := 66) d_X12_holds_66 (by decide) ?_
          refine Tr.putfS (pc := 67) (P := St Tb1 ws_X12_holds_120_w1 as_X12_holds_120_w1 M0) d_X12_holds_67 f_12_195 (by decide) (by decide) (ty_120 hS.1.1) (st_120_60 hS (by decide) (by omega) (Tb1.of hS.1.2.2.2.2 (fun _ => rd_wb _ rfl) (rd_wb _ rfl))) (fun M67 hS w67 => ?_)
          refine Tr.iconst (pc := 70) d_X12_holds_70 (by decide) ?_
          have kr_120_59 : rd M67 120 59 = s45_120_59 := ((Wr.b w67 rfl).trans es45_120_59)
          have kr_120_62 : rd M67 120 62 = s45_120_62 := ((Wr.b w67 rfl).trans es45_120_62)
          have kr_120_68 : rd M67 120 68 = s45_120_68 := ((Wr.b w67 rfl).trans es45_120_68)
          have kr_120_75 : rd M67 120 75 = s45_120_75 := ((Wr.b w67 rfl).trans es45_120_75)
          exact Tr.zret (pc := 71) d_X12_holds_71 rfl (by omega) ⟨hS, _, rfl, by omega, by omega, by omega, by omega, by omega, by omega⟩
        · refine Tr.iload_n (pc := 62) (i := 1) d_X12_holds_62 rfl rfl ?_
          refine Tr.goto (pc := 63) (tgt := 67) d_X12_holds_63 rfl ?_
          refine Tr.putfS (pc := 67) (P := St Tb1 ws_X12_holds_120_w1 as_X12_holds_120_w1 M0) d_X12_holds_67 f_12_195 (by decide) (by decide) (ty_120 hS.1.1) (st_120_60 hS (by decide) (by omega) (Tb1.of hS.1.2.2.2.2 (fun _ => rd_wb _ rfl) (rd_wb _ rfl))) (fun M67 hS w67 => ?_)
          refine Tr.iconst (pc := 70) d_X12_holds_70 (by decide) ?_
          have kr_120_59 : rd M67 120 59 = s45_120_59 := ((Wr.b w67 rfl).trans es45_120_59)
          have kr_120_62 : rd M67 120 62 = s45_120_62 := ((Wr.b w67 rfl).trans es45_120_62)
          have kr_120_68 : rd M67 120 68 = s45_120_68 := ((Wr.b w67 rfl).trans es45_120_68)
          have kr_120_75 : rd M67 120 75 = s45_120_75 := ((Wr.b w67 rfl).trans es45_120_75)
          exact Tr.zret (pc := 71) d_X12_holds_71 rfl (by omega) ⟨hS, _, rfl, by omega, by omega, by omega, by omega, by omega, by omega⟩
    refine Tr.if_ne (pc := 23) (tgt := 34) d_X12_holds_23 rfl (fun c23 => ?_) (fun c23 => ?_)
    · refine Tr.iconst (pc := 34) d_X12_holds_34 (by decide) ?_
      refine Tr.pick [1, 2, 3, 0] (ls2 := [(0, (2, 120)), (1, (0, a1)), (2, (0, a2)), (3, (0, (g120_62 - 1)))]) rfl ?_
      exact J35 _ _ hS (by omega) ((St.kp h20 (by decide) (by decide) (by decide)).trans eg120_59) ew20_120_61 ((St.kp h20 (by decide) (by decide) (by decide)).trans eg120_62) ((St.kp h20 (by decide) (by decide) (by decide)).trans eg120_68) ((St.kp h20 (by decide) (by decide) (by decide)).trans eg120_75) ((St.ka h20 (by decide) (by decide) (by decide)).trans er5)
    · refine Tr.aload_n (pc := 26) (i := 0) d_X12_holds_26 rfl rfl ?_
      refine Tr.iload_n (pc := 27) (i := 1) d_X12_holds_27 rfl rfl ?_
      refine Tr.callV (pc := 28) (as := [_]) d_X12_holds_28 s_12_584 ok_X12_wakes rfl rfl (Nat.le_of_ble_eq_true rfl) (Nat.le_of_ble_eq_true rfl) (by decide) (ty_120 hS.1.1) ?_
      refine Tr.imp (Tr.deep (by decide) (sp_X12_wakes_120_w1 hS.1.wk ((St.kp hS (by decide) (by decide) (by decide)).trans en_120_12) a1 (by omega) (Bk1.of hF_Bk1 (fun j => (St.ka hS (by decide) (by decide) (by decide))) (fun j => (St.ka hS (by decide) (by decide) (by decide))) (fun j => (St.ka hS (by decide) (by decide) (by decide))) (fun j => (St.ka hS (by decide) (by decide) (by decide))) (fun j => (St.ka hS (by decide) (by decide) (by decide))) (fun j => (St.ka hS (by decide) (by decide) (by decide))) (fun j => (St.ka hS (by decide) (by decide) (by decide))) (fun j => (St.ka hS (by decide) (by decide) (by decide))) (St.kp hS (by decide) (by decide) (by decide)) (St.kp hS (by decide) (by decide) (by decide)) (St.kp hS (by decide) (by decide) (by decide)) (St.kp hS (by decide) (by decide) (by decide))))) ?_
      rintro M28 _ ⟨h28, r28, rfl, lr28, ur28⟩
      have h28 := St.rn h28 (Tb1.of hS.1.2.2.2.2 (fun _ => (St.ka h28 (by decide) (by decide) (by decide))) (St.kp h28 (by decide) (by decide) (by decide)))
      have hS := St.tr hS h28 (by decide) (by decide)
      refine Tr.sc [(0, r28)] rfl ?_
      refine Tr.goto (pc := 31) (tgt := 35) d_X12_holds_31 rfl ?_
      refine Tr.pick [1, 2, 3, 0] (ls2 := [(0, (2, 120)), (1, (0, a1)), (2, (0, a2)), (3, (0, (g120_62 - 1)))]) rfl ?_
      exact J35 _ _ hS (by omega) ((St.kp h28 (by decide) (by decide) (by decide)).trans ((St.kp h20 (by decide) (by decide) (by decide)).trans eg120_59)) ((St.kp h28 (by decide) (by decide) (by decide)).trans ew20_120_61) ((St.kp h28 (by decide) (by decide) (by decide)).trans ((St.kp h20 (by decide) (by decide) (by decide)).trans eg120_62)) ((St.kp h28 (by decide) (by decide) (by decide)).trans ((St.kp h20 (by decide) (by decide) (by decide)).trans eg120_68)) ((St.kp h28 (by decide) (by decide) (by decide)).trans ((St.kp h20 (by decide) (by decide) (by decide)).trans eg120_75)) ((St.ka h28 (by decide) (by decide) (by decide)).trans ((St.ka h20 (by decide) (by decide) (by decide)).trans er5))
  · refine Tr.iconst (pc := 9) d_X12_holds_9 (by decide) ?_
    have kr_120_59 : rd M0 120 59 = g120_59 := eg120_59
    have kr_120_62 : rd M0 120 62 = g120_62 := eg120_62
    have kr_120_68 : rd M0 120 68 = g120_68 := eg120_68
    have kr_120_75 : rd M0 120 75 = g120_75 := eg120_75
    exact Tr.zret (pc := 10) d_X12_holds_10 rfl (by omega) ⟨hS, _, rfl, by omega, by omega, by omega, by omega, by omega, by omega⟩

def ws_X12_uses_120_w1 : List (Int × Int) := [(120, 59), (120, 60), (120, 61), (120, 62), (120, 63), (120, 68), (120, 75), (120, 79)]
def as_X12_uses_120_w1 : List Int := [158, 159, 161, 162, 163, 164, 165, 166, 167, 168, 169, 170, 171]
def q_X12_uses_120_w1 (a1 : Int) (a2 : Int) (a3 : Int) (M0 M' : Mem) (r : Option PV) : Prop := St Tb1 ws_X12_uses_120_w1 as_X12_uses_120_w1 M0 M' ∧ ∃ v : Int, r = some (0, v) ∧ 0 ≤ v ∧ v ≤ 1 ∧ (rd M' 120 75 ≤ rd M' 120 62) ∧ (rd M' 120 79 ≤ rd M' 120 62) ∧ (rd M0 120 62 ≤ rd M' 120 62 ∧ rd M' 120 62 ≤ 2000) ∧ (v = 1 ∨ 1 ≤ rd M' 120 68) ∧ (rd M' 120 59 = -1)
set_option maxRecDepth 100000 in
set_option maxHeartbeats 4000000 in
theorem sp_X12_uses_120_w1 {l : Launch} {K : EC} {M0 : Mem} (hI : In Tb1 M0) (en_120_12 : rd M0 120 12 = 1) (a1 : Int) (ha1 : 0 ≤ a1 ∧ a1 ≤ 5) (a2 : Int) (ha2 : 0 ≤ a2 ∧ a2 ≤ 50) (a3 : Int) (ha3 : 0 ≤ a3 ∧ a3 ≤ 59)  (hq0 : rd M0 120 75 + 1 ≤ rd M0 120 62) (hq1 : rd M0 120 79 + 1 ≤ rd M0 120 62) (hq2 : rd M0 120 62 ≤ 2000) (hF_Bk1 : Bk1 M0) : Tr l K 5 mX12_uses 0 [(0, (2, 120)), (1, (0, a1)), (2, (0, a2)), (3, (0, a3))] [] M0 (q_X12_uses_120_w1 a1 a2 a3 M0) := by
  have hS : St Tb1 ws_X12_uses_120_w1 as_X12_uses_120_w1 M0 M0 := St.rf hI
  obtain ⟨g120_62, eg120_62⟩ : ∃ v, rd M0 120 62 = v := ⟨_, rfl⟩
  have bg120_62 : 0 ≤ g120_62 ∧ g120_62 ≤ 2060 := by rw [← eg120_62]; exact ir_120_62 hI.2.1
  obtain ⟨g120_68, eg120_68⟩ : ∃ v, rd M0 120 68 = v := ⟨_, rfl⟩
  have bg120_68 : 0 ≤ g120_68 ∧ g120_68 ≤ 2 := by rw [← eg120_68]; exact ir_120_68 hI.2.1
  obtain ⟨g120_75, eg120_75⟩ : ∃ v, rd M0 120 75 = v := ⟨_, rfl⟩
  have bg120_75 : 0 ≤ g120_75 ∧ g120_75 ≤ 2100 := by rw [← eg120_75]; exact ir_120_75 hI.2.1
  obtain ⟨g120_79, eg120_79⟩ : ∃ v, rd M0 120 79 = v := ⟨_, rfl⟩
  have bg120_79 : 0 ≤ g120_79 ∧ g120_79 ≤ 2100 := by rw [← eg120_79]; exact ir_120_79 hI.2.1
  obtain ⟨g120_59, eg120_59⟩ : ∃ v, rd M0 120 59 = v := ⟨_, rfl⟩
  have bg120_59 : (-1) ≤ g120_59 ∧ g120_59 ≤ 5 := by rw [← eg120_59]; exact ir_120_59 hI.2.1
  obtain ⟨g126_1, eg126_1⟩ : ∃ v, rd M0 126 1 = v := ⟨_, rfl⟩
  have bg126_1 : 0 ≤ g126_1 ∧ g126_1 ≤ 6 := by rw [← eg126_1]; exact ir_126_1 hI.2.1
  refine Tr.aload_n (pc := 0) (i := 0) d_X12_uses_0 rfl rfl ?_
  refine Tr.getf (pc := 1) d_X12_uses_1 f_12_201 (by decide) (by decide) (ty_120 hS.1.1) ?_
  refine Tr.tp g120_62 eg120_62 ?_
  refine Tr.iconst (pc := 4) d_X12_uses_4 (by decide) ?_
  refine Tr.isub (pc := 5) d_X12_uses_5 ?_
  refine Tr.tp (g120_62 - 1) ((w32_id (by omega)).trans (by omega)) ?_
  refine Tr.istore (pc := 6) (i := 4) (ls2 := [(4, (0, (g120_62 - 1))), (0, (2, 120)), (1, (0, a1)), (2, (0, a2)), (3, (0, a3))]) d_X12_uses_6 (by decide) rfl ?_
  refine Tr.aload_n (pc := 8) (i := 0) d_X12_uses_8 rfl rfl ?_
  refine Tr.iload_n (pc := 9) (i := 1) d_X12_uses_9 rfl rfl ?_
  refine Tr.callV (pc := 10) (as := [_]) d_X12_uses_10 s_12_571 ok_X12_stateOf rfl rfl (Nat.le_of_ble_eq_true rfl) (Nat.le_of_ble_eq_true rfl) (by decide) (ty_120 hS.1.1) ?_
  refine Tr.imp (Tr.deep (by decide) (sp_X12_stateOf_120 hS.1.wk a1 (by omega))) ?_
  rintro M10 _ ⟨h10, r10, rfl, lr10, ur10, z10_0⟩
  have h10 := St.rn h10 (Tb1.of hS.1.2.2.2.2 (fun _ => (St.ka h10 (by decide) (by decide) (by decide))) (St.kp h10 (by decide) (by decide) (by decide)))
  have hS := St.tr hS h10 (by decide) (by decide)
  have ka10_120_59 : rd M10 120 59 = g120_59 := ((St.kp h10 (by decide) (by decide) (by decide)).trans eg120_59)
  obtain ⟨w10_120_61, ew10_120_61⟩ : ∃ v, rd M10 120 61 = v := ⟨_, rfl⟩
  have bw10_120_61 : 0 ≤ w10_120_61 ∧ w10_120_61 ≤ 3 := by rw [← ew10_120_61]; exact ir_120_61 hS.1.2.1
  have ka10_120_61 : rd M10 120 61 = w10_120_61 := ew10_120_61
  refine Tr.sc [(0, r10)] rfl ?_
  have J25 : ∀ (M : Mem) (q25_0 : Int), St Tb1 ws_X12_uses_120_w1 as_X12_uses_120_w1 M0 M → ((-2147483648) ≤ q25_0 ∧ q25_0 ≤ 2147483647) → rd M 120 59 = g120_59 → rd M 120 61 = w10_120_61 → rd M 120 62 = g120_62 → rd M 120 68 = g120_68 → rd M 120 75 = g120_75 → rd M 120 79 = g120_79 → rd M 126 1 = g126_1 → Tr l K 5 mX12_uses 25 [(0, (2, 120)), (1, (0, a1)), (2, (0, a2)), (3, (0, a3)), (4, (0, (g120_62 - 1)))] [(0, q25_0)] M (q_X12_uses_120_w1 a1 a2 a3 M0) := by
    intro M q25_0 hS bq25_0 k25_120_59 k25_120_61 k25_120_62 k25_120_68 k25_120_75 k25_120_79 k25_126_1
    refine Tr.istore (pc := 25) (i := 5) (ls2 := [(5, (0, q25_0)), (0, (2, 120)), (1, (0, a1)), (2, (0, a2)), (3, (0, a3)), (4, (0, (g120_62 - 1)))]) d_X12_uses_25 (by decide) rfl ?_
    refine Tr.aload_n (pc := 27) (i := 0) d_X12_uses_27 rfl rfl ?_
    refine Tr.iload_n (pc := 28) (i := 1) d_X12_uses_28 rfl rfl ?_
    refine Tr.iconst (pc := 29) d_X12_uses_29 (by decide) ?_
    refine Tr.iload (pc := 30) (i := 5) d_X12_uses_30 rfl ?_
    refine Tr.iload_n (pc := 32) (i := 3) d_X12_uses_32 rfl rfl ?_
    refine Tr.iconst (pc := 33) d_X12_uses_33 (by decide) ?_
    refine Tr.iload (pc := 34) (i := 4) d_X12_uses_34 rfl ?_
    refine Tr.callV (pc := 36) (as := [_, _, _, _, _, _]) d_X12_uses_36 s_12_587 ok_X12_ticksOf rfl rfl (Nat.le_of_ble_eq_true rfl) (Nat.le_of_ble_eq_true rfl) (by decide) (ty_120 hS.1.1) ?_
    have kb36_120_62 : rd M 120 62 = g120_62 := k25_120_62
    have kb36_120_75 : rd M 120 75 = g120_75 := k25_120_75
    refine Tr.imp (Tr.deep (by decide) (sp_X12_ticksOf_120_w1 hS.1 ((St.kp hS (by decide) (by decide) (by decide)).trans en_120_12) a1 (by omega) 1 (by omega) q25_0 (by omega) a3 (by omega) 1 (by omega) (g120_62 - 1) (by omega) (by omega) (by omega) (by omega) (by omega) (Bk1.of hF_Bk1 (fun j => (St.ka hS (by decide) (by decide) (by decide))) (fun j => (St.ka hS (by decide) (by decide) (by decide))) (fun j => (St.ka hS (by decide) (by decide) (by decide))) (fun j => (St.ka hS (by decide) (by decide) (by decide))) (fun j => (St.ka hS (by decide) (by decide) (by decide))) (fun j => (St.ka hS (by decide) (by decide) (by decide))) (fun j => (St.ka hS (by decide) (by decide) (by decide))) (fun j => (St.ka hS (by decide) (by decide) (by decide))) (St.kp hS (by decide) (by decide) (by decide)) (St.kp hS (by decide) (by decide) (by decide)) (St.kp hS (by decide) (by decide) (by decide)) (St.kp hS (by decide) (by decide) (by decide))))) ?_
    rintro M36 _ ⟨h36, r36, rfl, lr36, ur36, z36_0, z36_1, z36_2, z36_3⟩
    have hS := St.tr hS h36 (by decide) (by decide)
    obtain ⟨s36_120_59, es36_120_59⟩ : ∃ v, rd M36 120 59 = v := ⟨_, rfl⟩
    have bs36_120_59 : (-1) ≤ s36_120_59 ∧ s36_120_59 ≤ 5 := by rw [← es36_120_59]; exact ir_120_59 hS.1.2.1
    obtain ⟨s36_120_62, es36_120_62⟩ : ∃ v, rd M36 120 62 = v := ⟨_, rfl⟩
    have bs36_120_62 : 0 ≤ s36_120_62 ∧ s36_120_62 ≤ 2060 := by rw [← es36_120_62]; exact ir_120_62 hS.1.2.1
    obtain ⟨s36_120_68, es36_120_68⟩ : ∃ v, rd M36 120 68 = v := ⟨_, rfl⟩
    have bs36_120_68 : 0 ≤ s36_120_68 ∧ s36_120_68 ≤ 2 := by rw [← es36_120_68]; exact ir_120_68 hS.1.2.1
    obtain ⟨s36_120_75, es36_120_75⟩ : ∃ v, rd M36 120 75 = v := ⟨_, rfl⟩
    have bs36_120_75 : 0 ≤ s36_120_75 ∧ s36_120_75 ≤ 2100 := by rw [← es36_120_75]; exact ir_120_75 hS.1.2.1
    refine Tr.sc [(0, r36)] rfl ?_
    have J65 : ∀ (M : Mem) (u65_120_59 u65_120_62 u65_120_68 u65_120_75 : Int), St Tb1 ws_X12_uses_120_w1 as_X12_uses_120_w1 M0 M → ((-1) ≤ u65_120_59 ∧ u65_120_59 ≤ 5) → (0 ≤ u65_120_62 ∧ u65_120_62 ≤ 2060) → (0 ≤ u65_120_68 ∧ u65_120_68 ≤ 2) → (0 ≤ u65_120_75 ∧ u65_120_75 ≤ 2100) → rd M 120 59 = u65_120_59 → rd M 120 62 = u65_120_62 → rd M 120 68 = u65_120_68 → rd M 120 75 = u65_120_75 → rd M 120 79 = g120_79 → rd M 126 1 = g126_1 → (1 ≤ u65_120_68) → (u65_120_75 ≤ g120_75 + 1) → (g120_62 ≤ u65_120_62 ∧ u65_120_62 ≤ 2000) → (u65_120_59 = -1) → Tr l K 5 mX12_uses 65 [(0, (2, 120)), (1, (0, a1)), (4, (0, (g120_62 - 1)))] [] M (q_X12_uses_120_w1 a1 a2 a3 M0) := by
      intro M u65_120_59 u65_120_62 u65_120_68 u65_120_75 hS bu65_120_59 bu65_120_62 bu65_120_68 bu65_120_75 k65_120_59 k65_120_62 k65_120_68 k65_120_75 k65_120_79 k65_126_1 t65_0 t65_1 t65_2 t65_3
      refine Tr.aload_n (pc := 65) (i := 0) d_X12_uses_65 rfl rfl ?_
      refine Tr.aload_n (pc := 66) (i := 0) d_X12_uses_66 rfl rfl ?_
      refine Tr.getf (pc := 67) d_X12_uses_67 f_12_201 (by decide) (by decide) (ty_120 hS.1.1) ?_
      refine Tr.tp u65_120_62 k65_120_62 ?_
      refine Tr.iload (pc := 70) (i := 4) d_X12_uses_70 rfl ?_
      refine Tr.iconst (pc := 72) d_X12_uses_72 (by decide) ?_
      refine Tr.iadd (pc := 73) d_X12_uses_73 ?_
      refine Tr.tp g120_62 ((w32_id (by omega)).trans (by omega)) ?_
      refine Tr.icmp_le (pc := 74) (tgt := 81) d_X12_uses_74 rfl (fun c74 => ?_) (fun c74 => ?_)
      · refine Tr.iconst (pc := 81) d_X12_uses_81 (by decide) ?_
        refine Tr.putfS (pc := 82) (P := St Tb1 ws_X12_uses_120_w1 as_X12_uses_120_w1 M0) d_X12_uses_82 f_12_195 (by decide) (by decide) (ty_120 hS.1.1) (st_120_60 hS (by decide) (by omega) (Tb1.of hS.1.2.2.2.2 (fun _ => rd_wb _ rfl) (rd_wb _ rfl))) (fun M82 hS w82 => ?_)
        refine Tr.iconst (pc := 85) d_X12_uses_85 (by decide) ?_
        have kr_120_59 : rd M82 120 59 = u65_120_59 := ((Wr.b w82 rfl).trans k65_120_59)
        have kr_120_62 : rd M82 120 62 = u65_120_62 := ((Wr.b w82 rfl).trans k65_120_62)
        have kr_120_68 : rd M82 120 68 = u65_120_68 := ((Wr.b w82 rfl).trans k65_120_68)
        have kr_120_75 : rd M82 120 75 = u65_120_75 := ((Wr.b w82 rfl).trans k65_120_75)
        have kr_120_79 : rd M82 120 79 = g120_79 := ((Wr.b w82 rfl).trans k65_120_79)
        exact Tr.zret (pc := 86) d_X12_uses_86 rfl (by omega) ⟨hS, _, rfl, by omega, by omega, by omega, by omega, by omega, by omega, by omega⟩
      · refine Tr.iload_n (pc := 77) (i := 1) d_X12_uses_77 rfl rfl ?_
        refine Tr.goto (pc := 78) (tgt := 82) d_X12_uses_78 rfl ?_
        refine Tr.putfS (pc := 82) (P := St Tb1 ws_X12_uses_120_w1 as_X12_uses_120_w1 M0) d_X12_uses_82 f_12_195 (by decide) (by decide) (ty_120 hS.1.1) (st_120_60 hS (by decide) (by omega) (Tb1.of hS.1.2.2.2.2 (fun _ => rd_wb _ rfl) (rd_wb _ rfl))) (fun M82 hS w82 => ?_)
        refine Tr.iconst (pc := 85) d_X12_uses_85 (by decide) ?_
        have kr_120_59 : rd M82 120 59 = u65_120_59 := ((Wr.b w82 rfl).trans k65_120_59)
        have kr_120_62 : rd M82 120 62 = u65_120_62 := ((Wr.b w82 rfl).trans k65_120_62)
        have kr_120_68 : rd M82 120 68 = u65_120_68 := ((Wr.b w82 rfl).trans k65_120_68)
        have kr_120_75 : rd M82 120 75 = u65_120_75 := ((Wr.b w82 rfl).trans k65_120_75)
        have kr_120_79 : rd M82 120 79 = g120_79 := ((Wr.b w82 rfl).trans k65_120_79)
        exact Tr.zret (pc := 86) d_X12_uses_86 rfl (by omega) ⟨hS, _, rfl, by omega, by omega, by omega, by omega, by omega, by omega, by omega⟩
    refine Tr.if_eq (pc := 39) (tgt := 65) d_X12_uses_39 rfl (fun c39 => ?_) (fun c39 => ?_)
    · refine Tr.pick [1, 2, 5] (ls2 := [(0, (2, 120)), (1, (0, a1)), (4, (0, (g120_62 - 1)))]) rfl ?_
      exact J65 _ _ _ _ _ hS (by omega) (by omega) (by omega) (by omega) es36_120_59 es36_120_62 es36_120_68 es36_120_75 ((St.kp h36 (by decide) (by decide) (by decide)).trans k25_120_79) ((St.kp h36 (by decide) (by decide) (by decide)).trans k25_126_1) (by omega) (by omega) (by omega) (by omega)
    · refine Tr.aload_n (pc := 42) (i := 0) d_X12_uses_42 rfl rfl ?_
      refine Tr.iload_n (pc := 43) (i := 1) d_X12_uses_43 rfl rfl ?_
      refine Tr.iconst (pc := 44) d_X12_uses_44 (by decide) ?_
      refine Tr.iload_n (pc := 45) (i := 2) d_X12_uses_45 rfl rfl ?_
      refine Tr.iload_n (pc := 46) (i := 3) d_X12_uses_46 rfl rfl ?_
      refine Tr.iload (pc := 47) (i := 5) d_X12_uses_47 rfl ?_
      have J57 : ∀ (M : Mem) (q57_5 : Int), St Tb1 ws_X12_uses_120_w1 as_X12_uses_120_w1 M0 M → (0 ≤ q57_5 ∧ q57_5 ≤ 1) → rd M 120 59 = s36_120_59 → rd M 120 62 = s36_120_62 → rd M 120 68 = s36_120_68 → rd M 120 75 = s36_120_75 → rd M 120 79 = g120_79 → rd M 126 1 = g126_1 → (q57_5 = 0 ∨ q25_0 = 0) → (s36_120_75 = g120_75 ∨ (s36_120_75 = g120_75 + 1 ∧ 1 ≤ q25_0)) → (g120_62 ≤ s36_120_62 ∧ s36_120_62 ≤ 2000) → Tr l K 5 mX12_uses 57 [(0, (2, 120)), (1, (0, a1)), (2, (0, a2)), (3, (0, a3)), (4, (0, (g120_62 - 1))), (5, (0, q25_0))] [(0, q57_5), (0, a3), (0, a2), (0, 3), (0, a1), (2, 120)] M (q_X12_uses_120_w1 a1 a2 a3 M0) := by
        intro M q57_5 hS bq57_5 k57_120_59 k57_120_62 k57_120_68 k57_120_75 k57_120_79 k57_126_1 t57_0 t57_1 t57_2
        refine Tr.iload (pc := 57) (i := 4) d_X12_uses_57 rfl ?_
        refine Tr.callV (pc := 59) (as := [_, _, _, _, _, _]) d_X12_uses_59 s_12_587 ok_X12_ticksOf rfl rfl (Nat.le_of_ble_eq_true rfl) (Nat.le_of_ble_eq_true rfl) (by decide) (ty_120 hS.1.1) ?_
        have kb59_120_62 : rd M 120 62 = s36_120_62 := k57_120_62
        have kb59_120_75 : rd M 120 75 = s36_120_75 := k57_120_75
        refine Tr.imp (Tr.deep (by decide) (sp_X12_ticksOf_120_w1 hS.1 ((St.kp hS (by decide) (by decide) (by decide)).trans en_120_12) a1 (by omega) 3 (by omega) a2 (by omega) a3 (by omega) q57_5 (by omega) (g120_62 - 1) (by omega) (by omega) (by omega) (by omega) (by omega) (Bk1.of hF_Bk1 (fun j => (St.ka hS (by decide) (by decide) (by decide))) (fun j => (St.ka hS (by decide) (by decide) (by decide))) (fun j => (St.ka hS (by decide) (by decide) (by decide))) (fun j => (St.ka hS (by decide) (by decide) (by decide))) (fun j => (St.ka hS (by decide) (by decide) (by decide))) (fun j => (St.ka hS (by decide) (by decide) (by decide))) (fun j => (St.ka hS (by decide) (by decide) (by decide))) (fun j => (St.ka hS (by decide) (by decide) (by decide))) (St.kp hS (by decide) (by decide) (by decide)) (St.kp hS (by decide) (by decide) (by decide)) (St.kp hS (by decide) (by decide) (by decide)) (St.kp hS (by decide) (by decide) (by decide))))) ?_
        rintro M59 _ ⟨h59, r59, rfl, lr59, ur59, z59_0, z59_1, z59_2, z59_3⟩
        have hS := St.tr hS h59 (by decide) (by decide)
        obtain ⟨s59_120_59, es59_120_59⟩ : ∃ v, rd M59 120 59 = v := ⟨_, rfl⟩
        have bs59_120_59 : (-1) ≤ s59_120_59 ∧ s59_120_59 ≤ 5 := by rw [← es59_120_59]; exact ir_120_59 hS.1.2.1
        obtain ⟨s59_120_62, es59_120_62⟩ : ∃ v, rd M59 120 62 = v := ⟨_, rfl⟩
        have bs59_120_62 : 0 ≤ s59_120_62 ∧ s59_120_62 ≤ 2060 := by rw [← es59_120_62]; exact ir_120_62 hS.1.2.1
        obtain ⟨s59_120_68, es59_120_68⟩ : ∃ v, rd M59 120 68 = v := ⟨_, rfl⟩
        have bs59_120_68 : 0 ≤ s59_120_68 ∧ s59_120_68 ≤ 2 := by rw [← es59_120_68]; exact ir_120_68 hS.1.2.1
        obtain ⟨s59_120_75, es59_120_75⟩ : ∃ v, rd M59 120 75 = v := ⟨_, rfl⟩
        have bs59_120_75 : 0 ≤ s59_120_75 ∧ s59_120_75 ≤ 2100 := by rw [← es59_120_75]; exact ir_120_75 hS.1.2.1
        refine Tr.sc [(0, r59)] rfl ?_
        refine Tr.if_ne (pc := 62) (tgt := 87) d_X12_uses_62 rfl (fun c62 => ?_) (fun c62 => ?_)
        · refine Tr.iload (pc := 87) (i := 5) d_X12_uses_87 rfl ?_
          refine Tr.iload_n (pc := 89) (i := 2) d_X12_uses_89 rfl rfl ?_
          refine Tr.iadd (pc := 90) d_X12_uses_90 ?_
          refine Tr.gen (P := fun v => ((-2147483648) ≤ v ∧ v ≤ 2147483647) ∧ (v ≠ 0 ∨ q25_0 + a2 = 0)) (w32_z (by omega) (by omega)) (fun r90 er90 br90 => ?_)
          have J102 : ∀ (M : Mem) (u102_120_75 : Int), St Tb1 ws_X12_uses_120_w1 as_X12_uses_120_w1 M0 M → (0 ≤ u102_120_75 ∧ u102_120_75 ≤ 2100) → rd M 120 59 = s59_120_59 → rd M 120 62 = s59_120_62 → rd M 120 68 = s59_120_68 → rd M 120 75 = u102_120_75 → rd M 120 79 = g120_79 → rd M 126 1 = g126_1 → (u102_120_75 ≤ g120_75 + 1) → (g120_62 ≤ s59_120_62 ∧ s59_120_62 ≤ 2000) → (s59_120_59 = -1) → Tr l K 5 mX12_uses 102 [(0, (2, 120)), (1, (0, a1)), (2, (0, a2)), (3, (0, a3))] [] M (q_X12_uses_120_w1 a1 a2 a3 M0) := by
            intro M u102_120_75 hS bu102_120_75 k102_120_59 k102_120_62 k102_120_68 k102_120_75 k102_120_79 k102_126_1 t102_0 t102_1 t102_2
            refine Tr.iload_n (pc := 102) (i := 2) d_X12_uses_102 rfl rfl ?_
            have J156 : ∀ (M : Mem) (u156_120_79 : Int), St Tb1 ws_X12_uses_120_w1 as_X12_uses_120_w1 M0 M → (0 ≤ u156_120_79 ∧ u156_120_79 ≤ 2100) → rd M 120 59 = s59_120_59 → rd M 120 62 = s59_120_62 → rd M 120 68 = s59_120_68 → rd M 120 75 = u102_120_75 → rd M 120 79 = u156_120_79 → rd M 126 1 = g126_1 → (u102_120_75 ≤ g120_75 + 1) → (g120_62 ≤ s59_120_62 ∧ s59_120_62 ≤ 2000) → (u156_120_79 ≤ g120_79 + 1) → (s59_120_59 = -1) → Tr l K 5 mX12_uses 156 [(0, (2, 120)), (1, (0, a1))] [] M (q_X12_uses_120_w1 a1 a2 a3 M0) := by
              intro M u156_120_79 hS bu156_120_79 k156_120_59 k156_120_62 k156_120_68 k156_120_75 k156_120_79 k156_126_1 t156_0 t156_1 t156_2 t156_3
              refine Tr.aload_n (pc := 156) (i := 0) d_X12_uses_156 rfl rfl ?_
              refine Tr.getf (pc := 157) d_X12_uses_157 f_12_183 (by decide) (by decide) (ty_120 hS.1.1) ?_
              refine Tr.tp 158 (fx_120_56 hS.1.1) ?_
              refine Tr.iload_n (pc := 160) (i := 1) d_X12_uses_160 rfl rfl ?_
              refine Tr.aload_n (pc := 161) (i := 0) d_X12_uses_161 rfl rfl ?_
              refine Tr.iload_n (pc := 162) (i := 1) d_X12_uses_162 rfl rfl ?_
              refine Tr.callV (pc := 163) (as := [_]) d_X12_uses_163 s_12_591 ok_X12_tails rfl rfl (Nat.le_of_ble_eq_true rfl) (Nat.le_of_ble_eq_true rfl) (by decide) (ty_120 hS.1.1) ?_
              refine Tr.imp (Tr.deep (by decide) (sp_X12_tails_120_w1 hS.1.wk ((St.kp hS (by decide) (by decide) (by decide)).trans en_120_12) a1 (by omega) (Bk1.of hF_Bk1 (fun j => (St.ka hS (by decide) (by decide) (by decide))) (fun j => (St.ka hS (by decide) (by decide) (by decide))) (fun j => (St.ka hS (by decide) (by decide) (by decide))) (fun j => (St.ka hS (by decide) (by decide) (by decide))) (fun j => (St.ka hS (by decide) (by decide) (by decide))) (fun j => (St.ka hS (by decide) (by decide) (by decide))) (fun j => (St.ka hS (by decide) (by decide) (by decide))) (fun j => (St.ka hS (by decide) (by decide) (by decide))) (St.kp hS (by decide) (by decide) (by decide)) (St.kp hS (by decide) (by decide) (by decide)) (St.kp hS (by decide) (by decide) (by decide)) (St.kp hS (by decide) (by decide) (by decide))))) ?_
              rintro M163 _ ⟨h163, r163, rfl, lr163, ur163, z163_0⟩
              have h163 := St.rn h163 (Tb1.of hS.1.2.2.2.2 (fun _ => (St.ka h163 (by decide) (by decide) (by decide))) (St.kp h163 (by decide) (by decide) (by decide)))
              have hS := St.tr hS h163 (by decide) (by decide)
              have ka163_126_1 : rd M163 126 1 = g126_1 := ((St.kp h163 (by decide) (by decide) (by decide)).trans k156_126_1)
              refine Tr.sc [(0, r163), (0, a1), (2, 158)] rfl ?_
              refine Tr.iastS (pc := 166) (P := St Tb1 ws_X12_uses_120_w1 as_X12_uses_120_w1 M0) d_X12_uses_166 (ty_158 hS.1.1) (by omega) (by omega) (sa_158 hS (by decide) (by omega) (Tb1_wr hS.1.2.2.2.2 (fun i0 i1 => by omega))) (fun M166 hS w166 => ?_)
              refine Tr.iconst (pc := 167) d_X12_uses_167 (by decide) ?_
              have kr_120_59 : rd M166 120 59 = s59_120_59 := ((Wr.b w166 rfl).trans ((St.kp h163 (by decide) (by decide) (by decide)).trans k156_120_59))
              have kr_120_62 : rd M166 120 62 = s59_120_62 := ((Wr.b w166 rfl).trans ((St.kp h163 (by decide) (by decide) (by decide)).trans k156_120_62))
              have kr_120_68 : rd M166 120 68 = s59_120_68 := ((Wr.b w166 rfl).trans ((St.kp h163 (by decide) (by decide) (by decide)).trans k156_120_68))
              have kr_120_75 : rd M166 120 75 = u102_120_75 := ((Wr.b w166 rfl).trans ((St.kp h163 (by decide) (by decide) (by decide)).trans k156_120_75))
              have kr_120_79 : rd M166 120 79 = u156_120_79 := ((Wr.b w166 rfl).trans ((St.kp h163 (by decide) (by decide) (by decide)).trans k156_120_79))
              exact Tr.zret (pc := 168) d_X12_uses_168 rfl (by omega) ⟨hS, _, rfl, by omega, by omega, by omega, by omega, by omega, by omega, by omega⟩
            refine Tr.if_ne (pc := 103) (tgt := 156) d_X12_uses_103 rfl (fun c103 => ?_) (fun c103 => ?_)
            · refine Tr.pick [0, 1] (ls2 := [(0, (2, 120)), (1, (0, a1))]) rfl ?_
              exact J156 _ _ hS (by omega) k102_120_59 k102_120_62 k102_120_68 k102_120_75 k102_120_79 k102_126_1 (by omega) (by omega) (by omega) (by omega)
            · refine Tr.aload_n (pc := 106) (i := 0) d_X12_uses_106 rfl rfl ?_
              refine Tr.getz (pc := 107) d_X12_uses_107 f_12_225 (by decide) (ty_120 hS.1.1) ?_
              refine Tr.gen (P := fun v => 0 ≤ v ∧ v ≤ 1) (ir_120_70 hS.1.2.1) (fun r107 er107 br107 => ?_)
              refine Tr.if_eq (pc := 110) (tgt := 156) d_X12_uses_110 rfl (fun c110 => ?_) (fun c110 => ?_)
              · refine Tr.pick [0, 1] (ls2 := [(0, (2, 120)), (1, (0, a1))]) rfl ?_
                exact J156 _ _ hS (by omega) k102_120_59 k102_120_62 k102_120_68 k102_120_75 k102_120_79 k102_126_1 (by omega) (by omega) (by omega) (by omega)
              · refine Tr.aload_n (pc := 113) (i := 0) d_X12_uses_113 rfl rfl ?_
                refine Tr.getf (pc := 114) d_X12_uses_114 f_12_255 (by decide) (by decide) (ty_120 hS.1.1) ?_
                refine Tr.tp 169 (fx_120_80 hS.1.1) ?_
                refine Tr.aload_n (pc := 117) (i := 0) d_X12_uses_117 rfl rfl ?_
                refine Tr.getf (pc := 118) d_X12_uses_118 f_12_252 (by decide) (by decide) (ty_120 hS.1.1) ?_
                refine Tr.tp g120_79 k102_120_79 ?_
                refine Tr.iload_n (pc := 121) (i := 1) d_X12_uses_121 rfl rfl ?_
                refine Tr.iastS (pc := 122) (P := St Tb1 ws_X12_uses_120_w1 as_X12_uses_120_w1 M0) d_X12_uses_122 (ty_169 hS.1.1) (by omega) (by omega) (sa_169 hS (by decide) (by omega) (Tb1.of hS.1.2.2.2.2 (fun _ => rd_wb _ rfl) (rd_wb _ rfl))) (fun M122 hS w122 => ?_)
                refine Tr.aload_n (pc := 123) (i := 0) d_X12_uses_123 rfl rfl ?_
                refine Tr.getf (pc := 124) d_X12_uses_124 f_12_258 (by decide) (by decide) (ty_120 hS.1.1) ?_
                refine Tr.tp 170 (fx_120_81 hS.1.1) ?_
                refine Tr.aload_n (pc := 127) (i := 0) d_X12_uses_127 rfl rfl ?_
                refine Tr.getf (pc := 128) d_X12_uses_128 f_12_252 (by decide) (by decide) (ty_120 hS.1.1) ?_
                refine Tr.tp g120_79 ((Wr.b w122 rfl).trans k102_120_79) ?_
                refine Tr.iload_n (pc := 131) (i := 3) d_X12_uses_131 rfl rfl ?_
                refine Tr.iastS (pc := 132) (P := St Tb1 ws_X12_uses_120_w1 as_X12_uses_120_w1 M0) d_X12_uses_132 (ty_170 hS.1.1) (by omega) (by omega) (sa_170 hS (by decide) (by omega) (Tb1.of hS.1.2.2.2.2 (fun _ => rd_wb _ rfl) (rd_wb _ rfl))) (fun M132 hS w132 => ?_)
                refine Tr.aload_n (pc := 133) (i := 0) d_X12_uses_133 rfl rfl ?_
                refine Tr.getf (pc := 134) d_X12_uses_134 f_12_261 (by decide) (by decide) (ty_120 hS.1.1) ?_
                refine Tr.tp 171 (fx_120_82 hS.1.1) ?_
                refine Tr.aload_n (pc := 137) (i := 0) d_X12_uses_137 rfl rfl ?_
                refine Tr.getf (pc := 138) d_X12_uses_138 f_12_252 (by decide) (by decide) (ty_120 hS.1.1) ?_
                refine Tr.tp g120_79 ((Wr.b w132 rfl).trans ((Wr.b w122 rfl).trans k102_120_79)) ?_
                refine Tr.aload_n (pc := 141) (i := 0) d_X12_uses_141 rfl rfl ?_
                refine Tr.getf (pc := 142) d_X12_uses_142 f_12_201 (by decide) (by decide) (ty_120 hS.1.1) ?_
                refine Tr.tp s59_120_62 ((Wr.b w132 rfl).trans ((Wr.b w122 rfl).trans k102_120_62)) ?_
                refine Tr.iastS (pc := 145) (P := St Tb1 ws_X12_uses_120_w1 as_X12_uses_120_w1 M0) d_X12_uses_145 (ty_171 hS.1.1) (by omega) (by omega) (sa_171 hS (by decide) (by omega) (Tb1.of hS.1.2.2.2.2 (fun _ => rd_wb _ rfl) (rd_wb _ rfl))) (fun M145 hS w145 => ?_)
                refine Tr.aload_n (pc := 146) (i := 0) d_X12_uses_146 rfl rfl ?_
                refine Tr.dup (pc := 147) d_X12_uses_147 ne21 ?_
                refine Tr.getf (pc := 148) d_X12_uses_148 f_12_252 (by decide) (by decide) (ty_120 hS.1.1) ?_
                refine Tr.tp g120_79 ((Wr.b w145 rfl).trans ((Wr.b w132 rfl).trans ((Wr.b w122 rfl).trans k102_120_79))) ?_
                refine Tr.iconst (pc := 151) d_X12_uses_151 (by decide) ?_
                refine Tr.iadd (pc := 152) d_X12_uses_152 ?_
                refine Tr.tp (g120_79 + 1) ((w32_id (by omega)).trans (by omega)) ?_
                refine Tr.putfS (pc := 153) (P := St Tb1 ws_X12_uses_120_w1 as_X12_uses_120_w1 M0) d_X12_uses_153 f_12_252 (by decide) (by decide) (ty_120 hS.1.1) (st_120_79 hS (by decide) (by omega) (Tb1.of hS.1.2.2.2.2 (fun _ => rd_wb _ rfl) (rd_wb _ rfl))) (fun M153 hS w153 => ?_)
                refine Tr.pick [0, 1] (ls2 := [(0, (2, 120)), (1, (0, a1))]) rfl ?_
                exact J156 _ _ hS (by omega) ((Wr.b w153 rfl).trans ((Wr.b w145 rfl).trans ((Wr.b w132 rfl).trans ((Wr.b w122 rfl).trans k102_120_59)))) ((Wr.b w153 rfl).trans ((Wr.b w145 rfl).trans ((Wr.b w132 rfl).trans ((Wr.b w122 rfl).trans k102_120_62)))) ((Wr.b w153 rfl).trans ((Wr.b w145 rfl).trans ((Wr.b w132 rfl).trans ((Wr.b w122 rfl).trans k102_120_68)))) ((Wr.b w153 rfl).trans ((Wr.b w145 rfl).trans ((Wr.b w132 rfl).trans ((Wr.b w122 rfl).trans k102_120_75)))) w153.1 ((Wr.b w153 rfl).trans ((Wr.b w145 rfl).trans ((Wr.b w132 rfl).trans ((Wr.b w122 rfl).trans k102_126_1)))) (by omega) (by omega) (by omega) (by omega)
          refine Tr.if_ne (pc := 91) (tgt := 102) d_X12_uses_91 rfl (fun c91 => ?_) (fun c91 => ?_)
          · refine Tr.pick [0, 1, 2, 3] (ls2 := [(0, (2, 120)), (1, (0, a1)), (2, (0, a2)), (3, (0, a3))]) rfl ?_
            exact J102 _ _ hS (by omega) es59_120_59 es59_120_62 es59_120_68 es59_120_75 ((St.kp h59 (by decide) (by decide) (by decide)).trans k57_120_79) ((St.kp h59 (by decide) (by decide) (by decide)).trans k57_126_1) (by omega) (by omega) (by omega)
          · refine Tr.aload_n (pc := 94) (i := 0) d_X12_uses_94 rfl rfl ?_
            refine Tr.iload_n (pc := 95) (i := 1) d_X12_uses_95 rfl rfl ?_
            refine Tr.iload_n (pc := 96) (i := 3) d_X12_uses_96 rfl rfl ?_
            refine Tr.iload (pc := 97) (i := 4) d_X12_uses_97 rfl ?_
            refine Tr.callV (pc := 99) (as := [_, _, _]) d_X12_uses_99 s_12_580 ok_X12_acts rfl rfl (Nat.le_of_ble_eq_true rfl) (Nat.le_of_ble_eq_true rfl) (by decide) (ty_120 hS.1.1) ?_
            have kb99_120_75 : rd M59 120 75 = s59_120_75 := es59_120_75
            refine Tr.imp (Tr.deep (by decide) (sp_X12_acts_120 hS.1.wk a1 (by omega) a3 (by omega) (g120_62 - 1) (by omega) (by omega))) ?_
            rintro M99 _ ⟨h99, rfl, z99_0⟩
            have h99 := St.rn h99 (Tb1.of hS.1.2.2.2.2 (fun _ => (St.ka h99 (by decide) (by decide) (by decide))) (St.kp h99 (by decide) (by decide) (by decide)))
            have hS := St.tr hS h99 (by decide) (by decide)
            obtain ⟨s99_120_75, es99_120_75⟩ : ∃ v, rd M99 120 75 = v := ⟨_, rfl⟩
            have bs99_120_75 : 0 ≤ s99_120_75 ∧ s99_120_75 ≤ 2100 := by rw [← es99_120_75]; exact ir_120_75 hS.1.2.1
            refine Tr.sc [] rfl ?_
            refine Tr.pick [0, 1, 2, 3] (ls2 := [(0, (2, 120)), (1, (0, a1)), (2, (0, a2)), (3, (0, a3))]) rfl ?_
            exact J102 _ _ hS (by omega) ((St.kp h99 (by decide) (by decide) (by decide)).trans es59_120_59) ((St.kp h99 (by decide) (by decide) (by decide)).trans es59_120_62) ((St.kp h99 (by decide) (by decide) (by decide)).trans es59_120_68) es99_120_75 ((St.kp h99 (by decide) (by decide) (by decide)).trans ((St.kp h59 (by decide) (by decide) (by decide)).trans k57_120_79)) ((St.kp h99 (by decide) (by decide) (by decide)).trans ((St.kp h59 (by decide) (by decide) (by decide)).trans k57_126_1)) (by omega) (by omega) (by omega)
        · refine Tr.pick [0, 1, 4] (ls2 := [(0, (2, 120)), (1, (0, a1)), (4, (0, (g120_62 - 1)))]) rfl ?_
          exact J65 _ _ _ _ _ hS (by omega) (by omega) (by omega) (by omega) es59_120_59 es59_120_62 es59_120_68 es59_120_75 ((St.kp h59 (by decide) (by decide) (by decide)).trans k57_120_79) ((St.kp h59 (by decide) (by decide) (by decide)).trans k57_126_1) (by omega) (by omega) (by omega) (by omega)
      refine Tr.if_ne (pc := 49) (tgt := 56) d_X12_uses_49 rfl (fun c49 => ?_) (fun c49 => ?_)
      · refine Tr.iconst (pc := 56) d_X12_uses_56 (by decide) ?_
        refine Tr.pick [1, 2, 3, 4, 5, 0] (ls2 := [(0, (2, 120)), (1, (0, a1)), (2, (0, a2)), (3, (0, a3)), (4, (0, (g120_62 - 1))), (5, (0, q25_0))]) rfl ?_
        exact J57 _ _ hS (by omega) es36_120_59 es36_120_62 es36_120_68 es36_120_75 ((St.kp h36 (by decide) (by decide) (by decide)).trans k25_120_79) ((St.kp h36 (by decide) (by decide) (by decide)).trans k25_126_1) (by first | assumption | omega) (by first | assumption | omega) (by omega)
      · refine Tr.iconst (pc := 52) d_X12_uses_52 (by decide) ?_
        refine Tr.goto (pc := 53) (tgt := 57) d_X12_uses_53 rfl ?_
        refine Tr.pick [1, 2, 3, 4, 5, 0] (ls2 := [(0, (2, 120)), (1, (0, a1)), (2, (0, a2)), (3, (0, a3)), (4, (0, (g120_62 - 1))), (5, (0, q25_0))]) rfl ?_
        exact J57 _ _ hS (by omega) es36_120_59 es36_120_62 es36_120_68 es36_120_75 ((St.kp h36 (by decide) (by decide) (by decide)).trans k25_120_79) ((St.kp h36 (by decide) (by decide) (by decide)).trans k25_126_1) (by first | assumption | omega) (by first | assumption | omega) (by omega)
  refine Tr.if_ne (pc := 13) (tgt := 24) d_X12_uses_13 rfl (fun c13 => ?_) (fun c13 => ?_)
  · refine Tr.iconst (pc := 24) d_X12_uses_24 (by decide) ?_
    refine Tr.pick [1, 2, 3, 4, 0] (ls2 := [(0, (2, 120)), (1, (0, a1)), (2, (0, a2)), (3, (0, a3)), (4, (0, (g120_62 - 1)))]) rfl ?_
    exact J25 _ _ hS (by omega) ((St.kp h10 (by decide) (by decide) (by decide)).trans eg120_59) ew10_120_61 ((St.kp h10 (by decide) (by decide) (by decide)).trans eg120_62) ((St.kp h10 (by decide) (by decide) (by decide)).trans eg120_68) ((St.kp h10 (by decide) (by decide) (by decide)).trans eg120_75) ((St.kp h10 (by decide) (by decide) (by decide)).trans eg120_79) ((St.kp h10 (by decide) (by decide) (by decide)).trans eg126_1)
  · refine Tr.aload_n (pc := 16) (i := 0) d_X12_uses_16 rfl rfl ?_
    refine Tr.iload_n (pc := 17) (i := 1) d_X12_uses_17 rfl rfl ?_
    refine Tr.callV (pc := 18) (as := [_]) d_X12_uses_18 s_12_584 ok_X12_wakes rfl rfl (Nat.le_of_ble_eq_true rfl) (Nat.le_of_ble_eq_true rfl) (by decide) (ty_120 hS.1.1) ?_
    refine Tr.imp (Tr.deep (by decide) (sp_X12_wakes_120_w1 hS.1.wk ((St.kp hS (by decide) (by decide) (by decide)).trans en_120_12) a1 (by omega) (Bk1.of hF_Bk1 (fun j => (St.ka hS (by decide) (by decide) (by decide))) (fun j => (St.ka hS (by decide) (by decide) (by decide))) (fun j => (St.ka hS (by decide) (by decide) (by decide))) (fun j => (St.ka hS (by decide) (by decide) (by decide))) (fun j => (St.ka hS (by decide) (by decide) (by decide))) (fun j => (St.ka hS (by decide) (by decide) (by decide))) (fun j => (St.ka hS (by decide) (by decide) (by decide))) (fun j => (St.ka hS (by decide) (by decide) (by decide))) (St.kp hS (by decide) (by decide) (by decide)) (St.kp hS (by decide) (by decide) (by decide)) (St.kp hS (by decide) (by decide) (by decide)) (St.kp hS (by decide) (by decide) (by decide))))) ?_
    rintro M18 _ ⟨h18, r18, rfl, lr18, ur18⟩
    have h18 := St.rn h18 (Tb1.of hS.1.2.2.2.2 (fun _ => (St.ka h18 (by decide) (by decide) (by decide))) (St.kp h18 (by decide) (by decide) (by decide)))
    have hS := St.tr hS h18 (by decide) (by decide)
    refine Tr.sc [(0, r18)] rfl ?_
    refine Tr.goto (pc := 21) (tgt := 25) d_X12_uses_21 rfl ?_
    refine Tr.pick [1, 2, 3, 4, 0] (ls2 := [(0, (2, 120)), (1, (0, a1)), (2, (0, a2)), (3, (0, a3)), (4, (0, (g120_62 - 1)))]) rfl ?_
    exact J25 _ _ hS (by omega) ((St.kp h18 (by decide) (by decide) (by decide)).trans ((St.kp h10 (by decide) (by decide) (by decide)).trans eg120_59)) ((St.kp h18 (by decide) (by decide) (by decide)).trans ew10_120_61) ((St.kp h18 (by decide) (by decide) (by decide)).trans ((St.kp h10 (by decide) (by decide) (by decide)).trans eg120_62)) ((St.kp h18 (by decide) (by decide) (by decide)).trans ((St.kp h10 (by decide) (by decide) (by decide)).trans eg120_68)) ((St.kp h18 (by decide) (by decide) (by decide)).trans ((St.kp h10 (by decide) (by decide) (by decide)).trans eg120_75)) ((St.kp h18 (by decide) (by decide) (by decide)).trans ((St.kp h10 (by decide) (by decide) (by decide)).trans eg120_79)) ((St.kp h18 (by decide) (by decide) (by decide)).trans ((St.kp h10 (by decide) (by decide) (by decide)).trans eg126_1))
