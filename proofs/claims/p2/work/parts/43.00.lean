def ws_J7_fill_d0a16_101 : List (Int × Int) := []
def as_J7_fill_d0a16_101 : List Int := [101]
def q_J7_fill_d0a16_101 (M0 M' : Mem) (r : Option PV) : Prop := St Tru ws_J7_fill_d0a16_101 as_J7_fill_d0a16_101 M0 M' ∧ r = none
set_option maxRecDepth 100000 in
set_option maxHeartbeats 4000000 in
theorem sp_J7_fill_d0a16_101 {l : Launch} {K : EC} {M0 : Mem} (hI : In Tru M0)  (a1 : Int) (ha1 : 0 ≤ a1 ∧ a1 ≤ 0)  : Tr l K 0 mJ7_fill_d0a16 0 [(0, (2, 101)), (1, (1, a1))] [] M0 (q_J7_fill_d0a16_101 M0) := by
  have hS : St Tru ws_J7_fill_d0a16_101 as_J7_fill_d0a16_101 M0 M0 := St.rf hI
  refine Tr.iconst (pc := 0) d_J7_fill_d0a16_0 (by decide) ?_
  refine Tr.istore_n (pc := 1) (i := 3) (ls2 := [(3, (0, 0)), (0, (2, 101)), (1, (1, a1))]) d_J7_fill_d0a16_1 rfl (by decide) rfl ?_
  refine Tr.aload_n (pc := 2) (i := 0) d_J7_fill_d0a16_2 rfl rfl ?_
  refine Tr.alen (pc := 3) d_J7_fill_d0a16_3 (ty_101 hS.1.1) (by decide) (by decide) ?_
  refine Tr.tp 256 rfl ?_
  refine Tr.istore (pc := 4) (i := 4) (ls2 := [(4, (0, 256)), (3, (0, 0)), (0, (2, 101)), (1, (1, a1))]) d_J7_fill_d0a16_4 (by decide) rfl ?_
  have J6 : ∀ (n6 : Nat) (M : Mem) (p6_3 : Int), St Tru ws_J7_fill_d0a16_101 as_J7_fill_d0a16_101 M0 M → (0 ≤ p6_3 ∧ p6_3 ≤ 256) → (256 - p6_3).toNat < n6 → Tr l K 0 mJ7_fill_d0a16 6 [(0, (2, 101)), (1, (1, a1)), (3, (0, p6_3)), (4, (0, 256))] [] M (q_J7_fill_d0a16_101 M0) := by
    intro n6
    induction n6 with
    | zero => intro M p6_3 hS bp6_3  hm6; exact absurd hm6 (Nat.not_lt_zero _)
    | succ n6 J6 =>
      intro M p6_3 hS bp6_3  hm6
      refine Tr.iload_n (pc := 6) (i := 3) d_J7_fill_d0a16_6 rfl rfl ?_
      refine Tr.iload (pc := 7) (i := 4) d_J7_fill_d0a16_7 rfl ?_
      refine Tr.icmp_ge (pc := 9) (tgt := 22) d_J7_fill_d0a16_9 rfl (fun c9 => ?_) (fun c9 => ?_)
      · exact Tr.vret (pc := 22) d_J7_fill_d0a16_22 rfl ⟨hS, rfl⟩
      · refine Tr.aload_n (pc := 12) (i := 0) d_J7_fill_d0a16_12 rfl rfl ?_
        refine Tr.iload_n (pc := 13) (i := 3) d_J7_fill_d0a16_13 rfl rfl ?_
        refine Tr.lload_n (pc := 14) (i := 1) d_J7_fill_d0a16_14 rfl rfl ?_
        refine Tr.tp 0 (by omega) ?_
        refine Tr.lastS (pc := 15) (P := St Tru ws_J7_fill_d0a16_101 as_J7_fill_d0a16_101 M0) d_J7_fill_d0a16_15 (ty_101 hS.1.1) (by omega) (by omega) (sa_101 hS (by decide) (by omega) trivial) (fun M15 hS w15 => ?_)
        refine Tr.iincV (pc := 16) (n2 := (p6_3 + 1)) (ls2 := [(3, (0, (p6_3 + 1))), (0, (2, 101)), (1, (1, a1)), (4, (0, 256))]) d_J7_fill_d0a16_16 rfl (by decide) ((w32_id (by omega)).trans (by omega)) rfl ?_
        refine Tr.goto (pc := 19) (tgt := 6) d_J7_fill_d0a16_19 rfl ?_
        refine Tr.pick [1, 2, 0, 3] (ls2 := [(0, (2, 101)), (1, (1, a1)), (3, (0, (p6_3 + 1))), (4, (0, 256))]) rfl ?_
        exact J6 _ _ hS (by omega) (by omega)
  refine Tr.pick [2, 3, 1, 0] (ls2 := [(0, (2, 101)), (1, (1, a1)), (3, (0, 0)), (4, (0, 256))]) rfl ?_
  exact J6 _ _ _ hS (by omega) (Nat.lt_succ_self _)

def ws_X9_rank_100 : List (Int × Int) := []
def as_X9_rank_100 : List Int := []
def q_X9_rank_100 (a1 : Int) (M0 M' : Mem) (r : Option PV) : Prop := St Tru ws_X9_rank_100 as_X9_rank_100 M0 M' ∧ ∃ v : Int, r = some (0, v) ∧ 0 ≤ v ∧ v ≤ 64 ∧ ((0 ≤ a1 ∧ a1 ≤ 59) → v = rk (rd M0 100 2) a1)
set_option maxRecDepth 100000 in
set_option maxHeartbeats 4000000 in
theorem sp_X9_rank_100 {l : Launch} {K : EC} {M0 : Mem} (hI : In Tru M0)  (a1 : Int) (ha1 : (-2147483648) ≤ a1 ∧ a1 ≤ 2147483647)  : Tr l K 1 mX9_rank 0 [(0, (2, 100)), (1, (0, a1))] [] M0 (q_X9_rank_100 a1 M0) := by
  have hS : St Tru ws_X9_rank_100 as_X9_rank_100 M0 M0 := St.rf hI
  refine Tr.aload_n (pc := 0) (i := 0) d_X9_rank_0 rfl rfl ?_
  refine Tr.getf (pc := 1) d_X9_rank_1 f_9_28 (by decide) (by decide) (ty_100 hS.1.1) ?_
  refine Tr.gen (P := fun v => (-9223372036854775808) ≤ v ∧ v ≤ 9223372036854775807) (ir_100_2 hS.1.2.1) (fun r1 er1 br1 => ?_)
  refine Tr.lconst (pc := 4) (v := 1) d_X9_rank_4 rfl (by decide) ?_
  refine Tr.iload_n (pc := 5) (i := 1) d_X9_rank_5 rfl rfl ?_
  refine Tr.lshl (pc := 6) d_X9_rank_6 ?_
  refine Tr.gen (P := fun v => (-9223372036854775808) ≤ v ∧ v ≤ 9223372036854775807) (i64_b _) (fun r6 er6 br6 => ?_)
  refine Tr.lconst (pc := 7) (v := 1) d_X9_rank_7 rfl (by decide) ?_
  refine Tr.lsub (pc := 8) d_X9_rank_8 ?_
  refine Tr.gen (P := fun v => (-9223372036854775808) ≤ v ∧ v ≤ 9223372036854775807) (w64_b _) (fun r8 er8 br8 => ?_)
  refine Tr.land (pc := 9) d_X9_rank_9 ?_
  refine Tr.gen (P := fun v => (-9223372036854775808) ≤ v ∧ v ≤ 9223372036854775807) (i64_b _) (fun r9 er9 br9 => ?_)
  refine Tr.callS (pc := 10) (as := [_]) d_X9_rank_10 s_9_89 ok_J13_bitCount_95d88 rfl rfl (Nat.le_of_ble_eq_true rfl) (Nat.le_of_ble_eq_true rfl) ?_
  refine Tr.imp (Tr.deep (by decide) (sp_J13_bitCount_95d88 hS.1 r9 (by omega))) ?_
  rintro M10 _ ⟨h10, r10, rfl, lr10, ur10, wr10⟩
  have hS := St.tr hS h10 (by decide) (by decide)
  refine Tr.sc [(0, r10)] rfl ?_
  exact Tr.iret (pc := 13) d_X9_rank_13 rfl ⟨hS, _, rfl, by omega, by omega, (fun h => by have h8 := rk_v (a := r1) h; rw [er6, er8, er9] at h8; have h9 := wr10.1; rw [h8] at h9; rw [er1]; exact h9)⟩

def ws_X9_bitOf_100 : List (Int × Int) := []
def as_X9_bitOf_100 : List Int := []
def q_X9_bitOf_100 (a1 : Int) (M0 M' : Mem) (r : Option PV) : Prop := St Tru ws_X9_bitOf_100 as_X9_bitOf_100 M0 M' ∧ ∃ v : Int, r = some (0, v) ∧ (-2147483648) ≤ v ∧ v ≤ 2147483647 ∧ ((0 ≤ a1 ∧ a1 ≤ 59) → v = f_ishl 1 (rk (rd M0 100 2) a1))
set_option maxRecDepth 100000 in
set_option maxHeartbeats 4000000 in
theorem sp_X9_bitOf_100 {l : Launch} {K : EC} {M0 : Mem} (hI : In Tru M0)  (a1 : Int) (ha1 : (-2147483648) ≤ a1 ∧ a1 ≤ 2147483647)  : Tr l K 2 mX9_bitOf 0 [(0, (2, 100)), (1, (0, a1))] [] M0 (q_X9_bitOf_100 a1 M0) := by
  have hS : St Tru ws_X9_bitOf_100 as_X9_bitOf_100 M0 M0 := St.rf hI
  refine Tr.iconst (pc := 0) d_X9_bitOf_0 (by decide) ?_
  refine Tr.aload_n (pc := 1) (i := 0) d_X9_bitOf_1 rfl rfl ?_
  refine Tr.iload_n (pc := 2) (i := 1) d_X9_bitOf_2 rfl rfl ?_
  refine Tr.callV (pc := 3) (as := [_]) d_X9_bitOf_3 s_9_95 ok_X9_rank rfl rfl (Nat.le_of_ble_eq_true rfl) (Nat.le_of_ble_eq_true rfl) (by decide) (ty_100 hS.1.1) ?_
  refine Tr.imp (Tr.deep (by decide) (sp_X9_rank_100 hS.1 a1 (by omega))) ?_
  rintro M3 _ ⟨h3, r3, rfl, lr3, ur3, z3_0⟩
  have hS := St.tr hS h3 (by decide) (by decide)
  refine Tr.sc [(0, r3), (0, 1)] rfl ?_
  refine Tr.ishl (pc := 6) d_X9_bitOf_6 ?_
  refine Tr.gen (P := fun v => (-2147483648) ≤ v ∧ v ≤ 2147483647) (i32_b _) (fun r6 er6 br6 => ?_)
  exact Tr.iret (pc := 7) d_X9_bitOf_7 rfl ⟨hS, _, rfl, by omega, by omega, (fun h => by rw [← er6, z3_0 h])⟩

def ws_X9_spread_100 : List (Int × Int) := []
def as_X9_spread_100 : List Int := [101, 102]
def q_X9_spread_100 (M0 M' : Mem) (r : Option PV) : Prop := St Tru ws_X9_spread_100 as_X9_spread_100 M0 M' ∧ r = none
set_option maxRecDepth 100000 in
set_option maxHeartbeats 4000000 in
theorem sp_X9_spread_100 {l : Launch} {K : EC} {M0 : Mem} (hI : In Tru M0)  (a1 : Int) (ha1 : (-2147483648) ≤ a1 ∧ a1 ≤ 2147483647) (a2 : Int) (ha2 : (-2147483648) ≤ a2 ∧ a2 ≤ 2147483647) (a3 : Int) (ha3 : (-2147483648) ≤ a3 ∧ a3 ≤ 2147483647) (a4 : Int) (ha4 : (-1) ≤ a4 ∧ a4 ≤ 999) (a5 : Int) (ha5 : (-2147483648) ≤ a5 ∧ a5 ≤ 2147483647)  : Tr l K 0 mX9_spread 0 [(0, (2, 100)), (1, (0, a1)), (2, (0, a2)), (3, (0, a3)), (4, (0, a4)), (5, (0, a5))] [] M0 (q_X9_spread_100 M0) := by
  have hS : St Tru ws_X9_spread_100 as_X9_spread_100 M0 M0 := St.rf hI
  refine Tr.iload_n (pc := 0) (i := 3) d_X9_spread_0 rfl rfl ?_
  refine Tr.iload_n (pc := 1) (i := 2) d_X9_spread_1 rfl rfl ?_
  refine Tr.icmp_gt (pc := 2) (tgt := 6) d_X9_spread_2 rfl (fun c2 => ?_) (fun c2 => ?_)
  · refine Tr.iconst (pc := 6) d_X9_spread_6 (by decide) ?_
    refine Tr.istore (pc := 7) (i := 6) (ls2 := [(6, (0, 1)), (0, (2, 100)), (1, (0, a1)), (2, (0, a2)), (3, (0, a3)), (4, (0, a4)), (5, (0, a5))]) d_X9_spread_7 (by decide) rfl ?_
    have J9 : ∀ (n9 : Nat) (M : Mem) (p9_6 : Int), St Tru ws_X9_spread_100 as_X9_spread_100 M0 M → (1 ≤ p9_6 ∧ p9_6 ≤ 256) → (256 - p9_6).toNat < n9 → Tr l K 0 mX9_spread 9 [(0, (2, 100)), (1, (0, a1)), (2, (0, a2)), (3, (0, a3)), (4, (0, a4)), (5, (0, a5)), (6, (0, p9_6))] [] M (q_X9_spread_100 M0) := by
      intro n9
      induction n9 with
      | zero => intro M p9_6 hS bp9_6  hm9; exact absurd hm9 (Nat.not_lt_zero _)
      | succ n9 J9 =>
        intro M p9_6 hS bp9_6  hm9
        refine Tr.iload (pc := 9) (i := 6) d_X9_spread_9 rfl ?_
        refine Tr.sipush (pc := 11) d_X9_spread_11 rfl (by decide) ?_
        refine Tr.icmp_ge (pc := 14) (tgt := 117) d_X9_spread_14 rfl (fun c14 => ?_) (fun c14 => ?_)
        · exact Tr.vret (pc := 117) d_X9_spread_117 rfl ⟨hS, rfl⟩
        · refine Tr.iload (pc := 17) (i := 6) d_X9_spread_17 rfl ?_
          refine Tr.iload_n (pc := 19) (i := 1) d_X9_spread_19 rfl rfl ?_
          refine Tr.iand (pc := 20) d_X9_spread_20 ?_
          refine Tr.gen (P := fun v => (-2147483648) ≤ v ∧ v ≤ 2147483647) (i32_b _) (fun r20 er20 br20 => ?_)
          have J111 : ∀ (M : Mem), St Tru ws_X9_spread_100 as_X9_spread_100 M0 M → Tr l K 0 mX9_spread 111 [(0, (2, 100)), (1, (0, a1)), (2, (0, a2)), (3, (0, a3)), (4, (0, a4)), (5, (0, a5)), (6, (0, p9_6))] [] M (q_X9_spread_100 M0) := by
            intro M  hS  
            refine Tr.iincV (pc := 111) (n2 := (p9_6 + 1)) (ls2 := [(6, (0, (p9_6 + 1))), (0, (2, 100)), (1, (0, a1)), (2, (0, a2)), (3, (0, a3)), (4, (0, a4)), (5, (0, a5))]) d_X9_spread_111 rfl (by decide) ((w32_id (by omega)).trans (by omega)) rfl ?_
            refine Tr.goto (pc := 114) (tgt := 9) d_X9_spread_114 rfl ?_
            refine Tr.pick [1, 2, 3, 4, 5, 6, 0] (ls2 := [(0, (2, 100)), (1, (0, a1)), (2, (0, a2)), (3, (0, a3)), (4, (0, a4)), (5, (0, a5)), (6, (0, (p9_6 + 1)))]) rfl ?_
            exact J9 _ _ hS (by omega) (by omega)
          refine Tr.if_eq (pc := 21) (tgt := 111) d_X9_spread_21 rfl (fun c21 => ?_) (fun c21 => ?_)
          · refine Tr.pick [0, 1, 2, 3, 4, 5, 6] (ls2 := [(0, (2, 100)), (1, (0, a1)), (2, (0, a2)), (3, (0, a3)), (4, (0, a4)), (5, (0, a5)), (6, (0, p9_6))]) rfl ?_
            exact J111 _ hS 
          · refine Tr.iload_n (pc := 24) (i := 2) d_X9_spread_24 rfl rfl ?_
            refine Tr.aload_n (pc := 25) (i := 0) d_X9_spread_25 rfl rfl ?_
            refine Tr.getf (pc := 26) d_X9_spread_26 f_9_15 (by decide) (by decide) (ty_100 hS.1.1) ?_
            refine Tr.tp 102 (fx_100_1 hS.1.1) ?_
            refine Tr.iload (pc := 29) (i := 6) d_X9_spread_29 rfl ?_
            refine Tr.iald (pc := 31) d_X9_spread_31 (ty_102 hS.1.1) (by omega) (by omega) ?_
            refine Tr.gen (P := fun v => (-2147483648) ≤ v ∧ v ≤ 2147483647) (ar_102 hS.1.2.1 _) (fun r31 er31 br31 => ?_)
            refine Tr.icmp_le (pc := 32) (tgt := 68) d_X9_spread_32 rfl (fun c32 => ?_) (fun c32 => ?_)
            · refine Tr.iload_n (pc := 68) (i := 3) d_X9_spread_68 rfl rfl ?_
              refine Tr.aload_n (pc := 69) (i := 0) d_X9_spread_69 rfl rfl ?_
              refine Tr.getf (pc := 70) d_X9_spread_70 f_9_15 (by decide) (by decide) (ty_100 hS.1.1) ?_
              refine Tr.tp 102 (fx_100_1 hS.1.1) ?_
              refine Tr.iload (pc := 73) (i := 6) d_X9_spread_73 rfl ?_
              refine Tr.iald (pc := 75) d_X9_spread_75 (ty_102 hS.1.1) (by omega) (by omega) ?_
              refine Tr.tp r31 er31 ?_
              refine Tr.icmp_le (pc := 76) (tgt := 111) d_X9_spread_76 rfl (fun c76 => ?_) (fun c76 => ?_)
              · refine Tr.pick [0, 1, 2, 3, 4, 5, 6] (ls2 := [(0, (2, 100)), (1, (0, a1)), (2, (0, a2)), (3, (0, a3)), (4, (0, a4)), (5, (0, a5)), (6, (0, p9_6))]) rfl ?_
                exact J111 _ hS 
              · refine Tr.aload_n (pc := 79) (i := 0) d_X9_spread_79 rfl rfl ?_
                refine Tr.getf (pc := 80) d_X9_spread_80 f_9_11 (by decide) (by decide) (ty_100 hS.1.1) ?_
                refine Tr.tp 101 (fx_100_0 hS.1.1) ?_
                refine Tr.iload (pc := 83) (i := 6) d_X9_spread_83 rfl ?_
                refine Tr.dup2 (pc := 85) d_X9_spread_85 ne01 ne21 ?_
                refine Tr.lald (pc := 86) d_X9_spread_86 (ty_101 hS.1.1) (by omega) (by omega) ?_
                refine Tr.gen (P := fun v => (-9223372036854775808) ≤ v ∧ v ≤ 9223372036854775807) (ar_101 hS.1.2.1 _) (fun r86 er86 br86 => ?_)
                refine Tr.iload (pc := 87) (i := 4) d_X9_spread_87 rfl ?_
                refine Tr.i2l (pc := 89) d_X9_spread_89 ?_
                refine Tr.iload_n (pc := 90) (i := 3) d_X9_spread_90 rfl rfl ?_
                refine Tr.aload_n (pc := 91) (i := 0) d_X9_spread_91 rfl rfl ?_
                refine Tr.getf (pc := 92) d_X9_spread_92 f_9_15 (by decide) (by decide) (ty_100 hS.1.1) ?_
                refine Tr.tp 102 (fx_100_1 hS.1.1) ?_
                refine Tr.iload (pc := 95) (i := 6) d_X9_spread_95 rfl ?_
                refine Tr.iald (pc := 97) d_X9_spread_97 (ty_102 hS.1.1) (by omega) (by omega) ?_
                refine Tr.tp r31 er31 ?_
                refine Tr.isub (pc := 98) d_X9_spread_98 ?_
                refine Tr.gen (P := fun v => (-2147483648) ≤ v ∧ v ≤ 2147483647) (w32_b _) (fun r98 er98 br98 => ?_)
                refine Tr.i2l (pc := 99) d_X9_spread_99 ?_
                refine Tr.lmul (pc := 100) d_X9_spread_100 ?_
                refine Tr.gen (P := fun v => (-9223372036854775808) ≤ v ∧ v ≤ 9223372036854775807) (w64_b _) (fun r100 er100 br100 => ?_)
                refine Tr.ladd (pc := 101) d_X9_spread_101 ?_
                refine Tr.gen (P := fun v => (-9223372036854775808) ≤ v ∧ v ≤ 9223372036854775807) (w64_b _) (fun r101 er101 br101 => ?_)
                refine Tr.lastS (pc := 102) (P := St Tru ws_X9_spread_100 as_X9_spread_100 M0) d_X9_spread_102 (ty_101 hS.1.1) (by omega) (by omega) (sa_101 hS (by decide) (by omega) trivial) (fun M102 hS w102 => ?_)
                refine Tr.aload_n (pc := 103) (i := 0) d_X9_spread_103 rfl rfl ?_
                refine Tr.getf (pc := 104) d_X9_spread_104 f_9_15 (by decide) (by decide) (ty_100 hS.1.1) ?_
                refine Tr.tp 102 (fx_100_1 hS.1.1) ?_
                refine Tr.iload (pc := 107) (i := 6) d_X9_spread_107 rfl ?_
                refine Tr.iload_n (pc := 109) (i := 3) d_X9_spread_109 rfl rfl ?_
                refine Tr.iastS (pc := 110) (P := St Tru ws_X9_spread_100 as_X9_spread_100 M0) d_X9_spread_110 (ty_102 hS.1.1) (by omega) (by omega) (sa_102 hS (by decide) (by omega) trivial) (fun M110 hS w110 => ?_)
                refine Tr.pick [0, 1, 2, 3, 4, 5, 6] (ls2 := [(0, (2, 100)), (1, (0, a1)), (2, (0, a2)), (3, (0, a3)), (4, (0, a4)), (5, (0, a5)), (6, (0, p9_6))]) rfl ?_
                exact J111 _ hS 
            · refine Tr.aload_n (pc := 35) (i := 0) d_X9_spread_35 rfl rfl ?_
              refine Tr.getf (pc := 36) d_X9_spread_36 f_9_11 (by decide) (by decide) (ty_100 hS.1.1) ?_
              refine Tr.tp 101 (fx_100_0 hS.1.1) ?_
              refine Tr.iload (pc := 39) (i := 6) d_X9_spread_39 rfl ?_
              refine Tr.dup2 (pc := 41) d_X9_spread_41 ne01 ne21 ?_
              refine Tr.lald (pc := 42) d_X9_spread_42 (ty_101 hS.1.1) (by omega) (by omega) ?_
              refine Tr.gen (P := fun v => (-9223372036854775808) ≤ v ∧ v ≤ 9223372036854775807) (ar_101 hS.1.2.1 _) (fun r42 er42 br42 => ?_)
              refine Tr.iload (pc := 43) (i := 5) d_X9_spread_43 rfl ?_
              refine Tr.i2l (pc := 45) d_X9_spread_45 ?_
              refine Tr.iload (pc := 46) (i := 4) d_X9_spread_46 rfl ?_
              refine Tr.i2l (pc := 48) d_X9_spread_48 ?_
              refine Tr.iload_n (pc := 49) (i := 3) d_X9_spread_49 rfl rfl ?_
              refine Tr.iload_n (pc := 50) (i := 2) d_X9_spread_50 rfl rfl ?_
              refine Tr.isub (pc := 51) d_X9_spread_51 ?_
              refine Tr.gen (P := fun v => (-2147483648) ≤ v ∧ v ≤ 2147483647) (w32_b _) (fun r51 er51 br51 => ?_)
              refine Tr.i2l (pc := 52) d_X9_spread_52 ?_
              refine Tr.lmul (pc := 53) d_X9_spread_53 ?_
              refine Tr.gen (P := fun v => (-9223372036854775808) ≤ v ∧ v ≤ 9223372036854775807) (w64_b _) (fun r53 er53 br53 => ?_)
              refine Tr.ladd (pc := 54) d_X9_spread_54 ?_
              refine Tr.gen (P := fun v => (-9223372036854775808) ≤ v ∧ v ≤ 9223372036854775807) (w64_b _) (fun r54 er54 br54 => ?_)
              refine Tr.ladd (pc := 55) d_X9_spread_55 ?_
              refine Tr.gen (P := fun v => (-9223372036854775808) ≤ v ∧ v ≤ 9223372036854775807) (w64_b _) (fun r55 er55 br55 => ?_)
              refine Tr.lastS (pc := 56) (P := St Tru ws_X9_spread_100 as_X9_spread_100 M0) d_X9_spread_56 (ty_101 hS.1.1) (by omega) (by omega) (sa_101 hS (by decide) (by omega) trivial) (fun M56 hS w56 => ?_)
              refine Tr.aload_n (pc := 57) (i := 0) d_X9_spread_57 rfl rfl ?_
              refine Tr.getf (pc := 58) d_X9_spread_58 f_9_15 (by decide) (by decide) (ty_100 hS.1.1) ?_
              refine Tr.tp 102 (fx_100_1 hS.1.1) ?_
              refine Tr.iload (pc := 61) (i := 6) d_X9_spread_61 rfl ?_
              refine Tr.iload_n (pc := 63) (i := 3) d_X9_spread_63 rfl rfl ?_
              refine Tr.iastS (pc := 64) (P := St Tru ws_X9_spread_100 as_X9_spread_100 M0) d_X9_spread_64 (ty_102 hS.1.1) (by omega) (by omega) (sa_102 hS (by decide) (by omega) trivial) (fun M64 hS w64 => ?_)
              refine Tr.goto (pc := 65) (tgt := 111) d_X9_spread_65 rfl ?_
              refine Tr.pick [0, 1, 2, 3, 4, 5, 6] (ls2 := [(0, (2, 100)), (1, (0, a1)), (2, (0, a2)), (3, (0, a3)), (4, (0, a4)), (5, (0, a5)), (6, (0, p9_6))]) rfl ?_
              exact J111 _ hS 
    refine Tr.pick [1, 2, 3, 4, 5, 6, 0] (ls2 := [(0, (2, 100)), (1, (0, a1)), (2, (0, a2)), (3, (0, a3)), (4, (0, a4)), (5, (0, a5)), (6, (0, 1))]) rfl ?_
    exact J9 _ _ _ hS (by omega) (Nat.lt_succ_self _)
  · exact Tr.vret (pc := 5) d_X9_spread_5 rfl ⟨hS, rfl⟩

def ws_X9_weigh_100_7_63 : List (Int × Int) := [(100, 2), (100, 3)]
def as_X9_weigh_100_7_63 : List Int := [101, 102]
def q_X9_weigh_100_7_63 (a3 : Int) (M0 M' : Mem) (r : Option PV) : Prop := St Tru ws_X9_weigh_100_7_63 as_X9_weigh_100_7_63 M0 M' ∧ r = none ∧ (TU M' a3 ∧ rd M' 100 3 = a3)
set_option maxRecDepth 100000 in
set_option maxHeartbeats 4000000 in
theorem sp_X9_weigh_100_7_63 {l : Launch} {K : EC} {M0 : Mem} (hI : In Tru M0)  (a3 : Int) (ha3 : 0 ≤ a3 ∧ a3 ≤ 2016)  (hq0 : a3 < rd M0 63 0) (hq1 : TW M0) : Tr l K 3 mX9_weigh 0 [(0, (2, 100)), (1, (2, 7)), (2, (2, 63)), (3, (0, a3))] [] M0 (q_X9_weigh_100_7_63 a3 M0) := by
  have hS : St Tru ws_X9_weigh_100_7_63 as_X9_weigh_100_7_63 M0 M0 := St.rf hI
  obtain ⟨g63_1, eg63_1⟩ : ∃ v, rd M0 63 1 = v := ⟨_, rfl⟩
  have bg63_1 : (-1000000000) ≤ g63_1 ∧ g63_1 ≤ 1000000000 := by rw [← eg63_1]; exact ir_63_1 hI.2.1
  obtain ⟨g63_0, eg63_0⟩ : ∃ v, rd M0 63 0 = v := ⟨_, rfl⟩
  have bg63_0 : (-2147483648) ≤ g63_0 ∧ g63_0 ≤ 2147483647 := by rw [← eg63_0]; exact ir_63_0 hI.2.1
  obtain ⟨g63_7, eg63_7⟩ : ∃ v, rd M0 63 7 = v := ⟨_, rfl⟩
  have bg63_7 : (-2147483648) ≤ g63_7 ∧ g63_7 ≤ 2147483647 := by rw [← eg63_7]; exact ir_63_7 hI.2.1
  refine Tr.aload_n (pc := 0) (i := 0) d_X9_weigh_0 rfl rfl ?_
  refine Tr.getf (pc := 1) d_X9_weigh_1 f_9_19 (by decide) (by decide) (ty_100 hS.1.1) ?_
  refine Tr.gen (P := fun v => (-2147483648) ≤ v ∧ v ≤ 2147483647) (ir_100_3 hS.1.2.1) (fun r1 er1 br1 => ?_)
  refine Tr.iload_n (pc := 4) (i := 3) d_X9_weigh_4 rfl rfl ?_
  refine Tr.icmp_ne (pc := 5) (tgt := 9) d_X9_weigh_5 rfl (fun c5 => ?_) (fun c5 => ?_)
  · refine Tr.aload_n (pc := 9) (i := 0) d_X9_weigh_9 rfl rfl ?_
    refine Tr.iload_n (pc := 10) (i := 3) d_X9_weigh_10 rfl rfl ?_
    refine Tr.putfS (pc := 11) (P := St Tru ws_X9_weigh_100_7_63 as_X9_weigh_100_7_63 M0) d_X9_weigh_11 f_9_19 (by decide) (by decide) (ty_100 hS.1.1) (st_100_3 hS (by decide) (by omega) trivial) (fun M11 hS w11 => ?_)
    refine Tr.aload_n (pc := 14) (i := 0) d_X9_weigh_14 rfl rfl ?_
    refine Tr.aload_n (pc := 15) (i := 2) d_X9_weigh_15 rfl rfl ?_
    refine Tr.getf (pc := 16) d_X9_weigh_16 f_9_23 (by decide) (by decide) (ty_63 hS.1.1) ?_
    refine Tr.gen (P := fun v => v = tref g63_1 5) (tl_ref hS ((Wr.b w11 rfl).trans eg63_1) (by decide)) (fun t16 et16 bt16 => ?_)
    refine Tr.iload_n (pc := 19) (i := 3) d_X9_weigh_19 rfl rfl ?_
    have nk20_0 : rd M11 63 0 = g63_0 := ((Wr.b w11 rfl).trans eg63_0)
    have nk20_7 : rd M11 63 7 = g63_7 := ((Wr.b w11 rfl).trans eg63_7)
    have nn20 := tl_n hS ((Wr.b w11 rfl).trans eg63_1)
    refine Tr.lald (pc := 20) d_X9_weigh_20 (tl_tyL hS ((Wr.b w11 rfl).trans eg63_1) bt16) (by omega) (by omega) ?_
    refine Tr.gen (P := fun v => (-9223372036854775808) ≤ v ∧ v ≤ 9223372036854775807) (tl_eL hS ((Wr.b w11 rfl).trans eg63_1) bt16 (by omega) (by omega)) (fun r20 er20 br20 => ?_)
    refine Tr.putfS (pc := 21) (P := St Tru ws_X9_weigh_100_7_63 as_X9_weigh_100_7_63 M0) d_X9_weigh_21 f_9_28 (by decide) (by decide) (ty_100 hS.1.1) (st_100_2 hS (by decide) (by omega) trivial) (fun M21 hS w21 => ?_)
    have htu := TU.new (a := a3) hS w21 (by rw [et16]; exact er20)
    refine Tr.aload_n (pc := 24) (i := 0) d_X9_weigh_24 rfl rfl ?_
    refine Tr.getf (pc := 25) d_X9_weigh_25 f_9_11 (by decide) (by decide) (ty_100 hS.1.1) ?_
    refine Tr.tp 101 (fx_100_0 hS.1.1) ?_
    refine Tr.lconst (pc := 28) (v := 0) d_X9_weigh_28 rfl (by decide) ?_
    refine Tr.callS (pc := 29) (as := [_, _]) d_X9_weigh_29 s_9_31 ok_J7_fill_d0a16 rfl rfl (Nat.le_of_ble_eq_true rfl) (Nat.le_of_ble_eq_true rfl) ?_
    refine Tr.imp (Tr.deep (by decide) (sp_J7_fill_d0a16_101 hS.1 0 (by omega))) ?_
    rintro M29 _ ⟨h29, rfl⟩
    have hS := St.tr hS h29 (by decide) (by decide)
    refine Tr.sc [] rfl ?_
    refine Tr.aload_n (pc := 32) (i := 0) d_X9_weigh_32 rfl rfl ?_
    refine Tr.getf (pc := 33) d_X9_weigh_33 f_9_15 (by decide) (by decide) (ty_100 hS.1.1) ?_
    refine Tr.tp 102 (fx_100_1 hS.1.1) ?_
    refine Tr.iconst (pc := 36) d_X9_weigh_36 (by decide) ?_
    refine Tr.callS (pc := 37) (as := [_, _]) d_X9_weigh_37 s_9_37 ok_J7_fill_53178 rfl rfl (Nat.le_of_ble_eq_true rfl) (Nat.le_of_ble_eq_true rfl) ?_
    refine Tr.imp (sp_fill (N := 256) (ty_102 hS.1.1) (by decide)) ?_
    rintro _ _ ⟨rfl, rfl⟩
    refine Tr.nmA (P := St Tru ws_X9_weigh_100_7_63 as_X9_weigh_100_7_63 M0) (sf_102 (v := (-1)) 256 hS (by decide) (by omega) trivial) (fil_wa _ _ _ _) (fun M37 hS w37 => ?_)
    refine Tr.sc [] rfl ?_
    refine Tr.aload_n (pc := 40) (i := 2) d_X9_weigh_40 rfl rfl ?_
    refine Tr.getf (pc := 41) d_X9_weigh_41 f_9_40 (by decide) (by decide) (ty_63 hS.1.1) ?_
    refine Tr.gen (P := fun v => v = tref g63_1 1) (tl_ref hS ((Wa.b w37 rfl).trans ((St.kp h29 (by decide) (by decide) (by decide)).trans ((Wr.b w21 rfl).trans ((Wr.b w11 rfl).trans eg63_1)))) (by decide)) (fun t41 et41 bt41 => ?_)
    refine Tr.iload_n (pc := 44) (i := 3) d_X9_weigh_44 rfl rfl ?_
    have nk45_0 : rd M37 63 0 = g63_0 := ((Wa.b w37 rfl).trans ((St.kp h29 (by decide) (by decide) (by decide)).trans ((Wr.b w21 rfl).trans ((Wr.b w11 rfl).trans eg63_0))))
    have nk45_7 : rd M37 63 7 = g63_7 := ((Wa.b w37 rfl).trans ((St.kp h29 (by decide) (by decide) (by decide)).trans ((Wr.b w21 rfl).trans ((Wr.b w11 rfl).trans eg63_7))))
    have nn45 := tl_n hS ((Wa.b w37 rfl).trans ((St.kp h29 (by decide) (by decide) (by decide)).trans ((Wr.b w21 rfl).trans ((Wr.b w11 rfl).trans eg63_1))))
    refine Tr.iald (pc := 45) d_X9_weigh_45 (tl_tyI hS ((Wa.b w37 rfl).trans ((St.kp h29 (by decide) (by decide) (by decide)).trans ((Wr.b w21 rfl).trans ((Wr.b w11 rfl).trans eg63_1)))) (j := 1) (by decide) (by decide) bt41) (by omega) (by omega) ?_
    refine Tr.gen (P := fun v => 0 ≤ v ∧ v ≤ 5) (tl_eP hS ((Wa.b w37 rfl).trans ((St.kp h29 (by decide) (by decide) (by decide)).trans ((Wr.b w21 rfl).trans ((Wr.b w11 rfl).trans eg63_1)))) (j := 1) (by decide) (by decide) bt41 (by omega) (by omega)) (fun r45 er45 br45 => ?_)
    refine Tr.istore (pc := 46) (i := 4) (ls2 := [(4, (0, r45)), (0, (2, 100)), (1, (2, 7)), (2, (2, 63)), (3, (0, a3))]) d_X9_weigh_46 (by decide) rfl ?_
    refine Tr.aload_n (pc := 48) (i := 1) d_X9_weigh_48 rfl rfl ?_
    refine Tr.getf (pc := 49) d_X9_weigh_49 f_9_43 (by decide) (by decide) (ty_7 hS.1.1) ?_
    refine Tr.tp 9 (fx_7_5 hS.1.1) ?_
    refine Tr.iload (pc := 52) (i := 4) d_X9_weigh_52 rfl ?_
    refine Tr.iconst (pc := 54) d_X9_weigh_54 (by decide) ?_
    refine Tr.imul (pc := 55) d_X9_weigh_55 ?_
    refine Tr.tp (4 * r45) ((w32_id (by omega)).trans (by omega)) ?_
    refine Tr.iconst (pc := 56) d_X9_weigh_56 (by decide) ?_
    refine Tr.iadd (pc := 57) d_X9_weigh_57 ?_
    refine Tr.tp (4 * r45 + 2) ((w32_id (by omega)).trans (by omega)) ?_
    refine Tr.iald (pc := 58) d_X9_weigh_58 (ty_9 hS.1.1) (by omega) (by omega) ?_
    refine Tr.gen (P := fun v => (-1) ≤ v ∧ v ≤ 999) (ar_9 hS.1.2.1 _) (fun r58 er58 br58 => ?_)
    refine Tr.istore (pc := 59) (i := 5) (ls2 := [(5, (0, r58)), (4, (0, r45)), (0, (2, 100)), (1, (2, 7)), (2, (2, 63)), (3, (0, a3))]) d_X9_weigh_59 (by decide) rfl ?_
    refine Tr.aload_n (pc := 61) (i := 1) d_X9_weigh_61 rfl rfl ?_
    refine Tr.iload (pc := 62) (i := 4) d_X9_weigh_62 rfl ?_
    refine Tr.callV (pc := 64) (as := [_]) d_X9_weigh_64 s_9_48 ok_X3_wakeCost rfl rfl (Nat.le_of_ble_eq_true rfl) (Nat.le_of_ble_eq_true rfl) (by decide) (ty_7 hS.1.1) ?_
    refine Tr.imp (Tr.deep (by decide) (sp_X3_wakeCost_7 hS.1 r45 (by omega))) ?_
    rintro M64 _ ⟨h64, r64, rfl, lr64, ur64⟩
    have hS := St.tr hS h64 (by decide) (by decide)
    refine Tr.sc [(0, r64)] rfl ?_
    refine Tr.istore (pc := 67) (i := 6) (ls2 := [(6, (0, r64)), (5, (0, r58)), (4, (0, r45)), (0, (2, 100)), (1, (2, 7)), (2, (2, 63)), (3, (0, a3))]) d_X9_weigh_67 (by decide) rfl ?_
    refine Tr.iconst (pc := 69) d_X9_weigh_69 (by decide) ?_
    refine Tr.istore (pc := 70) (i := 7) (ls2 := [(7, (0, 0)), (6, (0, r64)), (5, (0, r58)), (4, (0, r45)), (0, (2, 100)), (1, (2, 7)), (2, (2, 63)), (3, (0, a3))]) d_X9_weigh_70 (by decide) rfl ?_
    have J72 : ∀ (n72 : Nat) (M : Mem) (p72_7 : Int), St Tru ws_X9_weigh_100_7_63 as_X9_weigh_100_7_63 M0 M → (0 ≤ p72_7 ∧ p72_7 ≤ 2016) → rd M 100 2 = r20 → rd M 100 3 = a3 → rd M 63 0 = g63_0 → rd M 63 1 = g63_1 → rd M 63 7 = g63_7 → rd M 9 (4 * r45 + 2) = r58 → (TU M a3) → (2016 - p72_7).toNat < n72 → Tr l K 3 mX9_weigh 72 [(0, (2, 100)), (1, (2, 7)), (2, (2, 63)), (3, (0, a3)), (4, (0, r45)), (5, (0, r58)), (6, (0, r64)), (7, (0, p72_7))] [] M (q_X9_weigh_100_7_63 a3 M0) := by
      intro n72
      induction n72 with
      | zero => intro M p72_7 hS bp72_7 k72_100_2 k72_100_3 k72_63_0 k72_63_1 k72_63_7 k72_9_r4542 tp72_0 hm72; exact absurd hm72 (Nat.not_lt_zero _)
      | succ n72 J72 =>
        intro M p72_7 hS bp72_7 k72_100_2 k72_100_3 k72_63_0 k72_63_1 k72_63_7 k72_9_r4542 tp72_0 hm72
        refine Tr.iload (pc := 72) (i := 7) d_X9_weigh_72 rfl ?_
        refine Tr.aload_n (pc := 74) (i := 2) d_X9_weigh_74 rfl rfl ?_
        refine Tr.getf (pc := 75) d_X9_weigh_75 f_9_52 (by decide) (by decide) (ty_63 hS.1.1) ?_
        refine Tr.tp g63_7 k72_63_7 ?_
        refine Tr.icmp_ge (pc := 78) (tgt := 179) d_X9_weigh_78 rfl (fun c78 => ?_) (fun c78 => ?_)
        · have kz_100_3 : rd M 100 3 = a3 := k72_100_3
          exact Tr.vret (pc := 179) d_X9_weigh_179 rfl ⟨hS, rfl, ⟨tp72_0, by omega⟩⟩
        · refine Tr.aload_n (pc := 81) (i := 2) d_X9_weigh_81 rfl rfl ?_
          refine Tr.getf (pc := 82) d_X9_weigh_82 f_9_55 (by decide) (by decide) (ty_63 hS.1.1) ?_
          refine Tr.gen (P := fun v => v = tref g63_1 10) (tl_ref hS k72_63_1 (by decide)) (fun t82 et82 bt82 => ?_)
          refine Tr.iload (pc := 85) (i := 7) d_X9_weigh_85 rfl ?_
          have nk87_0 : rd M 63 0 = g63_0 := k72_63_0
          have nk87_7 : rd M 63 7 = g63_7 := k72_63_7
          have nn87 := tl_n hS k72_63_1
          refine Tr.iald (pc := 87) d_X9_weigh_87 (tl_tyI hS k72_63_1 (j := 10) (by decide) (by decide) bt82) (by omega) (by omega) ?_
          refine Tr.gen (P := fun v => (-2147483648) ≤ v ∧ v ≤ 2147483647) (tl_eI hS k72_63_1 (j := 10) (by decide) (by decide) bt82 (by omega) (by omega)) (fun r87 er87 br87 => ?_)
          refine Tr.istore (pc := 88) (i := 8) (ls2 := [(8, (0, r87)), (0, (2, 100)), (1, (2, 7)), (2, (2, 63)), (3, (0, a3)), (4, (0, r45)), (5, (0, r58)), (6, (0, r64)), (7, (0, p72_7))]) d_X9_weigh_88 (by decide) rfl ?_
          refine Tr.aload_n (pc := 90) (i := 2) d_X9_weigh_90 rfl rfl ?_
          refine Tr.getf (pc := 91) d_X9_weigh_91 f_9_58 (by decide) (by decide) (ty_63 hS.1.1) ?_
          refine Tr.gen (P := fun v => v = tref g63_1 8) (tl_ref hS k72_63_1 (by decide)) (fun t91 et91 bt91 => ?_)
          refine Tr.iload (pc := 94) (i := 7) d_X9_weigh_94 rfl ?_
          have nk96_0 : rd M 63 0 = g63_0 := k72_63_0
          have nk96_7 : rd M 63 7 = g63_7 := k72_63_7
          have nn96 := tl_n hS k72_63_1
          refine Tr.iald (pc := 96) d_X9_weigh_96 (tl_tyI hS k72_63_1 (j := 8) (by decide) (by decide) bt91) (by omega) (by omega) ?_
          refine Tr.gen (P := fun v => 0 ≤ v ∧ v ≤ 5) (tl_eP hS k72_63_1 (j := 8) (by decide) (by decide) bt91 (by omega) (by omega)) (fun r96 er96 br96 => ?_)
          refine Tr.iload (pc := 97) (i := 4) d_X9_weigh_97 rfl ?_
          have J173 : ∀ (M : Mem), St Tru ws_X9_weigh_100_7_63 as_X9_weigh_100_7_63 M0 M → rd M 100 2 = r20 → rd M 100 3 = a3 → rd M 63 0 = g63_0 → rd M 63 1 = g63_1 → rd M 63 7 = g63_7 → rd M 9 (4 * r45 + 2) = r58 → (TU M a3) → Tr l K 3 mX9_weigh 173 [(0, (2, 100)), (1, (2, 7)), (2, (2, 63)), (3, (0, a3)), (4, (0, r45)), (5, (0, r58)), (6, (0, r64)), (7, (0, p72_7))] [] M (q_X9_weigh_100_7_63 a3 M0) := by
            intro M  hS  k173_100_2 k173_100_3 k173_63_0 k173_63_1 k173_63_7 k173_9_r4542 tp173_0
            refine Tr.iincV (pc := 173) (n2 := (p72_7 + 1)) (ls2 := [(7, (0, (p72_7 + 1))), (0, (2, 100)), (1, (2, 7)), (2, (2, 63)), (3, (0, a3)), (4, (0, r45)), (5, (0, r58)), (6, (0, r64))]) d_X9_weigh_173 rfl (by decide) ((w32_id (by omega)).trans (by omega)) rfl ?_
            refine Tr.goto (pc := 176) (tgt := 72) d_X9_weigh_176 rfl ?_
            refine Tr.pick [1, 2, 3, 4, 5, 6, 7, 0] (ls2 := [(0, (2, 100)), (1, (2, 7)), (2, (2, 63)), (3, (0, a3)), (4, (0, r45)), (5, (0, r58)), (6, (0, r64)), (7, (0, (p72_7 + 1)))]) rfl ?_
            exact J72 _ _ hS (by omega) k173_100_2 k173_100_3 k173_63_0 k173_63_1 k173_63_7 k173_9_r4542 tp173_0 (by omega)
          refine Tr.icmp_ne (pc := 99) (tgt := 173) d_X9_weigh_99 rfl (fun c99 => ?_) (fun c99 => ?_)
          · refine Tr.pick [1, 2, 3, 4, 5, 6, 7, 8] (ls2 := [(0, (2, 100)), (1, (2, 7)), (2, (2, 63)), (3, (0, a3)), (4, (0, r45)), (5, (0, r58)), (6, (0, r64)), (7, (0, p72_7))]) rfl ?_
            exact J173 _ hS k72_100_2 k72_100_3 k72_63_0 k72_63_1 k72_63_7 k72_9_r4542 tp72_0
          · refine Tr.iload (pc := 102) (i := 8) d_X9_weigh_102 rfl ?_
            refine Tr.aload_n (pc := 104) (i := 2) d_X9_weigh_104 rfl rfl ?_
            refine Tr.getf (pc := 105) d_X9_weigh_105 f_9_61 (by decide) (by decide) (ty_63 hS.1.1) ?_
            refine Tr.gen (P := fun v => v = tref g63_1 2) (tl_ref hS k72_63_1 (by decide)) (fun t105 et105 bt105 => ?_)
            refine Tr.iload_n (pc := 108) (i := 3) d_X9_weigh_108 rfl rfl ?_
            have nk109_0 : rd M 63 0 = g63_0 := k72_63_0
            have nk109_7 : rd M 63 7 = g63_7 := k72_63_7
            have nn109 := tl_n hS k72_63_1
            refine Tr.iald (pc := 109) d_X9_weigh_109 (tl_tyI hS k72_63_1 (j := 2) (by decide) (by decide) bt105) (by omega) (by omega) ?_
            refine Tr.gen (P := fun v => (-2147483648) ≤ v ∧ v ≤ 2147483647) (tl_eI hS k72_63_1 (j := 2) (by decide) (by decide) bt105 (by omega) (by omega)) (fun r109 er109 br109 => ?_)
            refine Tr.icmp_lt (pc := 110) (tgt := 173) d_X9_weigh_110 rfl (fun c110 => ?_) (fun c110 => ?_)
            · refine Tr.pick [1, 2, 3, 4, 5, 6, 7, 8] (ls2 := [(0, (2, 100)), (1, (2, 7)), (2, (2, 63)), (3, (0, a3)), (4, (0, r45)), (5, (0, r58)), (6, (0, r64)), (7, (0, p72_7))]) rfl ?_
              exact J173 _ hS k72_100_2 k72_100_3 k72_63_0 k72_63_1 k72_63_7 k72_9_r4542 tp72_0
            · refine Tr.iload (pc := 113) (i := 8) d_X9_weigh_113 rfl ?_
              refine Tr.aload_n (pc := 115) (i := 2) d_X9_weigh_115 rfl rfl ?_
              refine Tr.getf (pc := 116) d_X9_weigh_116 f_9_64 (by decide) (by decide) (ty_63 hS.1.1) ?_
              refine Tr.gen (P := fun v => v = tref g63_1 3) (tl_ref hS k72_63_1 (by decide)) (fun t116 et116 bt116 => ?_)
              refine Tr.iload_n (pc := 119) (i := 3) d_X9_weigh_119 rfl rfl ?_
              have nk120_0 : rd M 63 0 = g63_0 := k72_63_0
              have nk120_7 : rd M 63 7 = g63_7 := k72_63_7
              have nn120 := tl_n hS k72_63_1
              refine Tr.iald (pc := 120) d_X9_weigh_120 (tl_tyI hS k72_63_1 (j := 3) (by decide) (by decide) bt116) (by omega) (by omega) ?_
              refine Tr.gen (P := fun v => (-2147483648) ≤ v ∧ v ≤ 2147483647) (tl_eI hS k72_63_1 (j := 3) (by decide) (by decide) bt116 (by omega) (by omega)) (fun r120 er120 br120 => ?_)
              refine Tr.icmp_ge (pc := 121) (tgt := 173) d_X9_weigh_121 rfl (fun c121 => ?_) (fun c121 => ?_)
              · refine Tr.pick [1, 2, 3, 4, 5, 6, 7, 8] (ls2 := [(0, (2, 100)), (1, (2, 7)), (2, (2, 63)), (3, (0, a3)), (4, (0, r45)), (5, (0, r58)), (6, (0, r64)), (7, (0, p72_7))]) rfl ?_
                exact J173 _ hS k72_100_2 k72_100_3 k72_63_0 k72_63_1 k72_63_7 k72_9_r4542 tp72_0
              · refine Tr.aload_n (pc := 124) (i := 2) d_X9_weigh_124 rfl rfl ?_
                refine Tr.getf (pc := 125) d_X9_weigh_125 f_9_67 (by decide) (by decide) (ty_63 hS.1.1) ?_
                refine Tr.gen (P := fun v => v = tref g63_1 11) (tl_ref hS k72_63_1 (by decide)) (fun t125 et125 bt125 => ?_)
                refine Tr.iload (pc := 128) (i := 7) d_X9_weigh_128 rfl ?_
                have nk130_0 : rd M 63 0 = g63_0 := k72_63_0
                have nk130_7 : rd M 63 7 = g63_7 := k72_63_7
                have nn130 := tl_n hS k72_63_1
                refine Tr.iald (pc := 130) d_X9_weigh_130 (tl_tyI hS k72_63_1 (j := 11) (by decide) (by decide) bt125) (by omega) (by omega) ?_
                refine Tr.gen (P := fun v => (-2147483648) ≤ v ∧ v ≤ 2147483647) (tl_eI hS k72_63_1 (j := 11) (by decide) (by decide) bt125 (by omega) (by omega)) (fun r130 er130 br130 => ?_)
                refine Tr.aload_n (pc := 131) (i := 1) d_X9_weigh_131 rfl rfl ?_
                refine Tr.getf (pc := 132) d_X9_weigh_132 f_9_70 (by decide) (by decide) (ty_7 hS.1.1) ?_
                refine Tr.tp 11 (fx_7_7 hS.1.1) ?_
                refine Tr.iload (pc := 135) (i := 4) d_X9_weigh_135 rfl ?_
                refine Tr.iald (pc := 137) d_X9_weigh_137 (ty_11 hS.1.1) (by omega) (by omega) ?_
                refine Tr.gen (P := fun v => 0 ≤ v ∧ v ≤ 50) (ar_11 hS.1.2.1 _) (fun r137 er137 br137 => ?_)
                refine Tr.iadd (pc := 138) d_X9_weigh_138 ?_
                refine Tr.gen (P := fun v => (-2147483648) ≤ v ∧ v ≤ 2147483647) (w32_b _) (fun r138 er138 br138 => ?_)
                refine Tr.aload_n (pc := 139) (i := 2) d_X9_weigh_139 rfl rfl ?_
                refine Tr.getf (pc := 140) d_X9_weigh_140 f_9_64 (by decide) (by decide) (ty_63 hS.1.1) ?_
                refine Tr.gen (P := fun v => v = tref g63_1 3) (tl_ref hS k72_63_1 (by decide)) (fun t140 et140 bt140 => ?_)
                refine Tr.iload_n (pc := 143) (i := 3) d_X9_weigh_143 rfl rfl ?_
                have nk144_0 : rd M 63 0 = g63_0 := k72_63_0
                have nk144_7 : rd M 63 7 = g63_7 := k72_63_7
                have nn144 := tl_n hS k72_63_1
                refine Tr.iald (pc := 144) d_X9_weigh_144 (tl_tyI hS k72_63_1 (j := 3) (by decide) (by decide) bt140) (by omega) (by omega) ?_
                refine Tr.gen (P := fun v => (-2147483648) ≤ v ∧ v ≤ 2147483647) (tl_eI hS k72_63_1 (j := 3) (by decide) (by decide) bt140 (by omega) (by omega)) (fun r144 er144 br144 => ?_)
                refine Tr.mmin (pc := 145) d_X9_weigh_145 ml_9_73 mw_mmin (Nat.le_of_ble_eq_true rfl) ?_
                refine Tr.gen (P := fun v => (v = r138 ∧ r138 ≤ r144) ∨ (v = r144 ∧ r144 ≤ r138)) (f_min_p _ _) (fun r145 er145 br145 => ?_)
                refine Tr.istore (pc := 148) (i := 9) (ls2 := [(9, (0, r145)), (8, (0, r87)), (0, (2, 100)), (1, (2, 7)), (2, (2, 63)), (3, (0, a3)), (4, (0, r45)), (5, (0, r58)), (6, (0, r64)), (7, (0, p72_7))]) d_X9_weigh_148 (by decide) rfl ?_
                refine Tr.aload_n (pc := 150) (i := 0) d_X9_weigh_150 rfl rfl ?_
                refine Tr.aload_n (pc := 151) (i := 0) d_X9_weigh_151 rfl rfl ?_
                refine Tr.aload_n (pc := 152) (i := 2) d_X9_weigh_152 rfl rfl ?_
                refine Tr.getf (pc := 153) d_X9_weigh_153 f_9_79 (by decide) (by decide) (ty_63 hS.1.1) ?_
                refine Tr.gen (P := fun v => v = tref g63_1 9) (tl_ref hS k72_63_1 (by decide)) (fun t153 et153 bt153 => ?_)
                refine Tr.iload (pc := 156) (i := 7) d_X9_weigh_156 rfl ?_
                have nk158_0 : rd M 63 0 = g63_0 := k72_63_0
                have nk158_7 : rd M 63 7 = g63_7 := k72_63_7
                have nn158 := tl_n hS k72_63_1
                refine Tr.iald (pc := 158) d_X9_weigh_158 (tl_tyI hS k72_63_1 (j := 9) (by decide) (by decide) bt153) (by omega) (by omega) ?_
                refine Tr.gen (P := fun v => (-2147483648) ≤ v ∧ v ≤ 2147483647) (tl_eI hS k72_63_1 (j := 9) (by decide) (by decide) bt153 (by omega) (by omega)) (fun r158 er158 br158 => ?_)
                refine Tr.callV (pc := 159) (as := [_]) d_X9_weigh_159 s_9_82 ok_X9_bitOf rfl rfl (Nat.le_of_ble_eq_true rfl) (Nat.le_of_ble_eq_true rfl) (by decide) (ty_100 hS.1.1) ?_
                refine Tr.imp (Tr.deep (by decide) (sp_X9_bitOf_100 hS.1 r158 (by omega))) ?_
                rintro M159 _ ⟨h159, r159, rfl, lr159, ur159, z159_0⟩
                have hS := St.tr hS h159 (by decide) (by decide)
                refine Tr.sc [(0, r159), (2, 100)] rfl ?_
                refine Tr.iload (pc := 162) (i := 8) d_X9_weigh_162 rfl ?_
                refine Tr.iload (pc := 164) (i := 9) d_X9_weigh_164 rfl ?_
                refine Tr.iload (pc := 166) (i := 5) d_X9_weigh_166 rfl ?_
                refine Tr.iload (pc := 168) (i := 6) d_X9_weigh_168 rfl ?_
                refine Tr.callV (pc := 170) (as := [_, _, _, _, _]) d_X9_weigh_170 s_9_85 ok_X9_spread rfl rfl (Nat.le_of_ble_eq_true rfl) (Nat.le_of_ble_eq_true rfl) (by decide) (ty_100 hS.1.1) ?_
                refine Tr.imp (Tr.deep (by decide) (sp_X9_spread_100 hS.1 r159 (by omega) r87 (by omega) r145 (by omega) r58 (by omega) r64 (by omega))) ?_
                rintro M170 _ ⟨h170, rfl⟩
                have hS := St.tr hS h170 (by decide) (by decide)
                refine Tr.sc [] rfl ?_
                refine Tr.pick [2, 3, 4, 5, 6, 7, 8, 9] (ls2 := [(0, (2, 100)), (1, (2, 7)), (2, (2, 63)), (3, (0, a3)), (4, (0, r45)), (5, (0, r58)), (6, (0, r64)), (7, (0, p72_7))]) rfl ?_
                exact J173 _ hS ((St.kp h170 (by decide) (by decide) (by decide)).trans ((St.kp h159 (by decide) (by decide) (by decide)).trans k72_100_2)) ((St.kp h170 (by decide) (by decide) (by decide)).trans ((St.kp h159 (by decide) (by decide) (by decide)).trans k72_100_3)) ((St.kp h170 (by decide) (by decide) (by decide)).trans ((St.kp h159 (by decide) (by decide) (by decide)).trans k72_63_0)) ((St.kp h170 (by decide) (by decide) (by decide)).trans ((St.kp h159 (by decide) (by decide) (by decide)).trans k72_63_1)) ((St.kp h170 (by decide) (by decide) (by decide)).trans ((St.kp h159 (by decide) (by decide) (by decide)).trans k72_63_7)) ((St.ka h170 (by decide) (by decide) (by decide)).trans ((St.ka h159 (by decide) (by decide) (by decide)).trans k72_9_r4542)) (TU.st (TU.st tp72_0 h159 (by decide)) h170 (by decide))
    refine Tr.pick [4, 5, 6, 7, 3, 2, 1, 0] (ls2 := [(0, (2, 100)), (1, (2, 7)), (2, (2, 63)), (3, (0, a3)), (4, (0, r45)), (5, (0, r58)), (6, (0, r64)), (7, (0, 0))]) rfl ?_
    exact J72 _ _ _ hS (by omega) ((St.kp h64 (by decide) (by decide) (by decide)).trans ((Wa.b w37 rfl).trans ((St.kp h29 (by decide) (by decide) (by decide)).trans w21.1))) ((St.kp h64 (by decide) (by decide) (by decide)).trans ((Wa.b w37 rfl).trans ((St.kp h29 (by decide) (by decide) (by decide)).trans ((Wr.b w21 rfl).trans w11.1)))) ((St.kp h64 (by decide) (by decide) (by decide)).trans ((Wa.b w37 rfl).trans ((St.kp h29 (by decide) (by decide) (by decide)).trans ((Wr.b w21 rfl).trans ((Wr.b w11 rfl).trans eg63_0))))) ((St.kp h64 (by decide) (by decide) (by decide)).trans ((Wa.b w37 rfl).trans ((St.kp h29 (by decide) (by decide) (by decide)).trans ((Wr.b w21 rfl).trans ((Wr.b w11 rfl).trans eg63_1))))) ((St.kp h64 (by decide) (by decide) (by decide)).trans ((Wa.b w37 rfl).trans ((St.kp h29 (by decide) (by decide) (by decide)).trans ((Wr.b w21 rfl).trans ((Wr.b w11 rfl).trans eg63_7))))) ((St.ka h64 (by decide) (by decide) (by decide)).trans er58) (TU.st (TU.wa (TU.st htu h29 (by decide)) w37 (by decide)) h64 (by decide)) (Nat.lt_succ_self _)
  · exact Tr.vret (pc := 8) d_X9_weigh_8 rfl ⟨hS, rfl, ⟨TU.of1 hS hq1 (er1.trans (by omega)) (by omega), er1.trans (by omega)⟩⟩

def ws_J6_bitCount_0f7a4 : List (Int × Int) := []
def as_J6_bitCount_0f7a4 : List Int := []
def q_J6_bitCount_0f7a4 (a0 : Int) (M0 M' : Mem) (r : Option PV) : Prop := St Tru ws_J6_bitCount_0f7a4 as_J6_bitCount_0f7a4 M0 M' ∧ ∃ v : Int, r = some (0, v) ∧ (-2147483648) ≤ v ∧ v ≤ 2147483647 ∧ (v = pop a0 ∧ 0 ≤ v ∧ v ≤ 8)
set_option maxRecDepth 100000 in
set_option maxHeartbeats 4000000 in
theorem sp_J6_bitCount_0f7a4 {l : Launch} {K : EC} {M0 : Mem} (hI : In Tru M0)  (a0 : Int) (ha0 : 0 ≤ a0 ∧ a0 ≤ 255)  : Tr l K 0 mJ6_bitCount_0f7a4 0 [(0, (0, a0))] [] M0 (q_J6_bitCount_0f7a4 a0 M0) := by
  have hS : St Tru ws_J6_bitCount_0f7a4 as_J6_bitCount_0f7a4 M0 M0 := St.rf hI
  refine Tr.iload_n (pc := 0) (i := 0) d_J6_bitCount_0f7a4_0 rfl rfl ?_
  refine Tr.iload_n (pc := 1) (i := 0) d_J6_bitCount_0f7a4_1 rfl rfl ?_
  refine Tr.iconst (pc := 2) d_J6_bitCount_0f7a4_2 (by decide) ?_
  refine Tr.iushr (pc := 3) d_J6_bitCount_0f7a4_3 ?_
  refine Tr.gen (P := fun v => (-2147483648) ≤ v ∧ v ≤ 2147483647) (i32_b _) (fun r3 er3 br3 => ?_)
  refine Tr.ldcw (pc := 4) d_J6_bitCount_0f7a4_4 k_18_265 (by decide) ?_
  refine Tr.iand (pc := 7) d_J6_bitCount_0f7a4_7 ?_
  refine Tr.gen (P := fun v => (-2147483648) ≤ v ∧ v ≤ 2147483647) (i32_b _) (fun r7 er7 br7 => ?_)
  refine Tr.isub (pc := 8) d_J6_bitCount_0f7a4_8 ?_
  refine Tr.gen (P := fun v => (-2147483648) ≤ v ∧ v ≤ 2147483647) (w32_b _) (fun r8 er8 br8 => ?_)
  refine Tr.istore_n (pc := 9) (i := 0) (ls2 := [(0, (0, r8))]) d_J6_bitCount_0f7a4_9 rfl (by decide) rfl ?_
  refine Tr.iload_n (pc := 10) (i := 0) d_J6_bitCount_0f7a4_10 rfl rfl ?_
  refine Tr.ldcw (pc := 11) d_J6_bitCount_0f7a4_11 k_18_266 (by decide) ?_
  refine Tr.iand (pc := 14) d_J6_bitCount_0f7a4_14 ?_
  refine Tr.gen (P := fun v => (-2147483648) ≤ v ∧ v ≤ 2147483647) (i32_b _) (fun r14 er14 br14 => ?_)
  refine Tr.iload_n (pc := 15) (i := 0) d_J6_bitCount_0f7a4_15 rfl rfl ?_
  refine Tr.iconst (pc := 16) d_J6_bitCount_0f7a4_16 (by decide) ?_
  refine Tr.iushr (pc := 17) d_J6_bitCount_0f7a4_17 ?_
  refine Tr.gen (P := fun v => (-2147483648) ≤ v ∧ v ≤ 2147483647) (i32_b _) (fun r17 er17 br17 => ?_)
  refine Tr.ldcw (pc := 18) d_J6_bitCount_0f7a4_18 k_18_266 (by decide) ?_
  refine Tr.iand (pc := 21) d_J6_bitCount_0f7a4_21 ?_
  refine Tr.gen (P := fun v => (-2147483648) ≤ v ∧ v ≤ 2147483647) (i32_b _) (fun r21 er21 br21 => ?_)
  refine Tr.iadd (pc := 22) d_J6_bitCount_0f7a4_22 ?_
  refine Tr.gen (P := fun v => (-2147483648) ≤ v ∧ v ≤ 2147483647) (w32_b _) (fun r22 er22 br22 => ?_)
  refine Tr.istore_n (pc := 23) (i := 0) (ls2 := [(0, (0, r22))]) d_J6_bitCount_0f7a4_23 rfl (by decide) rfl ?_
  refine Tr.iload_n (pc := 24) (i := 0) d_J6_bitCount_0f7a4_24 rfl rfl ?_
  refine Tr.iload_n (pc := 25) (i := 0) d_J6_bitCount_0f7a4_25 rfl rfl ?_
  refine Tr.iconst (pc := 26) d_J6_bitCount_0f7a4_26 (by decide) ?_
  refine Tr.iushr (pc := 27) d_J6_bitCount_0f7a4_27 ?_
  refine Tr.gen (P := fun v => (-2147483648) ≤ v ∧ v ≤ 2147483647) (i32_b _) (fun r27 er27 br27 => ?_)
  refine Tr.iadd (pc := 28) d_J6_bitCount_0f7a4_28 ?_
  refine Tr.gen (P := fun v => (-2147483648) ≤ v ∧ v ≤ 2147483647) (w32_b _) (fun r28 er28 br28 => ?_)
  refine Tr.ldcw (pc := 29) d_J6_bitCount_0f7a4_29 k_18_267 (by decide) ?_
  refine Tr.iand (pc := 32) d_J6_bitCount_0f7a4_32 ?_
  refine Tr.gen (P := fun v => (-2147483648) ≤ v ∧ v ≤ 2147483647) (i32_b _) (fun r32 er32 br32 => ?_)
  refine Tr.istore_n (pc := 33) (i := 0) (ls2 := [(0, (0, r32))]) d_J6_bitCount_0f7a4_33 rfl (by decide) rfl ?_
  refine Tr.iload_n (pc := 34) (i := 0) d_J6_bitCount_0f7a4_34 rfl rfl ?_
  refine Tr.iload_n (pc := 35) (i := 0) d_J6_bitCount_0f7a4_35 rfl rfl ?_
  refine Tr.bipush (pc := 36) d_J6_bitCount_0f7a4_36 rfl (by decide) ?_
  refine Tr.iushr (pc := 38) d_J6_bitCount_0f7a4_38 ?_
  refine Tr.gen (P := fun v => (-2147483648) ≤ v ∧ v ≤ 2147483647) (i32_b _) (fun r38 er38 br38 => ?_)
  refine Tr.iadd (pc := 39) d_J6_bitCount_0f7a4_39 ?_
  refine Tr.gen (P := fun v => (-2147483648) ≤ v ∧ v ≤ 2147483647) (w32_b _) (fun r39 er39 br39 => ?_)
  refine Tr.istore_n (pc := 40) (i := 0) (ls2 := [(0, (0, r39))]) d_J6_bitCount_0f7a4_40 rfl (by decide) rfl ?_
  refine Tr.iload_n (pc := 41) (i := 0) d_J6_bitCount_0f7a4_41 rfl rfl ?_
  refine Tr.iload_n (pc := 42) (i := 0) d_J6_bitCount_0f7a4_42 rfl rfl ?_
  refine Tr.bipush (pc := 43) d_J6_bitCount_0f7a4_43 rfl (by decide) ?_
  refine Tr.iushr (pc := 45) d_J6_bitCount_0f7a4_45 ?_
  refine Tr.gen (P := fun v => (-2147483648) ≤ v ∧ v ≤ 2147483647) (i32_b _) (fun r45 er45 br45 => ?_)
  refine Tr.iadd (pc := 46) d_J6_bitCount_0f7a4_46 ?_
  refine Tr.gen (P := fun v => (-2147483648) ≤ v ∧ v ≤ 2147483647) (w32_b _) (fun r46 er46 br46 => ?_)
  refine Tr.istore_n (pc := 47) (i := 0) (ls2 := [(0, (0, r46))]) d_J6_bitCount_0f7a4_47 rfl (by decide) rfl ?_
  refine Tr.iload_n (pc := 48) (i := 0) d_J6_bitCount_0f7a4_48 rfl rfl ?_
  refine Tr.bipush (pc := 49) d_J6_bitCount_0f7a4_49 rfl (by decide) ?_
  refine Tr.iand (pc := 51) d_J6_bitCount_0f7a4_51 ?_
  refine Tr.gen (P := fun v => (-2147483648) ≤ v ∧ v ≤ 2147483647) (i32_b _) (fun r51 er51 br51 => ?_)
  exact Tr.iret (pc := 52) d_J6_bitCount_0f7a4_52 rfl ⟨hS, _, rfl, by omega, by omega, (by have h8 := bcI_p ha0; have h7 : bcI a0 = r51 := (by simp only [bcI, er3, er7, er8, er14, er17, er21, er22, er27, er28, er32, er38, er39, er45, er46, er51]); rw [h7] at h8; omega)⟩

def ws_J9_abs_067f4 : List (Int × Int) := []
def as_J9_abs_067f4 : List Int := []
def q_J9_abs_067f4 (M0 M' : Mem) (r : Option PV) : Prop := St Tru ws_J9_abs_067f4 as_J9_abs_067f4 M0 M' ∧ ∃ v : Int, r = some (1, v) ∧ (-9223372036854775808) ≤ v ∧ v ≤ 9223372036854775807
set_option maxRecDepth 100000 in
set_option maxHeartbeats 4000000 in
theorem sp_J9_abs_067f4 {l : Launch} {K : EC} {M0 : Mem} (hI : In Tru M0)  (a0 : Int) (ha0 : (-9223372036854775808) ≤ a0 ∧ a0 ≤ 9223372036854775807)  : Tr l K 0 mJ9_abs_067f4 0 [(0, (1, a0))] [] M0 (q_J9_abs_067f4 M0) := by
  have hS : St Tru ws_J9_abs_067f4 as_J9_abs_067f4 M0 M0 := St.rf hI
  refine Tr.lload_n (pc := 0) (i := 0) d_J9_abs_067f4_0 rfl rfl ?_
  refine Tr.lconst (pc := 1) (v := 0) d_J9_abs_067f4_1 rfl (by decide) ?_
  refine Tr.lcmp (pc := 2) d_J9_abs_067f4_2 ?_
  refine Tr.gen (P := fun v => (v = 1 ∧ 0 < a0) ∨ (v = 0 ∧ a0 = 0) ∨ (v = -1 ∧ a0 < 0)) (f_lcmp_c _ _) (fun r2 er2 br2 => ?_)
  refine Tr.if_ge (pc := 3) (tgt := 11) d_J9_abs_067f4_3 rfl (fun c3 => ?_) (fun c3 => ?_)
  · refine Tr.lload_n (pc := 11) (i := 0) d_J9_abs_067f4_11 rfl rfl ?_
    exact Tr.lret (pc := 12) d_J9_abs_067f4_12 rfl ⟨hS, _, rfl, by omega, by omega⟩
  · refine Tr.lload_n (pc := 6) (i := 0) d_J9_abs_067f4_6 rfl rfl ?_
    refine Tr.lneg (pc := 7) d_J9_abs_067f4_7 ?_
    refine Tr.gen (P := fun v => (-9223372036854775808) ≤ v ∧ v ≤ 9223372036854775807) (w64_b _) (fun r7 er7 br7 => ?_)
    refine Tr.goto (pc := 8) (tgt := 12) d_J9_abs_067f4_8 rfl ?_
    exact Tr.lret (pc := 12) d_J9_abs_067f4_12 rfl ⟨hS, _, rfl, by omega, by omega⟩

def ws_X9_commonDivisor : List (Int × Int) := []
def as_X9_commonDivisor : List Int := []
def q_X9_commonDivisor (M0 M' : Mem) (r : Option PV) : Prop := St Tru ws_X9_commonDivisor as_X9_commonDivisor M0 M' ∧ ∃ v : Int, r = some (1, v) ∧ (-9223372036854775808) ≤ v ∧ v ≤ 9223372036854775807
set_option maxRecDepth 100000 in
set_option maxHeartbeats 4000000 in
theorem sp_X9_commonDivisor {l : Launch} {K : EC} {M0 : Mem} (hI : In Tru M0)  (a0 : Int) (ha0 : (-9223372036854775808) ≤ a0 ∧ a0 ≤ 9223372036854775807) (a2 : Int) (ha2 : 0 ≤ a2 ∧ a2 ≤ 46656)  : Tr l K 0 mX9_commonDivisor 0 [(0, (1, a0)), (2, (1, a2))] [] M0 (q_X9_commonDivisor M0) := by
  have hS : St Tru ws_X9_commonDivisor as_X9_commonDivisor M0 M0 := St.rf hI
  refine Tr.lload_n (pc := 0) (i := 0) d_X9_commonDivisor_0 rfl rfl ?_
  refine Tr.lstore (pc := 1) (i := 4) (ls2 := [(4, (1, a0)), (0, (1, a0)), (2, (1, a2))]) d_X9_commonDivisor_1 (by decide) rfl ?_
  refine Tr.lload_n (pc := 3) (i := 2) d_X9_commonDivisor_3 rfl rfl ?_
  refine Tr.lstore (pc := 4) (i := 6) (ls2 := [(6, (1, a2)), (4, (1, a0)), (0, (1, a0)), (2, (1, a2))]) d_X9_commonDivisor_4 (by decide) rfl ?_
  refine Tr.iconst (pc := 6) d_X9_commonDivisor_6 (by decide) ?_
  refine Tr.istore (pc := 7) (i := 8) (ls2 := [(8, (0, 0)), (6, (1, a2)), (4, (1, a0)), (0, (1, a0)), (2, (1, a2))]) d_X9_commonDivisor_7 (by decide) rfl ?_
  have J9 : ∀ (n9 : Nat) (M : Mem) (p9_4 p9_6 p9_8 : Int), St Tru ws_X9_commonDivisor as_X9_commonDivisor M0 M → ((-9223372036854775808) ≤ p9_4 ∧ p9_4 ≤ 9223372036854775807) → ((-9223372036854775808) ≤ p9_6 ∧ p9_6 ≤ 9223372036854775807) → (0 ≤ p9_8 ∧ p9_8 ≤ 200) → (200 - p9_8).toNat < n9 → Tr l K 0 mX9_commonDivisor 9 [(4, (1, p9_4)), (6, (1, p9_6)), (8, (0, p9_8))] [] M (q_X9_commonDivisor M0) := by
    intro n9
    induction n9 with
    | zero => intro M p9_4 p9_6 p9_8 hS bp9_4 bp9_6 bp9_8  hm9; exact absurd hm9 (Nat.not_lt_zero _)
    | succ n9 J9 =>
      intro M p9_4 p9_6 p9_8 hS bp9_4 bp9_6 bp9_8  hm9
      refine Tr.iload (pc := 9) (i := 8) d_X9_commonDivisor_9 rfl ?_
      refine Tr.sipush (pc := 11) d_X9_commonDivisor_11 rfl (by decide) ?_
      refine Tr.icmp_ge (pc := 14) (tgt := 45) d_X9_commonDivisor_14 rfl (fun c14 => ?_) (fun c14 => ?_)
      · refine Tr.lload (pc := 45) (i := 4) d_X9_commonDivisor_45 rfl ?_
        exact Tr.lret (pc := 47) d_X9_commonDivisor_47 rfl ⟨hS, _, rfl, by omega, by omega⟩
      · refine Tr.lload (pc := 17) (i := 6) d_X9_commonDivisor_17 rfl ?_
        refine Tr.lconst (pc := 19) (v := 0) d_X9_commonDivisor_19 rfl (by decide) ?_
        refine Tr.lcmp (pc := 20) d_X9_commonDivisor_20 ?_
        refine Tr.gen (P := fun v => (v = 1 ∧ 0 < p9_6) ∨ (v = 0 ∧ p9_6 = 0) ∨ (v = -1 ∧ p9_6 < 0)) (f_lcmp_c _ _) (fun r20 er20 br20 => ?_)
        refine Tr.if_eq (pc := 21) (tgt := 45) d_X9_commonDivisor_21 rfl (fun c21 => ?_) (fun c21 => ?_)
        · refine Tr.lload (pc := 45) (i := 4) d_X9_commonDivisor_45 rfl ?_
          exact Tr.lret (pc := 47) d_X9_commonDivisor_47 rfl ⟨hS, _, rfl, by omega, by omega⟩
        · refine Tr.lload (pc := 24) (i := 4) d_X9_commonDivisor_24 rfl ?_
          refine Tr.lload (pc := 26) (i := 6) d_X9_commonDivisor_26 rfl ?_
          refine Tr.lrem (pc := 28) d_X9_commonDivisor_28 (by omega) ?_
          refine Tr.gen (P := fun v => (-9223372036854775808) ≤ v ∧ v ≤ 9223372036854775807) (rem64_b _ _ (by omega)) (fun r28 er28 br28 => ?_)
          refine Tr.lstore (pc := 29) (i := 9) (ls2 := [(9, (1, r28)), (4, (1, p9_4)), (6, (1, p9_6)), (8, (0, p9_8))]) d_X9_commonDivisor_29 (by decide) rfl ?_
          refine Tr.lload (pc := 31) (i := 6) d_X9_commonDivisor_31 rfl ?_
          refine Tr.lstore (pc := 33) (i := 4) (ls2 := [(4, (1, p9_6)), (9, (1, r28)), (6, (1, p9_6)), (8, (0, p9_8))]) d_X9_commonDivisor_33 (by decide) rfl ?_
          refine Tr.lload (pc := 35) (i := 9) d_X9_commonDivisor_35 rfl ?_
          refine Tr.lstore (pc := 37) (i := 6) (ls2 := [(6, (1, r28)), (4, (1, p9_6)), (9, (1, r28)), (8, (0, p9_8))]) d_X9_commonDivisor_37 (by decide) rfl ?_
          refine Tr.iincV (pc := 39) (n2 := (p9_8 + 1)) (ls2 := [(8, (0, (p9_8 + 1))), (6, (1, r28)), (4, (1, p9_6)), (9, (1, r28))]) d_X9_commonDivisor_39 rfl (by decide) ((w32_id (by omega)).trans (by omega)) rfl ?_
          refine Tr.goto (pc := 42) (tgt := 9) d_X9_commonDivisor_42 rfl ?_
          refine Tr.pick [2, 1, 0] (ls2 := [(4, (1, p9_6)), (6, (1, r28)), (8, (0, (p9_8 + 1)))]) rfl ?_
          exact J9 _ _ _ _ hS (by omega) (by omega) (by omega) (by omega)
  refine Tr.pick [2, 1, 0] (ls2 := [(4, (1, a0)), (6, (1, a2)), (8, (0, 0))]) rfl ?_
  exact J9 _ _ _ _ _ hS (by omega) (by omega) (by omega) (Nat.lt_succ_self _)

def ws_X9_share_100 : List (Int × Int) := []
def as_X9_share_100 : List Int := []
def q_X9_share_100 (M0 M' : Mem) (r : Option PV) : Prop := St Tru ws_X9_share_100 as_X9_share_100 M0 M' ∧ ∃ v : Int, r = some (1, v) ∧ (-9223372036854775808) ≤ v ∧ v ≤ 9223372036854775807
set_option maxRecDepth 100000 in
set_option maxHeartbeats 4000000 in
theorem sp_X9_share_100 {l : Launch} {K : EC} {M0 : Mem} {xq : Int} (hI : In Tru M0) (hE : e_all K xq)  (a1 : Int) (ha1 : 0 ≤ a1 ∧ a1 ≤ 59) (a2 : Int) (ha2 : 0 ≤ a2 ∧ a2 ≤ 1)  (hq0 : bt (rd M0 100 2) a1) : Tr l K 3 mX9_share 0 [(0, (2, 100)), (1, (0, a1)), (2, (0, a2))] [] M0 (q_X9_share_100 M0) := by
  have hS : St Tru ws_X9_share_100 as_X9_share_100 M0 M0 := St.rf hI
  refine Tr.aload_n (pc := 0) (i := 0) d_X9_share_0 rfl rfl ?_
  refine Tr.getf (pc := 1) d_X9_share_1 f_9_28 (by decide) (by decide) (ty_100 hS.1.1) ?_
  refine Tr.gen (P := fun v => (-9223372036854775808) ≤ v ∧ v ≤ 9223372036854775807) (ir_100_2 hS.1.2.1) (fun r1 er1 br1 => ?_)
  refine Tr.callS (pc := 4) (as := [_]) d_X9_share_4 s_9_89 ok_J13_bitCount_95d88 rfl rfl (Nat.le_of_ble_eq_true rfl) (Nat.le_of_ble_eq_true rfl) ?_
  refine Tr.imp (Tr.deep (by decide) (sp_J13_bitCount_95d88 hS.1 r1 (by omega))) ?_
  rintro M4 _ ⟨h4, r4, rfl, lr4, ur4, wr4⟩
  have hS := St.tr hS h4 (by decide) (by decide)
  refine Tr.sc [(0, r4)] rfl ?_
  refine Tr.istore_n (pc := 7) (i := 3) (ls2 := [(3, (0, r4)), (0, (2, 100)), (1, (0, a1)), (2, (0, a2))]) d_X9_share_7 rfl (by decide) rfl ?_
  refine Tr.iload_n (pc := 8) (i := 3) d_X9_share_8 rfl rfl ?_
  refine Tr.iconst (pc := 9) d_X9_share_9 (by decide) ?_
  refine Tr.icmp_lt (pc := 10) (tgt := 19) d_X9_share_10 rfl (fun c10 => ?_) (fun c10 => ?_)
  · refine Tr.ldc2 (pc := 19) d_X9_share_19 kl_9_98 (by decide) ?_
    exact Tr.lret (pc := 22) d_X9_share_22 rfl ⟨hS, _, rfl, by omega, by omega⟩
  · refine Tr.iload_n (pc := 13) (i := 3) d_X9_share_13 rfl rfl ?_
    refine Tr.bipush (pc := 14) d_X9_share_14 rfl (by decide) ?_
    refine Tr.icmp_le (pc := 16) (tgt := 23) d_X9_share_16 rfl (fun c16 => ?_) (fun c16 => ?_)
    · refine Tr.aload_n (pc := 23) (i := 0) d_X9_share_23 rfl rfl ?_
      refine Tr.iload_n (pc := 24) (i := 1) d_X9_share_24 rfl rfl ?_
      refine Tr.callV (pc := 25) (as := [_]) d_X9_share_25 s_9_82 ok_X9_bitOf rfl rfl (Nat.le_of_ble_eq_true rfl) (Nat.le_of_ble_eq_true rfl) (by decide) (ty_100 hS.1.1) ?_
      refine Tr.imp (Tr.deep (by decide) (sp_X9_bitOf_100 hS.1 a1 (by omega))) ?_
      rintro M25 _ ⟨h25, r25, rfl, lr25, ur25, z25_0⟩
      have hS := St.tr hS h25 (by decide) (by decide)
      refine Tr.sc [(0, r25)] rfl ?_
      have hu25 : rd M4 100 2 = r1 := (St.kp h4 (by decide) (by decide) (by decide)).trans er1
      obtain ⟨qr, eqr⟩ : ∃ q9 : Nat, rk r1 a1 = q9 := ⟨_, rfl⟩
      have hb25 : r25 = f_ishl 1 (qr : Int) := by have h9 := z25_0 (by omega); rw [hu25, eqr] at h9; exact h9
      have hr25 : (qr : Int) + 1 ≤ r4 := by have h8 := rk_lt (show bt r1 a1 by rw [← er1]; exact hq0) (by omega); have h9 := wr4.1; rw [eqr] at h8; omega
      refine Tr.istore (pc := 28) (i := 4) (ls2 := [(4, (0, r25)), (3, (0, r4)), (0, (2, 100)), (1, (0, a1)), (2, (0, a2))]) d_X9_share_28 (by decide) rfl ?_
      refine Tr.lconst (pc := 30) (v := 0) d_X9_share_30 rfl (by decide) ?_
      refine Tr.lstore (pc := 31) (i := 5) (ls2 := [(5, (1, 0)), (4, (0, r25)), (3, (0, r4)), (0, (2, 100)), (1, (0, a1)), (2, (0, a2))]) d_X9_share_31 (by decide) rfl ?_
      refine Tr.iconst (pc := 33) d_X9_share_33 (by decide) ?_
      refine Tr.istore (pc := 34) (i := 7) (ls2 := [(7, (0, 0)), (5, (1, 0)), (4, (0, r25)), (3, (0, r4)), (0, (2, 100)), (1, (0, a1)), (2, (0, a2))]) d_X9_share_34 (by decide) rfl ?_
      have J36 : ∀ (n36 : Nat) (M : Mem) (p36_5 p36_7 : Int), St Tru ws_X9_share_100 as_X9_share_100 M0 M → ((-9223372036854775808) ≤ p36_5 ∧ p36_5 ≤ 9223372036854775807) → (0 ≤ p36_7 ∧ p36_7 ≤ 256) → rd M 100 2 = r1 → (256 - p36_7).toNat < n36 → Tr l K 3 mX9_share 36 [(0, (2, 100)), (2, (0, a2)), (3, (0, r4)), (4, (0, r25)), (5, (1, p36_5)), (7, (0, p36_7))] [] M (q_X9_share_100 M0) := by
        intro n36
        induction n36 with
        | zero => intro M p36_5 p36_7 hS bp36_5 bp36_7 k36_100_2 hm36; exact absurd hm36 (Nat.not_lt_zero _)
        | succ n36 J36 =>
          intro M p36_5 p36_7 hS bp36_5 bp36_7 k36_100_2 hm36
          refine Tr.iload (pc := 36) (i := 7) d_X9_share_36 rfl ?_
          refine Tr.iconst (pc := 38) d_X9_share_38 (by decide) ?_
          refine Tr.iload_n (pc := 39) (i := 3) d_X9_share_39 rfl rfl ?_
          refine Tr.ishl (pc := 40) d_X9_share_40 ?_
          refine Tr.gen (P := fun v => v = f_ishl 1 r4 ∧ (2 ≤ v ∧ v ≤ 256)) ⟨rfl, ish_b (by omega)⟩ (fun r40 er40 br40 => ?_)
          refine Tr.icmp_ge (pc := 41) (tgt := 112) d_X9_share_41 rfl (fun c41 => ?_) (fun c41 => ?_)
          · refine Tr.lload (pc := 112) (i := 5) d_X9_share_112 rfl ?_
            refine Tr.callS (pc := 114) (as := [_]) d_X9_share_114 s_9_107 ok_J9_abs_067f4 rfl rfl (Nat.le_of_ble_eq_true rfl) (Nat.le_of_ble_eq_true rfl) ?_
            refine Tr.imp (Tr.deep (by decide) (sp_J9_abs_067f4 hS.1 p36_5 (by omega))) ?_
            rintro M114 _ ⟨h114, r114, rfl, lr114, ur114⟩
            have hS := St.tr hS h114 (by decide) (by decide)
            refine Tr.sc [(1, r114)] rfl ?_
            refine Tr.gets (pc := 117) d_X9_share_117 sl_9_104 hE.2.2.2.2.2.1 ?_
            refine Tr.iload_n (pc := 120) (i := 3) d_X9_share_120 rfl rfl ?_
            refine Tr.xld (pc := 121) (i := 3) d_X9_share_121 rfl hE.2.2.1 (by omega) (by omega) ?_
            refine Tr.gen (P := fun v => 0 ≤ v ∧ v ≤ 40320) (xT_b (q := xr_3) (by decide +kernel) (by decide) _) (fun r121 er121 br121 => ?_)
            refine Tr.i2l (pc := 122) d_X9_share_122 ?_
            refine Tr.callS (pc := 123) (as := [_, _]) d_X9_share_123 s_9_111 ok_X9_commonDivisor rfl rfl (Nat.le_of_ble_eq_true rfl) (Nat.le_of_ble_eq_true rfl) ?_
            refine Tr.imp (Tr.deep (by decide) (sp_X9_commonDivisor hS.1 r114 (by omega) r121 (by omega))) ?_
            rintro M123 _ ⟨h123, r123, rfl, lr123, ur123⟩
            have hS := St.tr hS h123 (by decide) (by decide)
            refine Tr.sc [(1, r123)] rfl ?_
            refine Tr.lstore (pc := 126) (i := 7) (ls2 := [(7, (1, r123)), (0, (2, 100)), (2, (0, a2)), (3, (0, r4)), (4, (0, r25)), (5, (1, p36_5))]) d_X9_share_126 (by decide) rfl ?_
            refine Tr.lload (pc := 128) (i := 7) d_X9_share_128 rfl ?_
            refine Tr.lconst (pc := 130) (v := 0) d_X9_share_130 rfl (by decide) ?_
            refine Tr.lcmp (pc := 131) d_X9_share_131 ?_
            refine Tr.gen (P := fun v => (v = 1 ∧ 0 < r123) ∨ (v = 0 ∧ r123 = 0) ∨ (v = -1 ∧ r123 < 0)) (f_lcmp_c _ _) (fun r131 er131 br131 => ?_)
            refine Tr.if_ne (pc := 132) (tgt := 139) d_X9_share_132 rfl (fun c132 => ?_) (fun c132 => ?_)
            · refine Tr.iload_n (pc := 139) (i := 2) d_X9_share_139 rfl rfl ?_
              refine Tr.if_eq (pc := 140) (tgt := 148) d_X9_share_140 rfl (fun c140 => ?_) (fun c140 => ?_)
              · refine Tr.gets (pc := 148) d_X9_share_148 sl_9_104 hE.2.2.2.2.2.1 ?_
                refine Tr.iload_n (pc := 151) (i := 3) d_X9_share_151 rfl rfl ?_
                refine Tr.xld (pc := 152) (i := 3) d_X9_share_152 rfl hE.2.2.1 (by omega) (by omega) ?_
                refine Tr.gen (P := fun v => 0 ≤ v ∧ v ≤ 40320) (xT_b (q := xr_3) (by decide +kernel) (by decide) _) (fun r152 er152 br152 => ?_)
                refine Tr.i2l (pc := 153) d_X9_share_153 ?_
                refine Tr.lload (pc := 154) (i := 7) d_X9_share_154 rfl ?_
                refine Tr.ldiv (pc := 156) d_X9_share_156 (by omega) ?_
                refine Tr.gen (P := fun v => (-9223372036854775808) ≤ v ∧ v ≤ 9223372036854775807) (w64_b _) (fun r156 er156 br156 => ?_)
                exact Tr.lret (pc := 157) d_X9_share_157 rfl ⟨hS, _, rfl, by omega, by omega⟩
              · refine Tr.lload (pc := 143) (i := 5) d_X9_share_143 rfl ?_
                refine Tr.goto (pc := 145) (tgt := 154) d_X9_share_145 rfl ?_
                refine Tr.lload (pc := 154) (i := 7) d_X9_share_154 rfl ?_
                refine Tr.ldiv (pc := 156) d_X9_share_156 (by omega) ?_
                refine Tr.gen (P := fun v => (-9223372036854775808) ≤ v ∧ v ≤ 9223372036854775807) (w64_b _) (fun r156 er156 br156 => ?_)
                exact Tr.lret (pc := 157) d_X9_share_157 rfl ⟨hS, _, rfl, by omega, by omega⟩
            · refine Tr.ldc2 (pc := 135) d_X9_share_135 kl_9_98 (by decide) ?_
              exact Tr.lret (pc := 138) d_X9_share_138 rfl ⟨hS, _, rfl, by omega, by omega⟩
          · refine Tr.iload (pc := 44) (i := 7) d_X9_share_44 rfl ?_
            refine Tr.iload (pc := 46) (i := 4) d_X9_share_46 rfl ?_
            refine Tr.iand (pc := 48) d_X9_share_48 ?_
            refine Tr.gen (P := fun v => (-2147483648) ≤ v ∧ v ≤ 2147483647) (i32_b _) (fun r48 er48 br48 => ?_)
            have J106 : ∀ (M : Mem) (p106_5 : Int), St Tru ws_X9_share_100 as_X9_share_100 M0 M → ((-9223372036854775808) ≤ p106_5 ∧ p106_5 ≤ 9223372036854775807) → rd M 100 2 = r1 → Tr l K 3 mX9_share 106 [(0, (2, 100)), (2, (0, a2)), (3, (0, r4)), (4, (0, r25)), (5, (1, p106_5)), (7, (0, p36_7))] [] M (q_X9_share_100 M0) := by
              intro M p106_5 hS bp106_5 k106_100_2
              refine Tr.iincV (pc := 106) (n2 := (p36_7 + 1)) (ls2 := [(7, (0, (p36_7 + 1))), (0, (2, 100)), (2, (0, a2)), (3, (0, r4)), (4, (0, r25)), (5, (1, p106_5))]) d_X9_share_106 rfl (by decide) ((w32_id (by omega)).trans (by omega)) rfl ?_
              refine Tr.goto (pc := 109) (tgt := 36) d_X9_share_109 rfl ?_
              refine Tr.pick [1, 2, 3, 4, 5, 0] (ls2 := [(0, (2, 100)), (2, (0, a2)), (3, (0, r4)), (4, (0, r25)), (5, (1, p106_5)), (7, (0, (p36_7 + 1)))]) rfl ?_
              exact J36 _ _ _ hS (by omega) (by omega) k106_100_2 (by omega)
            refine Tr.if_ne (pc := 49) (tgt := 106) d_X9_share_49 rfl (fun c49 => ?_) (fun c49 => ?_)
            · refine Tr.pick [0, 1, 2, 3, 4, 5] (ls2 := [(0, (2, 100)), (2, (0, a2)), (3, (0, r4)), (4, (0, r25)), (5, (1, p36_5)), (7, (0, p36_7))]) rfl ?_
              exact J106 _ _ hS (by omega) k36_100_2
            · refine Tr.iload (pc := 52) (i := 7) d_X9_share_52 rfl ?_
              refine Tr.callS (pc := 54) (as := [_]) d_X9_share_54 s_9_100 ok_J6_bitCount_0f7a4 rfl rfl (Nat.le_of_ble_eq_true rfl) (Nat.le_of_ble_eq_true rfl) ?_
              refine Tr.imp (Tr.deep (by decide) (sp_J6_bitCount_0f7a4 hS.1 p36_7 (by omega))) ?_
              rintro M54 _ ⟨h54, r54, rfl, lr54, ur54, wr54⟩
              have hS := St.tr hS h54 (by decide) (by decide)
              refine Tr.sc [(0, r54)] rfl ?_
              have hz54 := sh_t (m := r4) (s := p36_7) (p := (qr : Int)) (b := r25) (by omega) (by omega) hb25 (by rw [← br40.1]; omega) (by rw [er48]; omega)
              refine Tr.istore (pc := 57) (i := 8) (ls2 := [(8, (0, r54)), (0, (2, 100)), (2, (0, a2)), (3, (0, r4)), (4, (0, r25)), (5, (1, p36_5)), (7, (0, p36_7))]) d_X9_share_57 (by decide) rfl ?_
              refine Tr.gets (pc := 59) d_X9_share_59 sl_9_104 hE.2.2.2.2.2.1 ?_
              refine Tr.iload (pc := 62) (i := 8) d_X9_share_62 rfl ?_
              refine Tr.xld (pc := 64) (i := 3) d_X9_share_64 rfl hE.2.2.1 (by omega) (by omega) ?_
              refine Tr.gen (P := fun v => 0 ≤ v ∧ v ≤ 40320) (xT_b (q := xr_3) (by decide +kernel) (by decide) _) (fun r64 er64 br64 => ?_)
              refine Tr.i2l (pc := 65) d_X9_share_65 ?_
              refine Tr.gets (pc := 66) d_X9_share_66 sl_9_104 hE.2.2.2.2.2.1 ?_
              refine Tr.iload_n (pc := 69) (i := 3) d_X9_share_69 rfl rfl ?_
              refine Tr.iconst (pc := 70) d_X9_share_70 (by decide) ?_
              refine Tr.isub (pc := 71) d_X9_share_71 ?_
              refine Tr.tp (r4 - 1) ((w32_id (by omega)).trans (by omega)) ?_
              refine Tr.iload (pc := 72) (i := 8) d_X9_share_72 rfl ?_
              refine Tr.isub (pc := 74) d_X9_share_74 ?_
              refine Tr.tp (r4 - r54 - 1) ((w32_id (by omega)).trans (by omega)) ?_
              refine Tr.xld (pc := 75) (i := 3) d_X9_share_75 rfl hE.2.2.1 (by omega) (by omega) ?_
              refine Tr.gen (P := fun v => 0 ≤ v ∧ v ≤ 40320) (xT_b (q := xr_3) (by decide +kernel) (by decide) _) (fun r75 er75 br75 => ?_)
              refine Tr.i2l (pc := 76) d_X9_share_76 ?_
              refine Tr.lmul (pc := 77) d_X9_share_77 ?_
              refine Tr.gen (P := fun v => 0 ≤ v ∧ v ≤ 1625702400) (w64_mul (A := 40320) (B := 40320) (by omega) (by omega) (by omega) (by omega) (by decide)) (fun r77 er77 br77 => ?_)
              refine Tr.lstore (pc := 78) (i := 9) (ls2 := [(9, (1, r77)), (8, (0, r54)), (0, (2, 100)), (2, (0, a2)), (3, (0, r4)), (4, (0, r25)), (5, (1, p36_5)), (7, (0, p36_7))]) d_X9_share_78 (by decide) rfl ?_
              refine Tr.lload (pc := 80) (i := 5) d_X9_share_80 rfl ?_
              refine Tr.lload (pc := 82) (i := 9) d_X9_share_82 rfl ?_
              refine Tr.aload_n (pc := 84) (i := 0) d_X9_share_84 rfl rfl ?_
              refine Tr.getf (pc := 85) d_X9_share_85 f_9_11 (by decide) (by decide) (ty_100 hS.1.1) ?_
              refine Tr.tp 101 (fx_100_0 hS.1.1) ?_
              refine Tr.iload (pc := 88) (i := 7) d_X9_share_88 rfl ?_
              refine Tr.iload (pc := 90) (i := 4) d_X9_share_90 rfl ?_
              refine Tr.ior (pc := 92) d_X9_share_92 ?_
              refine Tr.gen (P := fun v => 0 ≤ v ∧ v ≤ 255) hz54.2 (fun r92 er92 br92 => ?_)
              refine Tr.lald (pc := 93) d_X9_share_93 (ty_101 hS.1.1) (by omega) (by omega) ?_
              refine Tr.gen (P := fun v => (-9223372036854775808) ≤ v ∧ v ≤ 9223372036854775807) (ar_101 hS.1.2.1 _) (fun r93 er93 br93 => ?_)
              refine Tr.aload_n (pc := 94) (i := 0) d_X9_share_94 rfl rfl ?_
              refine Tr.getf (pc := 95) d_X9_share_95 f_9_11 (by decide) (by decide) (ty_100 hS.1.1) ?_
              refine Tr.tp 101 (fx_100_0 hS.1.1) ?_
              refine Tr.iload (pc := 98) (i := 7) d_X9_share_98 rfl ?_
              refine Tr.lald (pc := 100) d_X9_share_100 (ty_101 hS.1.1) (by omega) (by omega) ?_
              refine Tr.gen (P := fun v => (-9223372036854775808) ≤ v ∧ v ≤ 9223372036854775807) (ar_101 hS.1.2.1 _) (fun r100 er100 br100 => ?_)
              refine Tr.lsub (pc := 101) d_X9_share_101 ?_
              refine Tr.gen (P := fun v => (-9223372036854775808) ≤ v ∧ v ≤ 9223372036854775807) (w64_b _) (fun r101 er101 br101 => ?_)
              refine Tr.lmul (pc := 102) d_X9_share_102 ?_
              refine Tr.gen (P := fun v => (-9223372036854775808) ≤ v ∧ v ≤ 9223372036854775807) (w64_b _) (fun r102 er102 br102 => ?_)
              refine Tr.ladd (pc := 103) d_X9_share_103 ?_
              refine Tr.gen (P := fun v => (-9223372036854775808) ≤ v ∧ v ≤ 9223372036854775807) (w64_b _) (fun r103 er103 br103 => ?_)
              refine Tr.lstore (pc := 104) (i := 5) (ls2 := [(5, (1, r103)), (9, (1, r77)), (8, (0, r54)), (0, (2, 100)), (2, (0, a2)), (3, (0, r4)), (4, (0, r25)), (7, (0, p36_7))]) d_X9_share_104 (by decide) rfl ?_
              refine Tr.pick [3, 4, 5, 6, 0, 7] (ls2 := [(0, (2, 100)), (2, (0, a2)), (3, (0, r4)), (4, (0, r25)), (5, (1, r103)), (7, (0, p36_7))]) rfl ?_
              exact J106 _ _ hS (by omega) ((St.kp h54 (by decide) (by decide) (by decide)).trans k36_100_2)
      refine Tr.pick [4, 6, 3, 2, 1, 0] (ls2 := [(0, (2, 100)), (2, (0, a2)), (3, (0, r4)), (4, (0, r25)), (5, (1, 0)), (7, (0, 0))]) rfl ?_
      exact J36 _ _ _ _ hS (by omega) (by omega) ((St.kp h25 (by decide) (by decide) (by decide)).trans ((St.kp h4 (by decide) (by decide) (by decide)).trans er1)) (Nat.lt_succ_self _)
    · refine Tr.ldc2 (pc := 19) d_X9_share_19 kl_9_98 (by decide) ?_
      exact Tr.lret (pc := 22) d_X9_share_22 rfl ⟨hS, _, rfl, by omega, by omega⟩

def ws_X11_byTurns_0_w1 : List (Int × Int) := [(100, 2), (100, 3)]
def as_X11_byTurns_0_w1 : List Int := [101, 102]
def q_X11_byTurns_0_w1 (a1 : Int) (a2 : Int) (a3 : Int) (a4 : Int) (M0 M' : Mem) (r : Option PV) : Prop := St Tru ws_X11_byTurns_0_w1 as_X11_byTurns_0_w1 M0 M' ∧ ∃ v : Int, r = some (1, v) ∧ (-9223372036854775808) ≤ v ∧ v ≤ 9223372036854775807 ∧ (TW M')
set_option maxRecDepth 100000 in
set_option maxHeartbeats 4000000 in
theorem sp_X11_byTurns_0_w1 {l : Launch} {K : EC} {M0 : Mem} {xq : Int} (hI : In Tru M0) (hE : e_all K xq) (en_0_4 : rd M0 0 4 = 7) (en_0_9 : rd M0 0 9 = 1) (a1 : Int) (ha1 : (-2147483648) ≤ a1 ∧ a1 ≤ 2147483647) (a2 : Int) (ha2 : (-2147483648) ≤ a2 ∧ a2 ≤ 2147483647) (a3 : Int) (ha3 : (-2147483648) ≤ a3 ∧ a3 ≤ 2147483647) (a4 : Int) (ha4 : 0 ≤ a4 ∧ a4 ≤ 1)  (hq0 : TW M0) : Tr l K 4 mX11_byTurns 0 [(0, (2, 0)), (1, (0, a1)), (2, (0, a2)), (3, (0, a3)), (4, (0, a4))] [] M0 (q_X11_byTurns_0_w1 a1 a2 a3 a4 M0) := by
  have hS : St Tru ws_X11_byTurns_0_w1 as_X11_byTurns_0_w1 M0 M0 := St.rf hI
  obtain ⟨g63_1, eg63_1⟩ : ∃ v, rd M0 63 1 = v := ⟨_, rfl⟩
  have bg63_1 : (-1000000000) ≤ g63_1 ∧ g63_1 ≤ 1000000000 := by rw [← eg63_1]; exact ir_63_1 hI.2.1
  obtain ⟨g63_0, eg63_0⟩ : ∃ v, rd M0 63 0 = v := ⟨_, rfl⟩
  have bg63_0 : (-2147483648) ≤ g63_0 ∧ g63_0 ≤ 2147483647 := by rw [← eg63_0]; exact ir_63_0 hI.2.1
  refine Tr.aload_n (pc := 0) (i := 0) d_X11_byTurns_0 rfl rfl ?_
  refine Tr.iload_n (pc := 1) (i := 1) d_X11_byTurns_1 rfl rfl ?_
  refine Tr.iload_n (pc := 2) (i := 2) d_X11_byTurns_2 rfl rfl ?_
  refine Tr.callV (pc := 3) (as := [_, _]) d_X11_byTurns_3 s_11_214 ok_X11_stretchPlace rfl rfl (Nat.le_of_ble_eq_true rfl) (Nat.le_of_ble_eq_true rfl) (by decide) (ty_0 hS.1.1) ?_
  refine Tr.imp (Tr.deep (by decide) (sp_X11_stretchPlace_0_w1 hS.1 ((St.kp hS (by decide) (by decide) (by decide)).trans en_0_4) ((St.kp hS (by decide) (by decide) (by decide)).trans en_0_9) a1 (by omega) a2 (by omega))) ?_
  rintro M3 _ ⟨h3, r3, rfl, lr3, ur3, z3_0⟩
  have hS := St.tr hS h3 (by decide) (by decide)
  have ka3_63_0 : rd M3 63 0 = g63_0 := ((St.kp h3 (by decide) (by decide) (by decide)).trans eg63_0)
  refine Tr.sc [(0, r3)] rfl ?_
  refine Tr.istore (pc := 6) (i := 5) (ls2 := [(5, (0, r3)), (0, (2, 0)), (1, (0, a1)), (2, (0, a2)), (3, (0, a3)), (4, (0, a4))]) d_X11_byTurns_6 (by decide) rfl ?_
  refine Tr.iload (pc := 8) (i := 5) d_X11_byTurns_8 rfl ?_
  refine Tr.if_lt (pc := 10) (tgt := 21) d_X11_byTurns_10 rfl (fun c10 => ?_) (fun c10 => ?_)
  · refine Tr.ldc2 (pc := 21) d_X11_byTurns_21 kl_11_230 (by decide) ?_
    exact Tr.lret (pc := 24) d_X11_byTurns_24 rfl ⟨hS, _, rfl, by omega, by omega, (TW.st hq0 h3 (by decide))⟩
  · refine Tr.aload_n (pc := 13) (i := 0) d_X11_byTurns_13 rfl rfl ?_
    refine Tr.iload_n (pc := 14) (i := 3) d_X11_byTurns_14 rfl rfl ?_
    refine Tr.callV (pc := 15) (as := [_]) d_X11_byTurns_15 s_11_191 ok_X11_isLine rfl rfl (Nat.le_of_ble_eq_true rfl) (Nat.le_of_ble_eq_true rfl) (by decide) (ty_0 hS.1.1) ?_
    refine Tr.imp (Tr.deep (by decide) (sp_X11_isLine_0 hS.1 ((St.kp hS (by decide) (by decide) (by decide)).trans en_0_4) a3 (by omega))) ?_
    rintro M15 _ ⟨h15, r15, rfl, lr15, ur15, wr15⟩
    have hS := St.tr hS h15 (by decide) (by decide)
    refine Tr.sc [(0, r15)] rfl ?_
    refine Tr.if_ne (pc := 18) (tgt := 25) d_X11_byTurns_18 rfl (fun c18 => ?_) (fun c18 => ?_)
    · refine Tr.aload_n (pc := 25) (i := 0) d_X11_byTurns_25 rfl rfl ?_
      refine Tr.getf (pc := 26) d_X11_byTurns_26 f_11_46 (by decide) (by decide) (ty_0 hS.1.1) ?_
      refine Tr.tp 48 (fx_0_7 hS.1.1) ?_
      refine Tr.getf (pc := 29) d_X11_byTurns_29 f_11_178 (by decide) (by decide) (ty_48 hS.1.1) ?_
      refine Tr.tp 56 (fx_48_0 hS.1.1) ?_
      refine Tr.getf (pc := 32) d_X11_byTurns_32 f_11_201 (by decide) (by decide) (ty_56 hS.1.1) ?_
      refine Tr.tp 63 (fx_56_8 hS.1.1) ?_
      refine Tr.getf (pc := 35) d_X11_byTurns_35 f_11_226 (by decide) (by decide) (ty_63 hS.1.1) ?_
      refine Tr.gen (P := fun v => v = tref g63_1 5) (tl_ref hS ((St.kp h15 (by decide) (by decide) (by decide)).trans ((St.kp h3 (by decide) (by decide) (by decide)).trans eg63_1)) (by decide)) (fun t35 et35 bt35 => ?_)
      refine Tr.iload (pc := 38) (i := 5) d_X11_byTurns_38 rfl ?_
      have nk40_0 : rd M15 63 0 = g63_0 := ((St.kp h15 (by decide) (by decide) (by decide)).trans ((St.kp h3 (by decide) (by decide) (by decide)).trans eg63_0))
      have nn40 := tl_n hS ((St.kp h15 (by decide) (by decide) (by decide)).trans ((St.kp h3 (by decide) (by decide) (by decide)).trans eg63_1))
      refine Tr.lald (pc := 40) d_X11_byTurns_40 (tl_tyL hS ((St.kp h15 (by decide) (by decide) (by decide)).trans ((St.kp h3 (by decide) (by decide) (by decide)).trans eg63_1)) bt35) (by omega) (by omega) ?_
      refine Tr.gen (P := fun v => (-9223372036854775808) ≤ v ∧ v ≤ 9223372036854775807) (tl_eL hS ((St.kp h15 (by decide) (by decide) (by decide)).trans ((St.kp h3 (by decide) (by decide) (by decide)).trans eg63_1)) bt35 (by omega) (by omega)) (fun r40 er40 br40 => ?_)
      refine Tr.lstore (pc := 41) (i := 6) (ls2 := [(6, (1, r40)), (5, (0, r3)), (0, (2, 0)), (1, (0, a1)), (2, (0, a2)), (3, (0, a3)), (4, (0, a4))]) d_X11_byTurns_41 (by decide) rfl ?_
      refine Tr.lload (pc := 43) (i := 6) d_X11_byTurns_43 rfl ?_
      refine Tr.iload_n (pc := 45) (i := 3) d_X11_byTurns_45 rfl rfl ?_
      refine Tr.lshr (pc := 46) d_X11_byTurns_46 ?_
      refine Tr.gen (P := fun v => (-9223372036854775808) ≤ v ∧ v ≤ 9223372036854775807) (i64_b _) (fun r46 er46 br46 => ?_)
      refine Tr.lconst (pc := 47) (v := 1) d_X11_byTurns_47 rfl (by decide) ?_
      refine Tr.land (pc := 48) d_X11_byTurns_48 ?_
      refine Tr.gen (P := fun v => v = r46 % 2 ∧ (0 ≤ v ∧ v ≤ 1)) ⟨(f_land_1 _).1, (f_land_1 _).2⟩ (fun r48 er48 br48 => ?_)
      refine Tr.lconst (pc := 49) (v := 0) d_X11_byTurns_49 rfl (by decide) ?_
      refine Tr.lcmp (pc := 50) d_X11_byTurns_50 ?_
      refine Tr.gen (P := fun v => (v = 1 ∧ 0 < r48) ∨ (v = 0 ∧ r48 = 0) ∨ (v = -1 ∧ r48 < 0)) (f_lcmp_c _ _) (fun r50 er50 br50 => ?_)
      refine Tr.if_eq (pc := 51) (tgt := 64) d_X11_byTurns_51 rfl (fun c51 => ?_) (fun c51 => ?_)
      · refine Tr.ldc2 (pc := 64) d_X11_byTurns_64 kl_11_230 (by decide) ?_
        exact Tr.lret (pc := 67) d_X11_byTurns_67 rfl ⟨hS, _, rfl, by omega, by omega, (TW.st (TW.st hq0 h3 (by decide)) h15 (by decide))⟩
      · refine Tr.lload (pc := 54) (i := 6) d_X11_byTurns_54 rfl ?_
        refine Tr.callS (pc := 56) (as := [_]) d_X11_byTurns_56 s_11_232 ok_J13_bitCount_95d88 rfl rfl (Nat.le_of_ble_eq_true rfl) (Nat.le_of_ble_eq_true rfl) ?_
        refine Tr.imp (Tr.deep (by decide) (sp_J13_bitCount_95d88 hS.1 r40 (by omega))) ?_
        rintro M56 _ ⟨h56, r56, rfl, lr56, ur56, wr56⟩
        have hS := St.tr hS h56 (by decide) (by decide)
        refine Tr.sc [(0, r56)] rfl ?_
        refine Tr.bipush (pc := 59) d_X11_byTurns_59 rfl (by decide) ?_
        refine Tr.icmp_le (pc := 61) (tgt := 68) d_X11_byTurns_61 rfl (fun c61 => ?_) (fun c61 => ?_)
        · refine Tr.aload_n (pc := 68) (i := 0) d_X11_byTurns_68 rfl rfl ?_
          refine Tr.getf (pc := 69) d_X11_byTurns_69 f_11_56 (by decide) (by decide) (ty_0 hS.1.1) ?_
          refine Tr.tp 100 (fx_0_10 hS.1.1) ?_
          refine Tr.aload_n (pc := 72) (i := 0) d_X11_byTurns_72 rfl rfl ?_
          refine Tr.getf (pc := 73) d_X11_byTurns_73 f_11_30 (by decide) (by decide) (ty_0 hS.1.1) ?_
          refine Tr.tp 7 ((St.kp hS (by decide) (by decide) (by decide)).trans en_0_4) ?_
          refine Tr.aload_n (pc := 76) (i := 0) d_X11_byTurns_76 rfl rfl ?_
          refine Tr.getf (pc := 77) d_X11_byTurns_77 f_11_46 (by decide) (by decide) (ty_0 hS.1.1) ?_
          refine Tr.tp 48 (fx_0_7 hS.1.1) ?_
          refine Tr.getf (pc := 80) d_X11_byTurns_80 f_11_178 (by decide) (by decide) (ty_48 hS.1.1) ?_
          refine Tr.tp 56 (fx_48_0 hS.1.1) ?_
          refine Tr.getf (pc := 83) d_X11_byTurns_83 f_11_201 (by decide) (by decide) (ty_56 hS.1.1) ?_
          refine Tr.tp 63 (fx_56_8 hS.1.1) ?_
          refine Tr.iload (pc := 86) (i := 5) d_X11_byTurns_86 rfl ?_
          refine Tr.callV (pc := 88) (as := [_, _, _]) d_X11_byTurns_88 s_11_238 ok_X9_weigh rfl rfl (Nat.le_of_ble_eq_true rfl) (Nat.le_of_ble_eq_true rfl) (by decide) (ty_100 hS.1.1) ?_
          have kb88_63_0 : rd M56 63 0 = g63_0 := ((St.kp h56 (by decide) (by decide) (by decide)).trans ((St.kp h15 (by decide) (by decide) (by decide)).trans ((St.kp h3 (by decide) (by decide) (by decide)).trans eg63_0)))
          refine Tr.imp (Tr.deep (by decide) (sp_X9_weigh_100_7_63 hS.1 r3 (by omega) (by omega) (TW.st (TW.st (TW.st hq0 h3 (by decide)) h15 (by decide)) h56 (by decide)))) ?_
          rintro M88 _ ⟨h88, rfl, z88_0⟩
          have hS := St.tr hS h88 (by decide) (by decide)
          refine Tr.sc [] rfl ?_
          have hus : rd M88 100 2 = r40 := z88_0.1.1.trans ((St.ud h88 (by decide) _).trans ((St.ud h56 (by decide) _).trans (by rw [et35]; exact er40)))
          refine Tr.aload_n (pc := 91) (i := 0) d_X11_byTurns_91 rfl rfl ?_
          refine Tr.getf (pc := 92) d_X11_byTurns_92 f_11_56 (by decide) (by decide) (ty_0 hS.1.1) ?_
          refine Tr.tp 100 (fx_0_10 hS.1.1) ?_
          refine Tr.iload_n (pc := 95) (i := 3) d_X11_byTurns_95 rfl rfl ?_
          refine Tr.iload (pc := 96) (i := 4) d_X11_byTurns_96 rfl ?_
          refine Tr.callV (pc := 98) (as := [_, _]) d_X11_byTurns_98 s_11_242 ok_X9_share rfl rfl (Nat.le_of_ble_eq_true rfl) (Nat.le_of_ble_eq_true rfl) (by decide) (ty_100 hS.1.1) ?_
          refine Tr.imp (Tr.deep (by decide) (sp_X9_share_100 hS.1 hE a3 (by omega) a4 (by omega) (by rw [hus]; exact bt_of er46 (by omega) (by omega) (by rw [er48]; omega)))) ?_
          rintro M98 _ ⟨h98, r98, rfl, lr98, ur98⟩
          have hS := St.tr hS h98 (by decide) (by decide)
          refine Tr.sc [(1, r98)] rfl ?_
          exact Tr.lret (pc := 101) d_X11_byTurns_101 rfl ⟨hS, _, rfl, by omega, by omega, (TW.st (Or.inr (by rw [z88_0.2]; exact z88_0.1.1)) h98 (by decide))⟩
        · refine Tr.ldc2 (pc := 64) d_X11_byTurns_64 kl_11_230 (by decide) ?_
          exact Tr.lret (pc := 67) d_X11_byTurns_67 rfl ⟨hS, _, rfl, by omega, by omega, (TW.st (TW.st (TW.st hq0 h3 (by decide)) h15 (by decide)) h56 (by decide))⟩
    · refine Tr.ldc2 (pc := 21) d_X11_byTurns_21 kl_11_230 (by decide) ?_
      exact Tr.lret (pc := 24) d_X11_byTurns_24 rfl ⟨hS, _, rfl, by omega, by omega, (TW.st (TW.st hq0 h3 (by decide)) h15 (by decide))⟩
