def ws_X4_link_35 : List (Int × Int) := []
def as_X4_link_35 : List Int := [38, 39, 40, 43]
def q_X4_link_35 (M0 M' : Mem) (r : Option PV) : Prop := St Tru ws_X4_link_35 as_X4_link_35 M0 M' ∧ r = none
set_option maxRecDepth 100000 in
set_option maxHeartbeats 4000000 in
theorem sp_X4_link_35 {l : Launch} {K : EC} {M0 : Mem} (hI : In Tru M0)    : Tr l K 1 mX4_link 0 [(0, (2, 35))] [] M0 (q_X4_link_35 M0) := by
  have hS : St Tru ws_X4_link_35 as_X4_link_35 M0 M0 := St.rf hI
  refine Tr.aload_n (pc := 0) (i := 0) d_X4_link_0 rfl rfl ?_
  refine Tr.getf (pc := 1) d_X4_link_1 f_4_18 (by decide) (by decide) (ty_35 hS.1.1) ?_
  refine Tr.tp 38 (fx_35_3 hS.1.1) ?_
  refine Tr.aload_n (pc := 4) (i := 0) d_X4_link_4 rfl rfl ?_
  refine Tr.getf (pc := 5) d_X4_link_5 f_4_45 (by decide) (by decide) (ty_35 hS.1.1) ?_
  refine Tr.gen (P := fun v => 0 ≤ v ∧ v ≤ 60) (ir_35_0 hS.1.2.1) (fun r5 er5 br5 => ?_)
  refine Tr.aload_n (pc := 8) (i := 0) d_X4_link_8 rfl rfl ?_
  refine Tr.getf (pc := 9) d_X4_link_9 f_4_49 (by decide) (by decide) (ty_35 hS.1.1) ?_
  refine Tr.gen (P := fun v => 0 ≤ v ∧ v ≤ 900) (ir_35_11 hS.1.2.1) (fun r9 er9 br9 => ?_)
  refine Tr.iastS (pc := 12) (P := St Tru ws_X4_link_35 as_X4_link_35 M0) d_X4_link_12 (ty_38 hS.1.1) (by omega) (by omega) (sa_38 hS (by decide) (by omega) trivial) (fun M12 hS w12 => ?_)
  refine Tr.iconst (pc := 13) d_X4_link_13 (by decide) ?_
  refine Tr.istore_n (pc := 14) (i := 1) (ls2 := [(1, (0, 0)), (0, (2, 35))]) d_X4_link_14 rfl (by decide) rfl ?_
  have J15 : ∀ (n15 : Nat) (M : Mem) (p15_1 : Int), St Tru ws_X4_link_35 as_X4_link_35 M0 M → (0 ≤ p15_1 ∧ p15_1 ≤ 60) → rd M 35 0 = r5 → rd M 35 11 = r9 → rd M 38 r5 = r9 → (60 - p15_1).toNat < n15 → Tr l K 1 mX4_link 15 [(0, (2, 35)), (1, (0, p15_1))] [] M (q_X4_link_35 M0) := by
    intro n15
    induction n15 with
    | zero => intro M p15_1 hS bp15_1 k15_35_0 k15_35_11 k15_38_r510 hm15; exact absurd hm15 (Nat.not_lt_zero _)
    | succ n15 J15 =>
      intro M p15_1 hS bp15_1 k15_35_0 k15_35_11 k15_38_r510 hm15
      refine Tr.iload_n (pc := 15) (i := 1) d_X4_link_15 rfl rfl ?_
      refine Tr.aload_n (pc := 16) (i := 0) d_X4_link_16 rfl rfl ?_
      refine Tr.getf (pc := 17) d_X4_link_17 f_4_45 (by decide) (by decide) (ty_35 hS.1.1) ?_
      refine Tr.tp r5 k15_35_0 ?_
      refine Tr.icmp_ge (pc := 20) (tgt := 107) d_X4_link_20 rfl (fun c20 => ?_) (fun c20 => ?_)
      · exact Tr.vret (pc := 107) d_X4_link_107 rfl ⟨hS, rfl⟩
      · refine Tr.aload_n (pc := 23) (i := 0) d_X4_link_23 rfl rfl ?_
        refine Tr.getf (pc := 24) d_X4_link_24 f_4_33 (by decide) (by decide) (ty_35 hS.1.1) ?_
        refine Tr.tp 43 (fx_35_8 hS.1.1) ?_
        refine Tr.iload_n (pc := 27) (i := 1) d_X4_link_27 rfl rfl ?_
        refine Tr.aload_n (pc := 28) (i := 0) d_X4_link_28 rfl rfl ?_
        refine Tr.iload_n (pc := 29) (i := 1) d_X4_link_29 rfl rfl ?_
        refine Tr.callV (pc := 30) (as := [_]) d_X4_link_30 s_4_52 ok_X4_behind rfl rfl (Nat.le_of_ble_eq_true rfl) (Nat.le_of_ble_eq_true rfl) (by decide) (ty_35 hS.1.1) ?_
        refine Tr.imp (Tr.deep (by decide) (sp_X4_behind_35_w13 hS.1 p15_1 (by omega))) ?_
        rintro M30 _ ⟨h30, r30, rfl, lr30, ur30⟩
        have hS := St.tr hS h30 (by decide) (by decide)
        refine Tr.sc [(0, r30), (0, p15_1), (2, 43)] rfl ?_
        refine Tr.iastS (pc := 33) (P := St Tru ws_X4_link_35 as_X4_link_35 M0) d_X4_link_33 (ty_43 hS.1.1) (by omega) (by omega) (sa_43 hS (by decide) (by omega) trivial) (fun M33 hS w33 => ?_)
        refine Tr.aload_n (pc := 34) (i := 0) d_X4_link_34 rfl rfl ?_
        refine Tr.getf (pc := 35) d_X4_link_35 f_4_9 (by decide) (by decide) (ty_35 hS.1.1) ?_
        refine Tr.tp 36 (fx_35_1 hS.1.1) ?_
        refine Tr.iload_n (pc := 38) (i := 1) d_X4_link_38 rfl rfl ?_
        refine Tr.iald (pc := 39) d_X4_link_39 (ty_36 hS.1.1) (by omega) (by omega) ?_
        refine Tr.gen (P := fun v => (-2147483648) ≤ v ∧ v ≤ 2147483647) (ar_36 hS.1.2.1 _) (fun r39 er39 br39 => ?_)
        refine Tr.bipush (pc := 40) d_X4_link_40 rfl (by decide) ?_
        have J50 : ∀ (M : Mem) (q50_0 : Int), St Tru ws_X4_link_35 as_X4_link_35 M0 M → (0 ≤ q50_0 ∧ q50_0 ≤ 1) → rd M 35 0 = r5 → rd M 35 11 = r9 → rd M 38 r5 = r9 → Tr l K 1 mX4_link 50 [(0, (2, 35)), (1, (0, p15_1))] [(0, q50_0)] M (q_X4_link_35 M0) := by
          intro M q50_0 hS bq50_0 k50_35_0 k50_35_11 k50_38_r510
          refine Tr.istore_n (pc := 50) (i := 2) (ls2 := [(2, (0, q50_0)), (0, (2, 35)), (1, (0, p15_1))]) d_X4_link_50 rfl (by decide) rfl ?_
          refine Tr.aload_n (pc := 51) (i := 0) d_X4_link_51 rfl rfl ?_
          refine Tr.getf (pc := 52) d_X4_link_52 f_4_21 (by decide) (by decide) (ty_35 hS.1.1) ?_
          refine Tr.tp 39 (fx_35_4 hS.1.1) ?_
          refine Tr.iload_n (pc := 55) (i := 1) d_X4_link_55 rfl rfl ?_
          refine Tr.iald (pc := 56) d_X4_link_56 (ty_39 hS.1.1) (by omega) (by omega) ?_
          refine Tr.gen (P := fun v => (-2147483648) ≤ v ∧ v ≤ 2147483647) (ar_39 hS.1.2.1 _) (fun r56 er56 br56 => ?_)
          have J80 : ∀ (M : Mem), St Tru ws_X4_link_35 as_X4_link_35 M0 M → rd M 35 0 = r5 → rd M 35 11 = r9 → rd M 38 r5 = r9 → Tr l K 1 mX4_link 80 [(0, (2, 35)), (1, (0, p15_1))] [] M (q_X4_link_35 M0) := by
            intro M  hS  k80_35_0 k80_35_11 k80_38_r510
            refine Tr.aload_n (pc := 80) (i := 0) d_X4_link_80 rfl rfl ?_
            refine Tr.getf (pc := 81) d_X4_link_81 f_4_24 (by decide) (by decide) (ty_35 hS.1.1) ?_
            refine Tr.tp 40 (fx_35_5 hS.1.1) ?_
            refine Tr.iload_n (pc := 84) (i := 1) d_X4_link_84 rfl rfl ?_
            refine Tr.iald (pc := 85) d_X4_link_85 (ty_40 hS.1.1) (by omega) (by omega) ?_
            refine Tr.gen (P := fun v => (-2147483648) ≤ v ∧ v ≤ 2147483647) (ar_40 hS.1.2.1 _) (fun r85 er85 br85 => ?_)
            have J101 : ∀ (M : Mem), St Tru ws_X4_link_35 as_X4_link_35 M0 M → rd M 35 0 = r5 → rd M 35 11 = r9 → rd M 38 r5 = r9 → Tr l K 1 mX4_link 101 [(0, (2, 35)), (1, (0, p15_1))] [] M (q_X4_link_35 M0) := by
              intro M  hS  k101_35_0 k101_35_11 k101_38_r510
              refine Tr.iincV (pc := 101) (n2 := (p15_1 + 1)) (ls2 := [(1, (0, (p15_1 + 1))), (0, (2, 35))]) d_X4_link_101 rfl (by decide) ((w32_id (by omega)).trans (by omega)) rfl ?_
              refine Tr.goto (pc := 104) (tgt := 15) d_X4_link_104 rfl ?_
              refine Tr.pick [1, 0] (ls2 := [(0, (2, 35)), (1, (0, (p15_1 + 1)))]) rfl ?_
              exact J15 _ _ hS (by omega) k101_35_0 k101_35_11 k101_38_r510 (by omega)
            refine Tr.if_ge (pc := 86) (tgt := 101) d_X4_link_86 rfl (fun c86 => ?_) (fun c86 => ?_)
            · refine Tr.pick [0, 1] (ls2 := [(0, (2, 35)), (1, (0, p15_1))]) rfl ?_
              exact J101 _ hS k80_35_0 k80_35_11 k80_38_r510
            · refine Tr.aload_n (pc := 89) (i := 0) d_X4_link_89 rfl rfl ?_
              refine Tr.getf (pc := 90) d_X4_link_90 f_4_24 (by decide) (by decide) (ty_35 hS.1.1) ?_
              refine Tr.tp 40 (fx_35_5 hS.1.1) ?_
              refine Tr.iload_n (pc := 93) (i := 1) d_X4_link_93 rfl rfl ?_
              refine Tr.aload_n (pc := 94) (i := 0) d_X4_link_94 rfl rfl ?_
              refine Tr.getf (pc := 95) d_X4_link_95 f_4_33 (by decide) (by decide) (ty_35 hS.1.1) ?_
              refine Tr.tp 43 (fx_35_8 hS.1.1) ?_
              refine Tr.iload_n (pc := 98) (i := 1) d_X4_link_98 rfl rfl ?_
              refine Tr.iald (pc := 99) d_X4_link_99 (ty_43 hS.1.1) (by omega) (by omega) ?_
              refine Tr.gen (P := fun v => 0 ≤ v ∧ v ≤ 60) (ar_43 hS.1.2.1 _) (fun r99 er99 br99 => ?_)
              refine Tr.iastS (pc := 100) (P := St Tru ws_X4_link_35 as_X4_link_35 M0) d_X4_link_100 (ty_40 hS.1.1) (by omega) (by omega) (sa_40 hS (by decide) (by omega) trivial) (fun M100 hS w100 => ?_)
              refine Tr.pick [0, 1] (ls2 := [(0, (2, 35)), (1, (0, p15_1))]) rfl ?_
              exact J101 _ hS ((Wr.b w100 rfl).trans k80_35_0) ((Wr.b w100 rfl).trans k80_35_11) ((Wr.b w100 rfl).trans k80_38_r510)
          refine Tr.if_ge (pc := 57) (tgt := 80) d_X4_link_57 rfl (fun c57 => ?_) (fun c57 => ?_)
          · refine Tr.pick [1, 2] (ls2 := [(0, (2, 35)), (1, (0, p15_1))]) rfl ?_
            exact J80 _ hS k50_35_0 k50_35_11 k50_38_r510
          · refine Tr.aload_n (pc := 60) (i := 0) d_X4_link_60 rfl rfl ?_
            refine Tr.getf (pc := 61) d_X4_link_61 f_4_21 (by decide) (by decide) (ty_35 hS.1.1) ?_
            refine Tr.tp 39 (fx_35_4 hS.1.1) ?_
            refine Tr.iload_n (pc := 64) (i := 1) d_X4_link_64 rfl rfl ?_
            refine Tr.iload_n (pc := 65) (i := 2) d_X4_link_65 rfl rfl ?_
            have J79 : ∀ (M : Mem) (q79_1 q79_2 : Int), St Tru ws_X4_link_35 as_X4_link_35 M0 M → (0 ≤ q79_1 ∧ q79_1 ≤ 59) → (0 ≤ q79_2 ∧ q79_2 ≤ 60) → rd M 35 0 = r5 → rd M 35 11 = r9 → rd M 38 r5 = r9 → Tr l K 1 mX4_link 79 [(0, (2, 35)), (1, (0, p15_1))] [(0, q79_2), (0, q79_1), (2, 39)] M (q_X4_link_35 M0) := by
              intro M q79_1 q79_2 hS bq79_1 bq79_2 k79_35_0 k79_35_11 k79_38_r510
              refine Tr.iastS (pc := 79) (P := St Tru ws_X4_link_35 as_X4_link_35 M0) d_X4_link_79 (ty_39 hS.1.1) (by omega) (by omega) (sa_39 hS (by decide) (by omega) trivial) (fun M79 hS w79 => ?_)
              refine Tr.pick [0, 1] (ls2 := [(0, (2, 35)), (1, (0, p15_1))]) rfl ?_
              exact J80 _ hS ((Wr.b w79 rfl).trans k79_35_0) ((Wr.b w79 rfl).trans k79_35_11) ((Wr.b w79 rfl).trans k79_38_r510)
            refine Tr.if_eq (pc := 66) (tgt := 73) d_X4_link_66 rfl (fun c66 => ?_) (fun c66 => ?_)
            · refine Tr.aload_n (pc := 73) (i := 0) d_X4_link_73 rfl rfl ?_
              refine Tr.getf (pc := 74) d_X4_link_74 f_4_33 (by decide) (by decide) (ty_35 hS.1.1) ?_
              refine Tr.tp 43 (fx_35_8 hS.1.1) ?_
              refine Tr.iload_n (pc := 77) (i := 1) d_X4_link_77 rfl rfl ?_
              refine Tr.iald (pc := 78) d_X4_link_78 (ty_43 hS.1.1) (by omega) (by omega) ?_
              refine Tr.gen (P := fun v => 0 ≤ v ∧ v ≤ 60) (ar_43 hS.1.2.1 _) (fun r78 er78 br78 => ?_)
              refine Tr.pick [1, 2] (ls2 := [(0, (2, 35)), (1, (0, p15_1))]) rfl ?_
              exact J79 _ _ _ hS (by omega) (by omega) k50_35_0 k50_35_11 k50_38_r510
            · refine Tr.iload_n (pc := 69) (i := 1) d_X4_link_69 rfl rfl ?_
              refine Tr.goto (pc := 70) (tgt := 79) d_X4_link_70 rfl ?_
              refine Tr.pick [1, 2] (ls2 := [(0, (2, 35)), (1, (0, p15_1))]) rfl ?_
              exact J79 _ _ _ hS (by omega) (by omega) k50_35_0 k50_35_11 k50_38_r510
        refine Tr.icmp_ne (pc := 42) (tgt := 49) d_X4_link_42 rfl (fun c42 => ?_) (fun c42 => ?_)
        · refine Tr.iconst (pc := 49) d_X4_link_49 (by decide) ?_
          refine Tr.pick [0, 1] (ls2 := [(0, (2, 35)), (1, (0, p15_1))]) rfl ?_
          exact J50 _ _ hS (by omega) ((Wr.b w33 rfl).trans ((St.kp h30 (by decide) (by decide) (by decide)).trans k15_35_0)) ((Wr.b w33 rfl).trans ((St.kp h30 (by decide) (by decide) (by decide)).trans k15_35_11)) ((Wr.b w33 rfl).trans ((St.ka h30 (by decide) (by decide) (by decide)).trans k15_38_r510))
        · refine Tr.iconst (pc := 45) d_X4_link_45 (by decide) ?_
          refine Tr.goto (pc := 46) (tgt := 50) d_X4_link_46 rfl ?_
          refine Tr.pick [0, 1] (ls2 := [(0, (2, 35)), (1, (0, p15_1))]) rfl ?_
          exact J50 _ _ hS (by omega) ((Wr.b w33 rfl).trans ((St.kp h30 (by decide) (by decide) (by decide)).trans k15_35_0)) ((Wr.b w33 rfl).trans ((St.kp h30 (by decide) (by decide) (by decide)).trans k15_35_11)) ((Wr.b w33 rfl).trans ((St.ka h30 (by decide) (by decide) (by decide)).trans k15_38_r510))
  refine Tr.pick [1, 0] (ls2 := [(0, (2, 35)), (1, (0, 0))]) rfl ?_
  exact J15 _ _ _ hS (by omega) ((Wr.b w12 rfl).trans er5) ((Wr.b w12 rfl).trans er9) w12.1 (Nat.lt_succ_self _)

def ws_X10_clear_103 : List (Int × Int) := [(103, 0)]
def as_X10_clear_103 : List Int := []
def q_X10_clear_103 (M0 M' : Mem) (r : Option PV) : Prop := St Tru ws_X10_clear_103 as_X10_clear_103 M0 M' ∧ r = none
set_option maxRecDepth 100000 in
set_option maxHeartbeats 4000000 in
theorem sp_X10_clear_103 {l : Launch} {K : EC} {M0 : Mem} (hI : In Tru M0)    : Tr l K 0 mX10_clear 0 [(0, (2, 103))] [] M0 (q_X10_clear_103 M0) := by
  have hS : St Tru ws_X10_clear_103 as_X10_clear_103 M0 M0 := St.rf hI
  refine Tr.aload_n (pc := 0) (i := 0) d_X10_clear_0 rfl rfl ?_
  refine Tr.iconst (pc := 1) d_X10_clear_1 (by decide) ?_
  refine Tr.putzS (pc := 2) (P := St Tru ws_X10_clear_103 as_X10_clear_103 M0) d_X10_clear_2 f_10_21 (by decide) (ty_103 hS.1.1) (by omega) (st_103_0 hS (by decide) (by omega) trivial) (fun M2 hS w2 => ?_)
  exact Tr.vret (pc := 5) d_X10_clear_5 rfl ⟨hS, rfl⟩

def ws_X2_clear_107 : List (Int × Int) := [(107, 0), (107, 1)]
def as_X2_clear_107 : List Int := []
def q_X2_clear_107 (M0 M' : Mem) (r : Option PV) : Prop := St Tru ws_X2_clear_107 as_X2_clear_107 M0 M' ∧ r = none
set_option maxRecDepth 100000 in
set_option maxHeartbeats 4000000 in
theorem sp_X2_clear_107 {l : Launch} {K : EC} {M0 : Mem} (hI : In Tru M0)    : Tr l K 0 mX2_clear 0 [(0, (2, 107))] [] M0 (q_X2_clear_107 M0) := by
  have hS : St Tru ws_X2_clear_107 as_X2_clear_107 M0 M0 := St.rf hI
  refine Tr.aload_n (pc := 0) (i := 0) d_X2_clear_0 rfl rfl ?_
  refine Tr.iconst (pc := 1) d_X2_clear_1 (by decide) ?_
  refine Tr.putfS (pc := 2) (P := St Tru ws_X2_clear_107 as_X2_clear_107 M0) d_X2_clear_2 f_2_27 (by decide) (by decide) (ty_107 hS.1.1) (st_107_0 hS (by decide) (by omega) trivial) (fun M2 hS w2 => ?_)
  refine Tr.aload_n (pc := 5) (i := 0) d_X2_clear_5 rfl rfl ?_
  refine Tr.iconst (pc := 6) d_X2_clear_6 (by decide) ?_
  refine Tr.putzS (pc := 7) (P := St Tru ws_X2_clear_107 as_X2_clear_107 M0) d_X2_clear_7 f_2_31 (by decide) (ty_107 hS.1.1) (by omega) (st_107_1 hS (by decide) (by omega) trivial) (fun M7 hS w7 => ?_)
  exact Tr.vret (pc := 10) d_X2_clear_10 rfl ⟨hS, rfl⟩

