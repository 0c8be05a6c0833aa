def ws_X6_begin_74_7_104 : List (Int × Int) := [(74, 1), (74, 9), (74, 11), (74, 12), (74, 13), (74, 14), (74, 15), (74, 16), (74, 17), (82, 1)]
def as_X6_begin_74_7_104 : List Int := [75, 76, 78, 79, 80, 81, 83]
def q_X6_begin_74_7_104 (M0 M' : Mem) (r : Option PV) : Prop := St ws_X6_begin_74_7_104 as_X6_begin_74_7_104 M0 M' ∧ rd M' 74 1 = 7 ∧ rd M' 82 1 = 7 ∧ r = none
set_option maxRecDepth 100000 in
set_option maxHeartbeats 4000000 in
theorem sp_X6_begin_74_7_104 {l : Launch} {K : EC} {M0 : Mem} (hI : In M0)  (a3 : Int) (ha3 : (-1) ≤ a3 ∧ a3 ≤ (-1))  : Tr l K 2 mX6_begin 0 [(0, (2, 74)), (1, (2, 7)), (2, (2, 104)), (3, (0, a3))] [] M0 (q_X6_begin_74_7_104 M0) := by
  have hS : St ws_X6_begin_74_7_104 as_X6_begin_74_7_104 M0 M0 := St.rf hI
  refine Tr.aload_n (pc := 0) (i := 0) d_X6_begin_0 rfl rfl ?_
  refine Tr.aload_n (pc := 1) (i := 1) d_X6_begin_1 rfl rfl ?_
  refine Tr.putfS (pc := 2) (P := St ws_X6_begin_74_7_104 as_X6_begin_74_7_104 M0) d_X6_begin_2 f_6_46 (by decide) (by decide) (ty_74 hS.1.1) (st_74_1 hS (by decide) (by omega)) (fun hS => ?_)
  refine Tr.aload_n (pc := 5) (i := 2) d_X6_begin_5 rfl rfl ?_
  refine Tr.iconst (pc := 6) d_X6_begin_6 (by decide) ?_
  refine Tr.aload_n (pc := 7) (i := 0) d_X6_begin_7 rfl rfl ?_
  refine Tr.getf (pc := 8) d_X6_begin_8 f_6_9 (by decide) (by decide) (ty_74 hS.1.1) ?_
  refine Tr.tp 75 (fx_74_2 hS.1.1) ?_
  refine Tr.iconst (pc := 11) d_X6_begin_11 (by decide) ?_
  refine Tr.iconst (pc := 12) d_X6_begin_12 (by decide) ?_
  refine Tr.acopyS (pc := 13) (x := 104) (y := 75) (P := St ws_X6_begin_74_7_104 as_X6_begin_74_7_104 M0) d_X6_begin_13 ac_6_85 acw.1 acw.2.1 acw.2.2 (ty_104 hS.1.1) (ty_75 hS.1.1) (by omega) (by omega) (by omega) (by omega) (by omega) (Nat.le_of_ble_eq_true rfl) (sw_75 hS (by decide) rfl rfl (fun z i hz => by rw [rd_cpy, if_neg (fun c => hz c.1)]) (fun i => by rw [rd_cpy]; split; exact And.intro (by have := ar_104 hS.1.2.1 (0 + (i - 0)); omega) (by have := ar_104 hS.1.2.1 (0 + (i - 0)); omega); exact ar_75 hS.1.2.1 i)) (fun hS => ?_)
  refine Tr.aload_n (pc := 16) (i := 0) d_X6_begin_16 rfl rfl ?_
  refine Tr.getf (pc := 17) d_X6_begin_17 f_6_15 (by decide) (by decide) (ty_74 hS.1.1) ?_
  refine Tr.tp 76 (fx_74_3 hS.1.1) ?_
  refine Tr.iconst (pc := 20) d_X6_begin_20 (by decide) ?_
  refine Tr.callS (pc := 21) (as := [_, _]) d_X6_begin_21 s_6_91 ok_J7_fill_53178 rfl rfl (Nat.le_of_ble_eq_true rfl) (Nat.le_of_ble_eq_true rfl) ?_
  refine Tr.imp (sp_fill (N := 6) (ty_76 hS.1.1) (by decide)) ?_
  rintro _ _ ⟨rfl, rfl⟩
  have hS := sf_76 6 hS (by decide) (by omega)
  refine Tr.sc [] rfl ?_
  refine Tr.aload_n (pc := 24) (i := 0) d_X6_begin_24 rfl rfl ?_
  refine Tr.getf (pc := 25) d_X6_begin_25 f_6_21 (by decide) (by decide) (ty_74 hS.1.1) ?_
  refine Tr.tp 78 (fx_74_5 hS.1.1) ?_
  refine Tr.iconst (pc := 28) d_X6_begin_28 (by decide) ?_
  refine Tr.callS (pc := 29) (as := [_, _]) d_X6_begin_29 s_6_91 ok_J7_fill_53178 rfl rfl (Nat.le_of_ble_eq_true rfl) (Nat.le_of_ble_eq_true rfl) ?_
  refine Tr.imp (sp_fill (N := 8) (ty_78 hS.1.1) (by decide)) ?_
  rintro _ _ ⟨rfl, rfl⟩
  have hS := sf_78 8 hS (by decide) (by omega)
  refine Tr.sc [] rfl ?_
  refine Tr.aload_n (pc := 32) (i := 0) d_X6_begin_32 rfl rfl ?_
  refine Tr.getf (pc := 33) d_X6_begin_33 f_6_24 (by decide) (by decide) (ty_74 hS.1.1) ?_
  refine Tr.tp 79 (fx_74_6 hS.1.1) ?_
  refine Tr.iconst (pc := 36) d_X6_begin_36 (by decide) ?_
  refine Tr.callS (pc := 37) (as := [_, _]) d_X6_begin_37 s_6_91 ok_J7_fill_53178 rfl rfl (Nat.le_of_ble_eq_true rfl) (Nat.le_of_ble_eq_true rfl) ?_
  refine Tr.imp (sp_fill (N := 6) (ty_79 hS.1.1) (by decide)) ?_
  rintro _ _ ⟨rfl, rfl⟩
  have hS := sf_79 6 hS (by decide) (by omega)
  refine Tr.sc [] rfl ?_
  refine Tr.aload_n (pc := 40) (i := 0) d_X6_begin_40 rfl rfl ?_
  refine Tr.getf (pc := 41) d_X6_begin_41 f_6_27 (by decide) (by decide) (ty_74 hS.1.1) ?_
  refine Tr.tp 80 (fx_74_7 hS.1.1) ?_
  refine Tr.iconst (pc := 44) d_X6_begin_44 (by decide) ?_
  refine Tr.callS (pc := 45) (as := [_, _]) d_X6_begin_45 s_6_91 ok_J7_fill_53178 rfl rfl (Nat.le_of_ble_eq_true rfl) (Nat.le_of_ble_eq_true rfl) ?_
  refine Tr.imp (sp_fill (N := 6) (ty_80 hS.1.1) (by decide)) ?_
  rintro _ _ ⟨rfl, rfl⟩
  have hS := sf_80 6 hS (by decide) (by omega)
  refine Tr.sc [] rfl ?_
  refine Tr.aload_n (pc := 48) (i := 0) d_X6_begin_48 rfl rfl ?_
  refine Tr.getf (pc := 49) d_X6_begin_49 f_6_30 (by decide) (by decide) (ty_74 hS.1.1) ?_
  refine Tr.tp 81 (fx_74_8 hS.1.1) ?_
  refine Tr.iconst (pc := 52) d_X6_begin_52 (by decide) ?_
  refine Tr.callS (pc := 53) (as := [_, _]) d_X6_begin_53 s_6_91 ok_J7_fill_53178 rfl rfl (Nat.le_of_ble_eq_true rfl) (Nat.le_of_ble_eq_true rfl) ?_
  refine Tr.imp (sp_fill (N := 6) (ty_81 hS.1.1) (by decide)) ?_
  rintro _ _ ⟨rfl, rfl⟩
  have hS := sf_81 6 hS (by decide) (by omega)
  refine Tr.sc [] rfl ?_
  refine Tr.aload_n (pc := 56) (i := 0) d_X6_begin_56 rfl rfl ?_
  refine Tr.iconst (pc := 57) d_X6_begin_57 (by decide) ?_
  refine Tr.putfS (pc := 58) (P := St ws_X6_begin_74_7_104 as_X6_begin_74_7_104 M0) d_X6_begin_58 f_6_68 (by decide) (by decide) (ty_74 hS.1.1) (st_74_9 hS (by decide) (by omega)) (fun hS => ?_)
  refine Tr.aload_n (pc := 61) (i := 0) d_X6_begin_61 rfl rfl ?_
  refine Tr.iconst (pc := 62) d_X6_begin_62 (by decide) ?_
  refine Tr.putfS (pc := 63) (P := St ws_X6_begin_74_7_104 as_X6_begin_74_7_104 M0) d_X6_begin_63 f_6_97 (by decide) (by decide) (ty_74 hS.1.1) (st_74_11 hS (by decide) (by omega)) (fun hS => ?_)
  refine Tr.aload_n (pc := 66) (i := 0) d_X6_begin_66 rfl rfl ?_
  refine Tr.iconst (pc := 67) d_X6_begin_67 (by decide) ?_
  refine Tr.putfS (pc := 68) (P := St ws_X6_begin_74_7_104 as_X6_begin_74_7_104 M0) d_X6_begin_68 f_6_100 (by decide) (by decide) (ty_74 hS.1.1) (st_74_12 hS (by decide) (by omega)) (fun hS => ?_)
  refine Tr.aload_n (pc := 71) (i := 0) d_X6_begin_71 rfl rfl ?_
  refine Tr.iconst (pc := 72) d_X6_begin_72 (by decide) ?_
  refine Tr.putfS (pc := 73) (P := St ws_X6_begin_74_7_104 as_X6_begin_74_7_104 M0) d_X6_begin_73 f_6_103 (by decide) (by decide) (ty_74 hS.1.1) (st_74_13 hS (by decide) (by omega)) (fun hS => ?_)
  refine Tr.aload_n (pc := 76) (i := 0) d_X6_begin_76 rfl rfl ?_
  refine Tr.iconst (pc := 77) d_X6_begin_77 (by decide) ?_
  refine Tr.putfS (pc := 78) (P := St ws_X6_begin_74_7_104 as_X6_begin_74_7_104 M0) d_X6_begin_78 f_6_62 (by decide) (by decide) (ty_74 hS.1.1) (st_74_14 hS (by decide) (by omega)) (fun hS => ?_)
  refine Tr.aload_n (pc := 81) (i := 0) d_X6_begin_81 rfl rfl ?_
  refine Tr.iconst (pc := 82) d_X6_begin_82 (by decide) ?_
  refine Tr.putfS (pc := 83) (P := St ws_X6_begin_74_7_104 as_X6_begin_74_7_104 M0) d_X6_begin_83 f_6_79 (by decide) (by decide) (ty_74 hS.1.1) (st_74_15 hS (by decide) (by omega)) (fun hS => ?_)
  refine Tr.aload_n (pc := 86) (i := 0) d_X6_begin_86 rfl rfl ?_
  refine Tr.iload_n (pc := 87) (i := 3) d_X6_begin_87 rfl rfl ?_
  refine Tr.tp (-1) (by omega) ?_
  have J96 : ∀ (M : Mem), St ws_X6_begin_74_7_104 as_X6_begin_74_7_104 M0 M → rd M 74 1 = 7 → rd M 74 11 = 0 → rd M 74 12 = 0 → rd M 74 13 = 0 → rd M 74 14 = 0 → rd M 74 15 = (-1) → rd M 74 9 = 0 → Tr l K 2 mX6_begin 96 [(0, (2, 74)), (1, (2, 7)), (3, (0, a3))] [(0, 0), (2, 74)] M (q_X6_begin_74_7_104 M0) := by
    intro M  hS  k96_74_1 k96_74_11 k96_74_12 k96_74_13 k96_74_14 k96_74_15 k96_74_9
    refine Tr.putzS (pc := 96) (P := St ws_X6_begin_74_7_104 as_X6_begin_74_7_104 M0) d_X6_begin_96 f_6_106 (by decide) (ty_74 hS.1.1) (by omega) (st_74_16 hS (by decide) (by omega)) (fun hS => ?_)
    refine Tr.aload_n (pc := 99) (i := 0) d_X6_begin_99 rfl rfl ?_
    refine Tr.iload_n (pc := 100) (i := 3) d_X6_begin_100 rfl rfl ?_
    refine Tr.tp (-1) (by omega) ?_
    refine Tr.putfS (pc := 101) (P := St ws_X6_begin_74_7_104 as_X6_begin_74_7_104 M0) d_X6_begin_101 f_6_110 (by decide) (by decide) (ty_74 hS.1.1) (st_74_17 hS (by decide) (by omega)) (fun hS => ?_)
    refine Tr.aload_n (pc := 104) (i := 0) d_X6_begin_104 rfl rfl ?_
    refine Tr.getf (pc := 105) d_X6_begin_105 f_6_38 (by decide) (by decide) (ty_74 hS.1.1) ?_
    refine Tr.tp 82 (fx_74_0 hS.1.1) ?_
    refine Tr.aload_n (pc := 108) (i := 1) d_X6_begin_108 rfl rfl ?_
    refine Tr.callV (pc := 109) (as := [_]) d_X6_begin_109 s_6_113 ok_X1_begin rfl rfl (Nat.le_of_ble_eq_true rfl) (Nat.le_of_ble_eq_true rfl) (by decide) (ty_82 hS.1.1) ?_
    refine Tr.imp (Tr.deep (by decide) (sp_X1_begin_82_7 hS.1 )) ?_
    rintro M109 _ ⟨h109, o109_82_1, rfl⟩
    have hS := St.tr hS h109 (by decide) (by decide)
    refine Tr.sc [] rfl ?_
    exact Tr.vret (pc := 112) d_X6_begin_112 rfl ⟨hS, ((St.kp h109 (by decide) (by decide)).trans ((rd_wb _ rfl).trans ((rd_wb _ rfl).trans k96_74_1))), o109_82_1, rfl⟩
  refine Tr.if_lt (pc := 88) (tgt := 95) d_X6_begin_88 rfl (fun _ => ?_) (fun hc => absurd (by omega) hc)
  refine Tr.iconst (pc := 95) d_X6_begin_95 (by decide) ?_
  refine Tr.pick [0, 1, 3] (ls2 := [(0, (2, 74)), (1, (2, 7)), (3, (0, a3))]) rfl ?_
  exact J96 _ hS ((rd_wb _ rfl).trans ((rd_wb _ rfl).trans ((rd_wb _ rfl).trans ((rd_wb _ rfl).trans ((rd_wb _ rfl).trans ((rd_wb _ rfl).trans ((rd_fb _ rfl).trans ((rd_fb _ rfl).trans ((rd_fb _ rfl).trans ((rd_fb _ rfl).trans ((rd_fb _ rfl).trans ((rd_cb _ rfl).trans (rd_ws _ _ _ _))))))))))))) ((rd_wb _ rfl).trans ((rd_wb _ rfl).trans ((rd_wb _ rfl).trans ((rd_wb _ rfl).trans (rd_ws _ _ _ _))))) ((rd_wb _ rfl).trans ((rd_wb _ rfl).trans ((rd_wb _ rfl).trans (rd_ws _ _ _ _)))) ((rd_wb _ rfl).trans ((rd_wb _ rfl).trans (rd_ws _ _ _ _))) ((rd_wb _ rfl).trans (rd_ws _ _ _ _)) (rd_ws _ _ _ _) ((rd_wb _ rfl).trans ((rd_wb _ rfl).trans ((rd_wb _ rfl).trans ((rd_wb _ rfl).trans ((rd_wb _ rfl).trans (rd_ws _ _ _ _))))))

def ws_X6_go_74_7_104 : List (Int × Int) := [(74, 1), (74, 9), (74, 10), (74, 11), (74, 12), (74, 13), (74, 14), (74, 15), (74, 16), (74, 17), (82, 1)]
def as_X6_go_74_7_104 : List Int := [75, 76, 77, 78, 79, 80, 81, 83]
def q_X6_go_74_7_104 (M0 M' : Mem) (r : Option PV) : Prop := St ws_X6_go_74_7_104 as_X6_go_74_7_104 M0 M' ∧ rd M' 74 1 = 7 ∧ rd M' 82 1 = 7 ∧ r = none
set_option maxRecDepth 100000 in
set_option maxHeartbeats 4000000 in
theorem sp_X6_go_74_7_104 {l : Launch} {K : EC} {M0 : Mem} (hI : In M0)  (a3 : Int) (ha3 : (-1) ≤ a3 ∧ a3 ≤ (-1))  : Tr l K 5 mX6_go 0 [(0, (2, 74)), (1, (2, 7)), (2, (2, 104)), (3, (0, a3))] [] M0 (q_X6_go_74_7_104 M0) := by
  have hS : St ws_X6_go_74_7_104 as_X6_go_74_7_104 M0 M0 := St.rf hI
  refine Tr.aload_n (pc := 0) (i := 0) d_X6_go_0 rfl rfl ?_
  refine Tr.aload_n (pc := 1) (i := 1) d_X6_go_1 rfl rfl ?_
  refine Tr.aload_n (pc := 2) (i := 2) d_X6_go_2 rfl rfl ?_
  refine Tr.iload_n (pc := 3) (i := 3) d_X6_go_3 rfl rfl ?_
  refine Tr.tp (-1) (by omega) ?_
  refine Tr.callV (pc := 4) (as := [_, _, _]) d_X6_go_4 s_6_42 ok_X6_begin rfl rfl (Nat.le_of_ble_eq_true rfl) (Nat.le_of_ble_eq_true rfl) (by decide) (ty_74 hS.1.1) ?_
  refine Tr.imp (Tr.deep (by decide) (sp_X6_begin_74_7_104 hS.1 (-1) (by omega))) ?_
  rintro M4 _ ⟨h4, o4_74_1, o4_82_1, rfl⟩
  have hS := St.tr hS h4 (by decide) (by decide)
  refine Tr.sc [] rfl ?_
  refine Tr.iconst (pc := 7) d_X6_go_7 (by decide) ?_
  refine Tr.istore (pc := 8) (i := 4) (ls2 := [(4, (0, 0)), (0, (2, 74)), (1, (2, 7)), (2, (2, 104)), (3, (0, a3))]) d_X6_go_8 (by decide) rfl ?_
  refine Tr.iconst (pc := 10) d_X6_go_10 (by decide) ?_
  refine Tr.istore (pc := 11) (i := 5) (ls2 := [(5, (0, 0)), (4, (0, 0)), (0, (2, 74)), (1, (2, 7)), (2, (2, 104)), (3, (0, a3))]) d_X6_go_11 (by decide) rfl ?_
  have J13 : ∀ (n13 : Nat) (M : Mem) (p13_4 p13_5 : Int), St ws_X6_go_74_7_104 as_X6_go_74_7_104 M0 M → ((-2147483648) ≤ p13_4 ∧ p13_4 ≤ 2147483647) → (0 ≤ p13_5 ∧ p13_5 ≤ 2001) → rd M 74 1 = 7 → rd M 82 1 = 7 → (2001 - p13_5).toNat < n13 → Tr l K 5 mX6_go 13 [(0, (2, 74)), (4, (0, p13_4)), (5, (0, p13_5))] [] M (q_X6_go_74_7_104 M0) := by
    intro n13
    induction n13 with
    | zero => intro M p13_4 p13_5 hS bp13_4 bp13_5 k13_74_1 k13_82_1 hm13; exact absurd hm13 (Nat.not_lt_zero _)
    | succ n13 J13 =>
      intro M p13_4 p13_5 hS bp13_4 bp13_5 k13_74_1 k13_82_1 hm13
      refine Tr.iload (pc := 13) (i := 5) d_X6_go_13 rfl ?_
      refine Tr.sipush (pc := 15) d_X6_go_15 rfl (by decide) ?_
      have J103 : ∀ (M : Mem), St ws_X6_go_74_7_104 as_X6_go_74_7_104 M0 M → rd M 74 1 = 7 → rd M 82 1 = 7 → Tr l K 5 mX6_go 103 [(0, (2, 74))] [] M (q_X6_go_74_7_104 M0) := by
        intro M  hS  k103_74_1 k103_82_1
        refine Tr.aload_n (pc := 103) (i := 0) d_X6_go_103 rfl rfl ?_
        refine Tr.callV (pc := 104) (as := []) d_X6_go_104 s_6_82 ok_X6_finish rfl rfl (Nat.le_of_ble_eq_true rfl) (Nat.le_of_ble_eq_true rfl) (by decide) (ty_74 hS.1.1) ?_
        refine Tr.imp (Tr.deep (by decide) (sp_X6_finish_74 hS.1 k103_74_1 k103_82_1)) ?_
        rintro M104 _ ⟨h104, rfl⟩
        have hS := St.tr hS h104 (by decide) (by decide)
        refine Tr.sc [] rfl ?_
        exact Tr.vret (pc := 107) d_X6_go_107 rfl ⟨hS, ((St.kp h104 (by decide) (by decide)).trans k103_74_1), ((St.kp h104 (by decide) (by decide)).trans k103_82_1), rfl⟩
      refine Tr.icmp_gt (pc := 18) (tgt := 103) d_X6_go_18 rfl (fun c18 => ?_) (fun c18 => ?_)
      · refine Tr.pick [0] (ls2 := [(0, (2, 74))]) rfl ?_
        exact J103 _ hS k13_74_1 k13_82_1
      · refine Tr.iload (pc := 21) (i := 4) d_X6_go_21 rfl ?_
        refine Tr.aload_n (pc := 23) (i := 0) d_X6_go_23 rfl rfl ?_
        refine Tr.getf (pc := 24) d_X6_go_24 f_6_46 (by decide) (by decide) (ty_74 hS.1.1) ?_
        refine Tr.tp 7 k13_74_1 ?_
        refine Tr.getf (pc := 27) d_X6_go_27 f_6_50 (by decide) (by decide) (ty_7 hS.1.1) ?_
        refine Tr.tp 15 (fx_7_11 hS.1.1) ?_
        refine Tr.getf (pc := 30) d_X6_go_30 f_6_56 (by decide) (by decide) (ty_15 hS.1.1) ?_
        refine Tr.gen (P := fun v => 0 ≤ v ∧ v ≤ 60) (ir_15_0 hS.1.2.1) (fun r30 er30 br30 => ?_)
        refine Tr.icmp_ge (pc := 33) (tgt := 103) d_X6_go_33 rfl (fun c33 => ?_) (fun c33 => ?_)
        · refine Tr.pick [0] (ls2 := [(0, (2, 74))]) rfl ?_
          exact J103 _ hS k13_74_1 k13_82_1
        · refine Tr.aload_n (pc := 36) (i := 0) d_X6_go_36 rfl rfl ?_
          refine Tr.getf (pc := 37) d_X6_go_37 f_6_62 (by decide) (by decide) (ty_74 hS.1.1) ?_
          refine Tr.gen (P := fun v => (-2147483648) ≤ v ∧ v ≤ 2147483647) (ir_74_14 hS.1.2.1) (fun r37 er37 br37 => ?_)
          refine Tr.if_ne (pc := 40) (tgt := 103) d_X6_go_40 rfl (fun c40 => ?_) (fun c40 => ?_)
          · refine Tr.pick [0] (ls2 := [(0, (2, 74))]) rfl ?_
            exact J103 _ hS k13_74_1 k13_82_1
          · refine Tr.aload_n (pc := 43) (i := 0) d_X6_go_43 rfl rfl ?_
            refine Tr.getf (pc := 44) d_X6_go_44 f_6_38 (by decide) (by decide) (ty_74 hS.1.1) ?_
            refine Tr.tp 82 (fx_74_0 hS.1.1) ?_
            refine Tr.callV (pc := 47) (as := []) d_X6_go_47 s_6_65 ok_X1_makeRoom rfl rfl (Nat.le_of_ble_eq_true rfl) (Nat.le_of_ble_eq_true rfl) (by decide) (ty_82 hS.1.1) ?_
            refine Tr.imp (Tr.deep (by decide) (sp_X1_makeRoom_82 hS.1 )) ?_
            rintro M47 _ ⟨h47, rfl⟩
            have hS := St.tr hS h47 (by decide) (by decide)
            refine Tr.sc [] rfl ?_
            refine Tr.aload_n (pc := 50) (i := 0) d_X6_go_50 rfl rfl ?_
            refine Tr.getf (pc := 51) d_X6_go_51 f_6_68 (by decide) (by decide) (ty_74 hS.1.1) ?_
            refine Tr.gen (P := fun v => (-2147483648) ≤ v ∧ v ≤ 2147483647) (ir_74_9 hS.1.2.1) (fun r51 er51 br51 => ?_)
            refine Tr.istore (pc := 54) (i := 6) (ls2 := [(6, (0, r51)), (0, (2, 74)), (4, (0, p13_4)), (5, (0, p13_5))]) d_X6_go_54 (by decide) rfl ?_
            refine Tr.aload_n (pc := 56) (i := 0) d_X6_go_56 rfl rfl ?_
            refine Tr.iload (pc := 57) (i := 4) d_X6_go_57 rfl ?_
            refine Tr.callV (pc := 59) (as := [_]) d_X6_go_59 s_6_71 ok_X6_step rfl rfl (Nat.le_of_ble_eq_true rfl) (Nat.le_of_ble_eq_true rfl) (by decide) (ty_74 hS.1.1) ?_
            refine Tr.imp (Tr.deep (by decide) (sp_X6_step_74_w1 hS.1 ((St.kp h47 (by decide) (by decide)).trans k13_74_1) p13_4 (by omega))) ?_
            rintro M59 _ ⟨h59, r59, rfl, lr59, ur59⟩
            have hS := St.tr hS h59 (by decide) (by decide)
            refine Tr.sc [(0, r59)] rfl ?_
            refine Tr.istore (pc := 62) (i := 7) (ls2 := [(7, (0, r59)), (6, (0, r51)), (0, (2, 74)), (4, (0, p13_4)), (5, (0, p13_5))]) d_X6_go_62 (by decide) rfl ?_
            refine Tr.aload_n (pc := 64) (i := 0) d_X6_go_64 rfl rfl ?_
            refine Tr.getf (pc := 65) d_X6_go_65 f_6_38 (by decide) (by decide) (ty_74 hS.1.1) ?_
            refine Tr.tp 82 (fx_74_0 hS.1.1) ?_
            refine Tr.iload (pc := 68) (i := 4) d_X6_go_68 rfl ?_
            refine Tr.aload_n (pc := 70) (i := 0) d_X6_go_70 rfl rfl ?_
            refine Tr.getf (pc := 71) d_X6_go_71 f_6_68 (by decide) (by decide) (ty_74 hS.1.1) ?_
            refine Tr.gen (P := fun v => (-2147483648) ≤ v ∧ v ≤ 2147483647) (ir_74_9 hS.1.2.1) (fun r71 er71 br71 => ?_)
            refine Tr.iload (pc := 74) (i := 6) d_X6_go_74 rfl ?_
            refine Tr.isub (pc := 76) d_X6_go_76 ?_
            refine Tr.gen (P := fun v => (-2147483648) ≤ v ∧ v ≤ 2147483647) (w32_b _) (fun r76 er76 br76 => ?_)
            refine Tr.callV (pc := 77) (as := [_, _]) d_X6_go_77 s_6_75 ok_X1_payHeart rfl rfl (Nat.le_of_ble_eq_true rfl) (Nat.le_of_ble_eq_true rfl) (by decide) (ty_82 hS.1.1) ?_
            refine Tr.imp (Tr.deep (by decide) (sp_X1_payHeart_82_w1 hS.1 p13_4 (by omega) r76 (by omega))) ?_
            rintro M77 _ ⟨h77, rfl⟩
            have hS := St.tr hS h77 (by decide) (by decide)
            refine Tr.sc [] rfl ?_
            refine Tr.aload_n (pc := 80) (i := 0) d_X6_go_80 rfl rfl ?_
            refine Tr.getf (pc := 81) d_X6_go_81 f_6_62 (by decide) (by decide) (ty_74 hS.1.1) ?_
            refine Tr.gen (P := fun v => (-2147483648) ≤ v ∧ v ≤ 2147483647) (ir_74_14 hS.1.2.1) (fun r81 er81 br81 => ?_)
            have J93 : ∀ (M : Mem), St ws_X6_go_74_7_104 as_X6_go_74_7_104 M0 M → rd M 15 0 = r30 → rd M 74 1 = 7 → rd M 74 14 = r81 → rd M 74 9 = r71 → rd M 82 1 = 7 → Tr l K 5 mX6_go 93 [(0, (2, 74)), (5, (0, p13_5)), (7, (0, r59))] [] M (q_X6_go_74_7_104 M0) := by
              intro M  hS  k93_15_0 k93_74_1 k93_74_14 k93_74_9 k93_82_1
              refine Tr.iload (pc := 93) (i := 7) d_X6_go_93 rfl ?_
              refine Tr.istore (pc := 95) (i := 4) (ls2 := [(4, (0, r59)), (0, (2, 74)), (5, (0, p13_5)), (7, (0, r59))]) d_X6_go_95 (by decide) rfl ?_
              refine Tr.iincV (pc := 97) (n2 := (p13_5 + 1)) (ls2 := [(5, (0, (p13_5 + 1))), (4, (0, r59)), (0, (2, 74)), (7, (0, r59))]) d_X6_go_97 rfl (by decide) ((w32_id (by omega)).trans (by omega)) rfl ?_
              refine Tr.goto (pc := 100) (tgt := 13) d_X6_go_100 rfl ?_
              refine Tr.pick [2, 1, 0] (ls2 := [(0, (2, 74)), (4, (0, r59)), (5, (0, (p13_5 + 1)))]) rfl ?_
              exact J13 _ _ _ hS (by omega) (by omega) k93_74_1 k93_82_1 (by omega)
            refine Tr.if_eq (pc := 84) (tgt := 93) d_X6_go_84 rfl (fun c84 => ?_) (fun c84 => ?_)
            · refine Tr.pick [2, 4, 0] (ls2 := [(0, (2, 74)), (5, (0, p13_5)), (7, (0, r59))]) rfl ?_
              exact J93 _ hS ((St.kp h77 (by decide) (by decide)).trans ((St.kp h59 (by decide) (by decide)).trans ((St.kp h47 (by decide) (by decide)).trans er30))) ((St.kp h77 (by decide) (by decide)).trans ((St.kp h59 (by decide) (by decide)).trans ((St.kp h47 (by decide) (by decide)).trans k13_74_1))) er81 ((St.kp h77 (by decide) (by decide)).trans er71) ((St.kp h77 (by decide) (by decide)).trans ((St.kp h59 (by decide) (by decide)).trans ((St.kp h47 (by decide) (by decide)).trans k13_82_1)))
            · refine Tr.aload_n (pc := 87) (i := 0) d_X6_go_87 rfl rfl ?_
              refine Tr.iload (pc := 88) (i := 4) d_X6_go_88 rfl ?_
              refine Tr.putfS (pc := 90) (P := St ws_X6_go_74_7_104 as_X6_go_74_7_104 M0) d_X6_go_90 f_6_79 (by decide) (by decide) (ty_74 hS.1.1) (st_74_15 hS (by decide) (by omega)) (fun hS => ?_)
              refine Tr.pick [2, 4, 0] (ls2 := [(0, (2, 74)), (5, (0, p13_5)), (7, (0, r59))]) rfl ?_
              exact J93 _ hS ((rd_wb _ rfl).trans ((St.kp h77 (by decide) (by decide)).trans ((St.kp h59 (by decide) (by decide)).trans ((St.kp h47 (by decide) (by decide)).trans er30)))) ((rd_wb _ rfl).trans ((St.kp h77 (by decide) (by decide)).trans ((St.kp h59 (by decide) (by decide)).trans ((St.kp h47 (by decide) (by decide)).trans k13_74_1)))) ((rd_wb _ rfl).trans er81) ((rd_wb _ rfl).trans ((St.kp h77 (by decide) (by decide)).trans er71)) ((rd_wb _ rfl).trans ((St.kp h77 (by decide) (by decide)).trans ((St.kp h59 (by decide) (by decide)).trans ((St.kp h47 (by decide) (by decide)).trans k13_82_1))))
  refine Tr.pick [2, 1, 0] (ls2 := [(0, (2, 74)), (4, (0, 0)), (5, (0, 0))]) rfl ?_
  exact J13 _ _ _ _ hS (by omega) (by omega) o4_74_1 o4_82_1 (Nat.lt_succ_self _)

def ws_X10_turnOn_103_7 : List (Int × Int) := []
def as_X10_turnOn_103_7 : List Int := [104]
def q_X10_turnOn_103_7 (M0 M' : Mem) (r : Option PV) : Prop := St ws_X10_turnOn_103_7 as_X10_turnOn_103_7 M0 M' ∧ r = none
set_option maxRecDepth 100000 in
set_option maxHeartbeats 4000000 in
theorem sp_X10_turnOn_103_7 {l : Launch} {K : EC} {M0 : Mem} (hI : In M0)    : Tr l K 0 mX10_turnOn 0 [(0, (2, 103)), (1, (2, 7))] [] M0 (q_X10_turnOn_103_7 M0) := by
  have hS : St ws_X10_turnOn_103_7 as_X10_turnOn_103_7 M0 M0 := St.rf hI
  refine Tr.aload_n (pc := 0) (i := 1) d_X10_turnOn_0 rfl rfl ?_
  refine Tr.getf (pc := 1) d_X10_turnOn_1 f_10_25 (by decide) (by decide) (ty_7 hS.1.1) ?_
  refine Tr.tp 8 (fx_7_4 hS.1.1) ?_
  refine Tr.iconst (pc := 4) d_X10_turnOn_4 (by decide) ?_
  refine Tr.iald (pc := 5) d_X10_turnOn_5 (ty_8 hS.1.1) (by omega) (by omega) ?_
  refine Tr.gen (P := fun v => 0 ≤ v ∧ v ≤ 3) (ir_8_1 hS.1.2.1) (fun r5 er5 br5 => ?_)
  refine Tr.iconst (pc := 6) d_X10_turnOn_6 (by decide) ?_
  refine Tr.isub (pc := 7) d_X10_turnOn_7 ?_
  refine Tr.tp (r5 - 1) ((w32_id (by omega)).trans (by omega)) ?_
  refine Tr.istore_n (pc := 8) (i := 2) (ls2 := [(2, (0, (r5 - 1))), (0, (2, 103)), (1, (2, 7))]) d_X10_turnOn_8 rfl (by decide) rfl ?_
  have J9 : ∀ (n9 : Nat) (M : Mem) (p9_2 : Int), St ws_X10_turnOn_103_7 as_X10_turnOn_103_7 M0 M → ((-1) ≤ p9_2 ∧ p9_2 ≤ 2) → rd M 8 1 = r5 → (p9_2 - (-1)).toNat < n9 → Tr l K 0 mX10_turnOn 9 [(0, (2, 103)), (1, (2, 7)), (2, (0, p9_2))] [] M (q_X10_turnOn_103_7 M0) := by
    intro n9
    induction n9 with
    | zero => intro M p9_2 hS bp9_2 k9_8_1 hm9; exact absurd hm9 (Nat.not_lt_zero _)
    | succ n9 J9 =>
      intro M p9_2 hS bp9_2 k9_8_1 hm9
      refine Tr.iload_n (pc := 9) (i := 2) d_X10_turnOn_9 rfl rfl ?_
      refine Tr.if_lt (pc := 10) (tgt := 57) d_X10_turnOn_10 rfl (fun c10 => ?_) (fun c10 => ?_)
      · exact Tr.vret (pc := 57) d_X10_turnOn_57 rfl ⟨hS, rfl⟩
      · refine Tr.aload_n (pc := 13) (i := 0) d_X10_turnOn_13 rfl rfl ?_
        refine Tr.getf (pc := 14) d_X10_turnOn_14 f_10_9 (by decide) (by decide) (ty_103 hS.1.1) ?_
        refine Tr.tp 104 (fx_103_4 hS.1.1) ?_
        refine Tr.iload_n (pc := 17) (i := 2) d_X10_turnOn_17 rfl rfl ?_
        refine Tr.iald (pc := 18) d_X10_turnOn_18 (ty_104 hS.1.1) (by omega) (by omega) ?_
        refine Tr.gen (P := fun v => (-2147483648) ≤ v ∧ v ≤ 2147483647) (ar_104 hS.1.2.1 _) (fun r18 er18 br18 => ?_)
        refine Tr.aload_n (pc := 19) (i := 1) d_X10_turnOn_19 rfl rfl ?_
        refine Tr.getf (pc := 20) d_X10_turnOn_20 f_10_30 (by decide) (by decide) (ty_7 hS.1.1) ?_
        refine Tr.tp 13 (fx_7_9 hS.1.1) ?_
        refine Tr.iload_n (pc := 23) (i := 2) d_X10_turnOn_23 rfl rfl ?_
        refine Tr.iald (pc := 24) d_X10_turnOn_24 (ty_13 hS.1.1) (by omega) (by omega) ?_
        refine Tr.gen (P := fun v => 0 ≤ v ∧ v ≤ 99) (ar_13 hS.1.2.1 _) (fun r24 er24 br24 => ?_)
        refine Tr.icmp_ge (pc := 25) (tgt := 39) d_X10_turnOn_25 rfl (fun c25 => ?_) (fun c25 => ?_)
        · refine Tr.aload_n (pc := 39) (i := 0) d_X10_turnOn_39 rfl rfl ?_
          refine Tr.getf (pc := 40) d_X10_turnOn_40 f_10_9 (by decide) (by decide) (ty_103 hS.1.1) ?_
          refine Tr.tp 104 (fx_103_4 hS.1.1) ?_
          refine Tr.iload_n (pc := 43) (i := 2) d_X10_turnOn_43 rfl rfl ?_
          refine Tr.aload_n (pc := 44) (i := 1) d_X10_turnOn_44 rfl rfl ?_
          refine Tr.getf (pc := 45) d_X10_turnOn_45 f_10_33 (by decide) (by decide) (ty_7 hS.1.1) ?_
          refine Tr.tp 12 (fx_7_8 hS.1.1) ?_
          refine Tr.iload_n (pc := 48) (i := 2) d_X10_turnOn_48 rfl rfl ?_
          refine Tr.iald (pc := 49) d_X10_turnOn_49 (ty_12 hS.1.1) (by omega) (by omega) ?_
          refine Tr.gen (P := fun v => (-1) ≤ v ∧ v ≤ 99) (ar_12 hS.1.2.1 _) (fun r49 er49 br49 => ?_)
          refine Tr.iastS (pc := 50) (P := St ws_X10_turnOn_103_7 as_X10_turnOn_103_7 M0) d_X10_turnOn_50 (ty_104 hS.1.1) (by omega) (by omega) (sa_104 hS (by decide) (by omega)) (fun hS => ?_)
          refine Tr.iincV (pc := 51) (n2 := (p9_2 - 1)) (ls2 := [(2, (0, (p9_2 - 1))), (0, (2, 103)), (1, (2, 7))]) d_X10_turnOn_51 rfl (by decide) ((w32_id (by omega)).trans (by omega)) rfl ?_
          refine Tr.goto (pc := 54) (tgt := 9) d_X10_turnOn_54 rfl ?_
          refine Tr.pick [1, 2, 0] (ls2 := [(0, (2, 103)), (1, (2, 7)), (2, (0, (p9_2 - 1)))]) rfl ?_
          exact J9 _ _ hS (by omega) ((rd_wb _ rfl).trans k9_8_1) (by omega)
        · refine Tr.aload_n (pc := 28) (i := 0) d_X10_turnOn_28 rfl rfl ?_
          refine Tr.getf (pc := 29) d_X10_turnOn_29 f_10_9 (by decide) (by decide) (ty_103 hS.1.1) ?_
          refine Tr.tp 104 (fx_103_4 hS.1.1) ?_
          refine Tr.iload_n (pc := 32) (i := 2) d_X10_turnOn_32 rfl rfl ?_
          refine Tr.dup2 (pc := 33) d_X10_turnOn_33 ne01 ne21 ?_
          refine Tr.iald (pc := 34) d_X10_turnOn_34 (ty_104 hS.1.1) (by omega) (by omega) ?_
          refine Tr.tp r18 er18 ?_
          refine Tr.iconst (pc := 35) d_X10_turnOn_35 (by decide) ?_
          refine Tr.iadd (pc := 36) d_X10_turnOn_36 ?_
          refine Tr.tp (r18 + 1) ((w32_id (by omega)).trans (by omega)) ?_
          refine Tr.iastS (pc := 37) (P := St ws_X10_turnOn_103_7 as_X10_turnOn_103_7 M0) d_X10_turnOn_37 (ty_104 hS.1.1) (by omega) (by omega) (sa_104 hS (by decide) (by omega)) (fun hS => ?_)
          exact Tr.vret (pc := 38) d_X10_turnOn_38 rfl ⟨hS, rfl⟩
  refine Tr.pick [1, 2, 0] (ls2 := [(0, (2, 103)), (1, (2, 7)), (2, (0, (r5 - 1)))]) rfl ?_
  exact J9 _ _ _ hS (by omega) er5 (Nat.lt_succ_self _)

def ws_X10_compare_103_w1 : List (Int × Int) := [(103, 2), (103, 3)]
def as_X10_compare_103_w1 : List Int := [105, 106]
def q_X10_compare_103_w1 (M0 M' : Mem) (r : Option PV) : Prop := St ws_X10_compare_103_w1 as_X10_compare_103_w1 M0 M' ∧ r = none
set_option maxRecDepth 100000 in
set_option maxHeartbeats 4000000 in
theorem sp_X10_compare_103_w1 {l : Launch} {K : EC} {M0 : Mem} (hI : In M0)  (a1 : Int) (ha1 : (-2147483648) ≤ a1 ∧ a1 ≤ 2147483647) (a2 : Int) (ha2 : 0 ≤ a2 ∧ a2 ≤ 1)  : Tr l K 1 mX10_compare 0 [(0, (2, 103)), (1, (0, a1)), (2, (0, a2))] [] M0 (q_X10_compare_103_w1 M0) := by
  have hS : St ws_X10_compare_103_w1 as_X10_compare_103_w1 M0 M0 := St.rf hI
  refine Tr.iload_n (pc := 0) (i := 2) d_X10_compare_0 rfl rfl ?_
  have J31 : ∀ (M : Mem), St ws_X10_compare_103_w1 as_X10_compare_103_w1 M0 M → Tr l K 1 mX10_compare 31 [(0, (2, 103)), (1, (0, a1)), (2, (0, a2))] [] M (q_X10_compare_103_w1 M0) := by
    intro M  hS  
    refine Tr.iload_n (pc := 31) (i := 2) d_X10_compare_31 rfl rfl ?_
    have J43 : ∀ (M : Mem), St ws_X10_compare_103_w1 as_X10_compare_103_w1 M0 M → Tr l K 1 mX10_compare 43 [(0, (2, 103)), (1, (0, a1))] [] M (q_X10_compare_103_w1 M0) := by
      intro M  hS  
      refine Tr.aload_n (pc := 43) (i := 0) d_X10_compare_43 rfl rfl ?_
      refine Tr.iload_n (pc := 44) (i := 1) d_X10_compare_44 rfl rfl ?_
      refine Tr.putfS (pc := 45) (P := St ws_X10_compare_103_w1 as_X10_compare_103_w1 M0) d_X10_compare_45 f_10_50 (by decide) (by decide) (ty_103 hS.1.1) (st_103_3 hS (by decide) (by omega)) (fun hS => ?_)
      refine Tr.aload_n (pc := 48) (i := 0) d_X10_compare_48 rfl rfl ?_
      refine Tr.getf (pc := 49) d_X10_compare_49 f_10_9 (by decide) (by decide) (ty_103 hS.1.1) ?_
      refine Tr.tp 104 (fx_103_4 hS.1.1) ?_
      refine Tr.iconst (pc := 52) d_X10_compare_52 (by decide) ?_
      refine Tr.aload_n (pc := 53) (i := 0) d_X10_compare_53 rfl rfl ?_
      refine Tr.getf (pc := 54) d_X10_compare_54 f_10_18 (by decide) (by decide) (ty_103 hS.1.1) ?_
      refine Tr.tp 106 (fx_103_6 hS.1.1) ?_
      refine Tr.iconst (pc := 57) d_X10_compare_57 (by decide) ?_
      refine Tr.iconst (pc := 58) d_X10_compare_58 (by decide) ?_
      refine Tr.acopyS (pc := 59) (x := 104) (y := 106) (P := St ws_X10_compare_103_w1 as_X10_compare_103_w1 M0) d_X10_compare_59 ac_10_36 acw.1 acw.2.1 acw.2.2 (ty_104 hS.1.1) (ty_106 hS.1.1) (by omega) (by omega) (by omega) (by omega) (by omega) (Nat.le_of_ble_eq_true rfl) (sw_106 hS (by decide) rfl rfl (fun z i hz => by rw [rd_cpy, if_neg (fun c => hz c.1)]) (fun i => by rw [rd_cpy]; split; exact And.intro (by have := ar_104 hS.1.2.1 (0 + (i - 0)); omega) (by have := ar_104 hS.1.2.1 (0 + (i - 0)); omega); exact ar_106 hS.1.2.1 i)) (fun hS => ?_)
      exact Tr.vret (pc := 62) d_X10_compare_62 rfl ⟨hS, rfl⟩
    refine Tr.if_ne (pc := 32) (tgt := 43) d_X10_compare_32 rfl (fun c32 => ?_) (fun c32 => ?_)
    · refine Tr.pick [0, 1] (ls2 := [(0, (2, 103)), (1, (0, a1))]) rfl ?_
      exact J43 _ hS 
    · refine Tr.iload_n (pc := 35) (i := 1) d_X10_compare_35 rfl rfl ?_
      refine Tr.aload_n (pc := 36) (i := 0) d_X10_compare_36 rfl rfl ?_
      refine Tr.getf (pc := 37) d_X10_compare_37 f_10_50 (by decide) (by decide) (ty_103 hS.1.1) ?_
      refine Tr.gen (P := fun v => (-2147483648) ≤ v ∧ v ≤ 2147483647) (ir_103_3 hS.1.2.1) (fun r37 er37 br37 => ?_)
      refine Tr.icmp_ge (pc := 40) (tgt := 62) d_X10_compare_40 rfl (fun c40 => ?_) (fun c40 => ?_)
      · exact Tr.vret (pc := 62) d_X10_compare_62 rfl ⟨hS, rfl⟩
      · refine Tr.pick [0, 1] (ls2 := [(0, (2, 103)), (1, (0, a1))]) rfl ?_
        exact J43 _ hS 
  have J12 : ∀ (M : Mem), St ws_X10_compare_103_w1 as_X10_compare_103_w1 M0 M → Tr l K 1 mX10_compare 12 [(0, (2, 103)), (1, (0, a1)), (2, (0, a2))] [] M (q_X10_compare_103_w1 M0) := by
    intro M  hS  
    refine Tr.aload_n (pc := 12) (i := 0) d_X10_compare_12 rfl rfl ?_
    refine Tr.iload_n (pc := 13) (i := 1) d_X10_compare_13 rfl rfl ?_
    refine Tr.putfS (pc := 14) (P := St ws_X10_compare_103_w1 as_X10_compare_103_w1 M0) d_X10_compare_14 f_10_46 (by decide) (by decide) (ty_103 hS.1.1) (st_103_2 hS (by decide) (by omega)) (fun hS => ?_)
    refine Tr.aload_n (pc := 17) (i := 0) d_X10_compare_17 rfl rfl ?_
    refine Tr.getf (pc := 18) d_X10_compare_18 f_10_9 (by decide) (by decide) (ty_103 hS.1.1) ?_
    refine Tr.tp 104 (fx_103_4 hS.1.1) ?_
    refine Tr.iconst (pc := 21) d_X10_compare_21 (by decide) ?_
    refine Tr.aload_n (pc := 22) (i := 0) d_X10_compare_22 rfl rfl ?_
    refine Tr.getf (pc := 23) d_X10_compare_23 f_10_15 (by decide) (by decide) (ty_103 hS.1.1) ?_
    refine Tr.tp 105 (fx_103_5 hS.1.1) ?_
    refine Tr.iconst (pc := 26) d_X10_compare_26 (by decide) ?_
    refine Tr.iconst (pc := 27) d_X10_compare_27 (by decide) ?_
    refine Tr.acopyS (pc := 28) (x := 104) (y := 105) (P := St ws_X10_compare_103_w1 as_X10_compare_103_w1 M0) d_X10_compare_28 ac_10_36 acw.1 acw.2.1 acw.2.2 (ty_104 hS.1.1) (ty_105 hS.1.1) (by omega) (by omega) (by omega) (by omega) (by omega) (Nat.le_of_ble_eq_true rfl) (sw_105 hS (by decide) rfl rfl (fun z i hz => by rw [rd_cpy, if_neg (fun c => hz c.1)]) (fun i => by rw [rd_cpy]; split; exact And.intro (by have := ar_104 hS.1.2.1 (0 + (i - 0)); omega) (by have := ar_104 hS.1.2.1 (0 + (i - 0)); omega); exact ar_105 hS.1.2.1 i)) (fun hS => ?_)
    refine Tr.pick [0, 1, 2] (ls2 := [(0, (2, 103)), (1, (0, a1)), (2, (0, a2))]) rfl ?_
    exact J31 _ hS 
  refine Tr.if_ne (pc := 1) (tgt := 12) d_X10_compare_1 rfl (fun c1 => ?_) (fun c1 => ?_)
  · refine Tr.pick [0, 1, 2] (ls2 := [(0, (2, 103)), (1, (0, a1)), (2, (0, a2))]) rfl ?_
    exact J12 _ hS 
  · refine Tr.iload_n (pc := 4) (i := 1) d_X10_compare_4 rfl rfl ?_
    refine Tr.aload_n (pc := 5) (i := 0) d_X10_compare_5 rfl rfl ?_
    refine Tr.getf (pc := 6) d_X10_compare_6 f_10_46 (by decide) (by decide) (ty_103 hS.1.1) ?_
    refine Tr.gen (P := fun v => (-2147483648) ≤ v ∧ v ≤ 2147483647) (ir_103_2 hS.1.2.1) (fun r6 er6 br6 => ?_)
    refine Tr.icmp_le (pc := 9) (tgt := 31) d_X10_compare_9 rfl (fun c9 => ?_) (fun c9 => ?_)
    · refine Tr.pick [0, 1, 2] (ls2 := [(0, (2, 103)), (1, (0, a1)), (2, (0, a2))]) rfl ?_
      exact J31 _ hS 
    · refine Tr.pick [0, 1, 2] (ls2 := [(0, (2, 103)), (1, (0, a1)), (2, (0, a2))]) rfl ?_
      exact J12 _ hS 

def ws_X11_over_0 : List (Int × Int) := [(74, 1), (74, 9), (74, 10), (74, 11), (74, 12), (74, 13), (74, 14), (74, 15), (74, 16), (74, 17), (82, 1), (103, 0), (103, 1), (103, 2), (103, 3)]
def as_X11_over_0 : List Int := [75, 76, 77, 78, 79, 80, 81, 83, 104, 105, 106]
def q_X11_over_0 (M0 M' : Mem) (r : Option PV) : Prop := St ws_X11_over_0 as_X11_over_0 M0 M' ∧ ∃ v : Int, r = some (0, v) ∧ (-2147483648) ≤ v ∧ v ≤ 2147483647
set_option maxRecDepth 100000 in
set_option maxHeartbeats 4000000 in
theorem sp_X11_over_0 {l : Launch} {K : EC} {M0 : Mem} (hI : In M0) (en_0_4 : rd M0 0 4 = 7) (a1 : Int) (ha1 : 0 ≤ a1 ∧ a1 ≤ 1)  : Tr l K 6 mX11_over 0 [(0, (2, 0)), (1, (0, a1))] [] M0 (q_X11_over_0 M0) := by
  have hS : St ws_X11_over_0 as_X11_over_0 M0 M0 := St.rf hI
  refine Tr.aload_n (pc := 0) (i := 0) d_X11_over_0 rfl rfl ?_
  refine Tr.getf (pc := 1) d_X11_over_1 f_11_63 (by decide) (by decide) (ty_0 hS.1.1) ?_
  refine Tr.tp 103 (fx_0_11 hS.1.1) ?_
  refine Tr.aload_n (pc := 4) (i := 0) d_X11_over_4 rfl rfl ?_
  refine Tr.getf (pc := 5) d_X11_over_5 f_11_30 (by decide) (by decide) (ty_0 hS.1.1) ?_
  refine Tr.tp 7 ((St.kp hS (by decide) (by decide)).trans en_0_4) ?_
  refine Tr.callV (pc := 8) (as := [_]) d_X11_over_8 s_11_249 ok_X10_begin rfl rfl (Nat.le_of_ble_eq_true rfl) (Nat.le_of_ble_eq_true rfl) (by decide) (ty_103 hS.1.1) ?_
  refine Tr.imp (Tr.deep (by decide) (sp_X10_begin_103_7 hS.1 )) ?_
  rintro M8 _ ⟨h8, r8, rfl, lr8, ur8⟩
  have hS := St.tr hS h8 (by decide) (by decide)
  refine Tr.sc [(0, r8)] rfl ?_
  refine Tr.istore_n (pc := 11) (i := 2) (ls2 := [(2, (0, r8)), (0, (2, 0)), (1, (0, a1))]) d_X11_over_11 rfl (by decide) rfl ?_
  refine Tr.iload_n (pc := 12) (i := 2) d_X11_over_12 rfl rfl ?_
  refine Tr.sipush (pc := 13) d_X11_over_13 rfl (by decide) ?_
  refine Tr.icmp_le (pc := 16) (tgt := 21) d_X11_over_16 rfl (fun c16 => ?_) (fun c16 => ?_)
  · refine Tr.iconst (pc := 21) d_X11_over_21 (by decide) ?_
    refine Tr.istore_n (pc := 22) (i := 3) (ls2 := [(3, (0, 0)), (2, (0, r8)), (0, (2, 0)), (1, (0, a1))]) d_X11_over_22 rfl (by decide) rfl ?_
    have J23 : ∀ (n23 : Nat) (M : Mem) (p23_3 : Int), St ws_X11_over_0 as_X11_over_0 M0 M → (0 ≤ p23_3 ∧ p23_3 ≤ 256) → (256 - p23_3).toNat < n23 → Tr l K 6 mX11_over 23 [(0, (2, 0)), (1, (0, a1)), (2, (0, r8)), (3, (0, p23_3))] [] M (q_X11_over_0 M0) := by
      intro n23
      induction n23 with
      | zero => intro M p23_3 hS bp23_3  hm23; exact absurd hm23 (Nat.not_lt_zero _)
      | succ n23 J23 =>
        intro M p23_3 hS bp23_3  hm23
        refine Tr.iload_n (pc := 23) (i := 3) d_X11_over_23 rfl rfl ?_
        refine Tr.iload_n (pc := 24) (i := 2) d_X11_over_24 rfl rfl ?_
        refine Tr.icmp_ge (pc := 25) (tgt := 87) d_X11_over_25 rfl (fun c25 => ?_) (fun c25 => ?_)
        · refine Tr.aload_n (pc := 87) (i := 0) d_X11_over_87 rfl rfl ?_
          refine Tr.getf (pc := 88) d_X11_over_88 f_11_63 (by decide) (by decide) (ty_0 hS.1.1) ?_
          refine Tr.tp 103 (fx_0_11 hS.1.1) ?_
          refine Tr.iload_n (pc := 91) (i := 1) d_X11_over_91 rfl rfl ?_
          refine Tr.callV (pc := 92) (as := [_]) d_X11_over_92 s_11_264 ok_X10_choose rfl rfl (Nat.le_of_ble_eq_true rfl) (Nat.le_of_ble_eq_true rfl) (by decide) (ty_103 hS.1.1) ?_
          refine Tr.imp (Tr.deep (by decide) (sp_X10_choose_103 hS.1 a1 (by omega))) ?_
          rintro M92 _ ⟨h92, r92, rfl, lr92, ur92⟩
          have hS := St.tr hS h92 (by decide) (by decide)
          refine Tr.sc [(0, r92)] rfl ?_
          exact Tr.iret (pc := 95) d_X11_over_95 rfl ⟨hS, _, rfl, by omega, by omega⟩
        · refine Tr.aload_n (pc := 28) (i := 0) d_X11_over_28 rfl rfl ?_
          refine Tr.getf (pc := 29) d_X11_over_29 f_11_50 (by decide) (by decide) (ty_0 hS.1.1) ?_
          refine Tr.tp 74 (fx_0_8 hS.1.1) ?_
          refine Tr.aload_n (pc := 32) (i := 0) d_X11_over_32 rfl rfl ?_
          refine Tr.getf (pc := 33) d_X11_over_33 f_11_30 (by decide) (by decide) (ty_0 hS.1.1) ?_
          refine Tr.tp 7 ((St.kp hS (by decide) (by decide)).trans en_0_4) ?_
          refine Tr.aload_n (pc := 36) (i := 0) d_X11_over_36 rfl rfl ?_
          refine Tr.getf (pc := 37) d_X11_over_37 f_11_63 (by decide) (by decide) (ty_0 hS.1.1) ?_
          refine Tr.tp 103 (fx_0_11 hS.1.1) ?_
          refine Tr.getf (pc := 40) d_X11_over_40 f_11_253 (by decide) (by decide) (ty_103 hS.1.1) ?_
          refine Tr.tp 104 (fx_103_4 hS.1.1) ?_
          refine Tr.iconst (pc := 43) d_X11_over_43 (by decide) ?_
          refine Tr.callV (pc := 44) (as := [_, _, _]) d_X11_over_44 s_11_144 ok_X6_go rfl rfl (Nat.le_of_ble_eq_true rfl) (Nat.le_of_ble_eq_true rfl) (by decide) (ty_74 hS.1.1) ?_
          refine Tr.imp (Tr.deep (by decide) (sp_X6_go_74_7_104 hS.1 (-1) (by omega))) ?_
          rintro M44 _ ⟨h44, o44_74_1, o44_82_1, rfl⟩
          have hS := St.tr hS h44 (by decide) (by decide)
          refine Tr.sc [] rfl ?_
          refine Tr.aload_n (pc := 47) (i := 0) d_X11_over_47 rfl rfl ?_
          refine Tr.getf (pc := 48) d_X11_over_48 f_11_63 (by decide) (by decide) (ty_0 hS.1.1) ?_
          refine Tr.tp 103 (fx_0_11 hS.1.1) ?_
          refine Tr.aload_n (pc := 51) (i := 0) d_X11_over_51 rfl rfl ?_
          refine Tr.getf (pc := 52) d_X11_over_52 f_11_50 (by decide) (by decide) (ty_0 hS.1.1) ?_
          refine Tr.tp 74 (fx_0_8 hS.1.1) ?_
          refine Tr.getf (pc := 55) d_X11_over_55 f_11_155 (by decide) (by decide) (ty_74 hS.1.1) ?_
          refine Tr.gen (P := fun v => (-2147483648) ≤ v ∧ v ≤ 2147483647) (ir_74_10 hS.1.2.1) (fun r55 er55 br55 => ?_)
          refine Tr.iload_n (pc := 58) (i := 3) d_X11_over_58 rfl rfl ?_
          have J67 : ∀ (M : Mem) (q67_2 : Int), St ws_X11_over_0 as_X11_over_0 M0 M → (0 ≤ q67_2 ∧ q67_2 ≤ 1) → rd M 74 1 = 7 → rd M 74 10 = r55 → rd M 82 1 = 7 → Tr l K 6 mX11_over 67 [(0, (2, 0)), (1, (0, a1)), (2, (0, r8)), (3, (0, p23_3))] [(0, q67_2), (0, r55), (2, 103)] M (q_X11_over_0 M0) := by
            intro M q67_2 hS bq67_2 k67_74_1 k67_74_10 k67_82_1
            refine Tr.callV (pc := 67) (as := [_, _]) d_X11_over_67 s_11_256 ok_X10_compare rfl rfl (Nat.le_of_ble_eq_true rfl) (Nat.le_of_ble_eq_true rfl) (by decide) (ty_103 hS.1.1) ?_
            refine Tr.imp (Tr.deep (by decide) (sp_X10_compare_103_w1 hS.1 r55 (by omega) q67_2 (by omega))) ?_
            rintro M67 _ ⟨h67, rfl⟩
            have hS := St.tr hS h67 (by decide) (by decide)
            refine Tr.sc [] rfl ?_
            refine Tr.aload_n (pc := 70) (i := 0) d_X11_over_70 rfl rfl ?_
            refine Tr.getf (pc := 71) d_X11_over_71 f_11_63 (by decide) (by decide) (ty_0 hS.1.1) ?_
            refine Tr.tp 103 (fx_0_11 hS.1.1) ?_
            refine Tr.aload_n (pc := 74) (i := 0) d_X11_over_74 rfl rfl ?_
            refine Tr.getf (pc := 75) d_X11_over_75 f_11_30 (by decide) (by decide) (ty_0 hS.1.1) ?_
            refine Tr.tp 7 ((St.kp hS (by decide) (by decide)).trans en_0_4) ?_
            refine Tr.callV (pc := 78) (as := [_]) d_X11_over_78 s_11_260 ok_X10_turnOn rfl rfl (Nat.le_of_ble_eq_true rfl) (Nat.le_of_ble_eq_true rfl) (by decide) (ty_103 hS.1.1) ?_
            refine Tr.imp (Tr.deep (by decide) (sp_X10_turnOn_103_7 hS.1 )) ?_
            rintro M78 _ ⟨h78, rfl⟩
            have hS := St.tr hS h78 (by decide) (by decide)
            refine Tr.sc [] rfl ?_
            refine Tr.iincV (pc := 81) (n2 := (p23_3 + 1)) (ls2 := [(3, (0, (p23_3 + 1))), (0, (2, 0)), (1, (0, a1)), (2, (0, r8))]) d_X11_over_81 rfl (by decide) ((w32_id (by omega)).trans (by omega)) rfl ?_
            refine Tr.goto (pc := 84) (tgt := 23) d_X11_over_84 rfl ?_
            refine Tr.pick [1, 2, 3, 0] (ls2 := [(0, (2, 0)), (1, (0, a1)), (2, (0, r8)), (3, (0, (p23_3 + 1)))]) rfl ?_
            exact J23 _ _ hS (by omega) (by omega)
          refine Tr.if_ne (pc := 59) (tgt := 66) d_X11_over_59 rfl (fun c59 => ?_) (fun c59 => ?_)
          · refine Tr.iconst (pc := 66) d_X11_over_66 (by decide) ?_
            refine Tr.pick [0, 1, 2, 3] (ls2 := [(0, (2, 0)), (1, (0, a1)), (2, (0, r8)), (3, (0, p23_3))]) rfl ?_
            exact J67 _ _ hS (by omega) o44_74_1 er55 o44_82_1
          · refine Tr.iconst (pc := 62) d_X11_over_62 (by decide) ?_
            refine Tr.goto (pc := 63) (tgt := 67) d_X11_over_63 rfl ?_
            refine Tr.pick [0, 1, 2, 3] (ls2 := [(0, (2, 0)), (1, (0, a1)), (2, (0, r8)), (3, (0, p23_3))]) rfl ?_
            exact J67 _ _ hS (by omega) o44_74_1 er55 o44_82_1
    refine Tr.pick [2, 3, 1, 0] (ls2 := [(0, (2, 0)), (1, (0, a1)), (2, (0, r8)), (3, (0, 0))]) rfl ?_
    exact J23 _ _ _ hS (by omega) (Nat.lt_succ_self _)
  · refine Tr.iconst (pc := 19) d_X11_over_19 (by decide) ?_
    exact Tr.iret (pc := 20) d_X11_over_20 rfl ⟨hS, _, rfl, by omega, by omega⟩

def ws_X7_isLetter : List (Int × Int) := []
def as_X7_isLetter : List Int := []
def q_X7_isLetter (M0 M' : Mem) (r : Option PV) : Prop := St ws_X7_isLetter as_X7_isLetter M0 M' ∧ ∃ v : Int, r = some (0, v) ∧ 0 ≤ v ∧ v ≤ 1
set_option maxRecDepth 100000 in
set_option maxHeartbeats 4000000 in
theorem sp_X7_isLetter {l : Launch} {K : EC} {M0 : Mem} (hI : In M0)  (a0 : Int) (ha0 : (-1000) ≤ a0 ∧ a0 ≤ 161)  : Tr l K 0 mX7_isLetter 0 [(0, (0, a0))] [] M0 (q_X7_isLetter M0) := by
  have hS : St ws_X7_isLetter as_X7_isLetter M0 M0 := St.rf hI
  refine Tr.iload_n (pc := 0) (i := 0) d_X7_isLetter_0 rfl rfl ?_
  refine Tr.bipush (pc := 1) d_X7_isLetter_1 rfl (by decide) ?_
  refine Tr.icmp_lt (pc := 3) (tgt := 16) d_X7_isLetter_3 rfl (fun c3 => ?_) (fun c3 => ?_)
  · refine Tr.iconst (pc := 16) d_X7_isLetter_16 (by decide) ?_
    exact Tr.zret (pc := 17) d_X7_isLetter_17 rfl (by omega) ⟨hS, _, rfl, by omega, by omega⟩
  · refine Tr.iload_n (pc := 6) (i := 0) d_X7_isLetter_6 rfl rfl ?_
    refine Tr.bipush (pc := 7) d_X7_isLetter_7 rfl (by decide) ?_
    refine Tr.icmp_gt (pc := 9) (tgt := 16) d_X7_isLetter_9 rfl (fun c9 => ?_) (fun c9 => ?_)
    · refine Tr.iconst (pc := 16) d_X7_isLetter_16 (by decide) ?_
      exact Tr.zret (pc := 17) d_X7_isLetter_17 rfl (by omega) ⟨hS, _, rfl, by omega, by omega⟩
    · refine Tr.iconst (pc := 12) d_X7_isLetter_12 (by decide) ?_
      refine Tr.goto (pc := 13) (tgt := 17) d_X7_isLetter_13 rfl ?_
      exact Tr.zret (pc := 17) d_X7_isLetter_17 rfl (by omega) ⟨hS, _, rfl, by omega, by omega⟩

def ws_X7_isDigit : List (Int × Int) := []
def as_X7_isDigit : List Int := []
def q_X7_isDigit (M0 M' : Mem) (r : Option PV) : Prop := St ws_X7_isDigit as_X7_isDigit M0 M' ∧ ∃ v : Int, r = some (0, v) ∧ 0 ≤ v ∧ v ≤ 1
set_option maxRecDepth 100000 in
set_option maxHeartbeats 4000000 in
theorem sp_X7_isDigit {l : Launch} {K : EC} {M0 : Mem} (hI : In M0)  (a0 : Int) (ha0 : (-1000) ≤ a0 ∧ a0 ≤ 161)  : Tr l K 0 mX7_isDigit 0 [(0, (0, a0))] [] M0 (q_X7_isDigit M0) := by
  have hS : St ws_X7_isDigit as_X7_isDigit M0 M0 := St.rf hI
  refine Tr.iload_n (pc := 0) (i := 0) d_X7_isDigit_0 rfl rfl ?_
  refine Tr.bipush (pc := 1) d_X7_isDigit_1 rfl (by decide) ?_
  refine Tr.icmp_lt (pc := 3) (tgt := 16) d_X7_isDigit_3 rfl (fun c3 => ?_) (fun c3 => ?_)
  · refine Tr.iconst (pc := 16) d_X7_isDigit_16 (by decide) ?_
    exact Tr.zret (pc := 17) d_X7_isDigit_17 rfl (by omega) ⟨hS, _, rfl, by omega, by omega⟩
  · refine Tr.iload_n (pc := 6) (i := 0) d_X7_isDigit_6 rfl rfl ?_
    refine Tr.bipush (pc := 7) d_X7_isDigit_7 rfl (by decide) ?_
    refine Tr.icmp_gt (pc := 9) (tgt := 16) d_X7_isDigit_9 rfl (fun c9 => ?_) (fun c9 => ?_)
    · refine Tr.iconst (pc := 16) d_X7_isDigit_16 (by decide) ?_
      exact Tr.zret (pc := 17) d_X7_isDigit_17 rfl (by omega) ⟨hS, _, rfl, by omega, by omega⟩
    · refine Tr.iconst (pc := 12) d_X7_isDigit_12 (by decide) ?_
      refine Tr.goto (pc := 13) (tgt := 17) d_X7_isDigit_13 rfl ?_
      exact Tr.zret (pc := 17) d_X7_isDigit_17 rfl (by omega) ⟨hS, _, rfl, by omega, by omega⟩

def ws_J1_canEncode_9a6ad : List (Int × Int) := []
def as_J1_canEncode_9a6ad : List Int := []
def q_J1_canEncode_9a6ad (M0 M' : Mem) (r : Option PV) : Prop := St ws_J1_canEncode_9a6ad as_J1_canEncode_9a6ad M0 M' ∧ ∃ v : Int, r = some (0, v) ∧ 1 ≤ v ∧ v ≤ 1
set_option maxRecDepth 100000 in
set_option maxHeartbeats 4000000 in
theorem sp_J1_canEncode_9a6ad {l : Launch} {K : EC} {M0 : Mem} (hI : In M0)  (a0 : Int) (ha0 : 1 ≤ a0 ∧ a0 ≤ 161)  : Tr l K 0 mJ1_canEncode_9a6ad 0 [(0, (0, a0))] [] M0 (q_J1_canEncode_9a6ad M0) := by
  have hS : St ws_J1_canEncode_9a6ad as_J1_canEncode_9a6ad M0 M0 := St.rf hI
  refine Tr.iload_n (pc := 0) (i := 0) d_J1_canEncode_9a6ad_0 rfl rfl ?_
  refine Tr.if_lt (pc := 1) (tgt := 15) d_J1_canEncode_9a6ad_1 rfl (fun hc => absurd hc (by omega)) (fun _ => ?_)
  refine Tr.iload_n (pc := 4) (i := 0) d_J1_canEncode_9a6ad_4 rfl rfl ?_
  refine Tr.sipush (pc := 5) d_J1_canEncode_9a6ad_5 rfl (by decide) ?_
  refine Tr.icmp_gt (pc := 8) (tgt := 15) d_J1_canEncode_9a6ad_8 rfl (fun hc => absurd hc (by omega)) (fun _ => ?_)
  refine Tr.iconst (pc := 11) d_J1_canEncode_9a6ad_11 (by decide) ?_
  refine Tr.goto (pc := 12) (tgt := 16) d_J1_canEncode_9a6ad_12 rfl ?_
  exact Tr.zret (pc := 16) d_J1_canEncode_9a6ad_16 rfl (by omega) ⟨hS, _, rfl, by omega, by omega⟩

def ws_X7_add_2 : List (Int × Int) := [(2, 3)]
def as_X7_add_2 : List Int := [3, 4, 5]
def q_X7_add_2 (M0 M' : Mem) (r : Option PV) : Prop := St ws_X7_add_2 as_X7_add_2 M0 M' ∧ ∃ v : Int, r = some (0, v) ∧ 1 ≤ v ∧ v ≤ 900
set_option maxRecDepth 100000 in
set_option maxHeartbeats 4000000 in
theorem sp_X7_add_2 {l : Launch} {K : EC} {M0 : Mem} (hI : In M0)  (a1 : Int) (ha1 : 5 ≤ a1 ∧ a1 ≤ 5) (a2 : Int) (ha2 : 0 ≤ a2 ∧ a2 ≤ 899) (a3 : Int) (ha3 : 1 ≤ a3 ∧ a3 ≤ 161) (a4 : Int) (ha4 : 1 ≤ a4 ∧ a4 ≤ 900)  : Tr l K 0 mX7_add 0 [(0, (2, 2)), (1, (0, a1)), (2, (0, a2)), (3, (0, a3)), (4, (0, a4))] [] M0 (q_X7_add_2 M0) := by
  have hS : St ws_X7_add_2 as_X7_add_2 M0 M0 := St.rf hI
  refine Tr.aload_n (pc := 0) (i := 0) d_X7_add_0 rfl rfl ?_
  refine Tr.getf (pc := 1) d_X7_add_1 f_7_29 (by decide) (by decide) (ty_2 hS.1.1) ?_
  refine Tr.gen (P := fun v => 0 ≤ v ∧ v ≤ 901) (ir_2_3 hS.1.2.1) (fun r1 er1 br1 => ?_)
  refine Tr.aload_n (pc := 4) (i := 0) d_X7_add_4 rfl rfl ?_
  refine Tr.getf (pc := 5) d_X7_add_5 f_7_9 (by decide) (by decide) (ty_2 hS.1.1) ?_
  refine Tr.tp 3 (fx_2_0 hS.1.1) ?_
  refine Tr.alen (pc := 8) d_X7_add_8 (ty_3 hS.1.1) (by decide) (by decide) ?_
  refine Tr.tp 901 rfl ?_
  refine Tr.icmp_ge (pc := 9) (tgt := 52) d_X7_add_9 rfl (fun c9 => ?_) (fun c9 => ?_)
  · refine Tr.iload (pc := 52) (i := 4) d_X7_add_52 rfl ?_
    exact Tr.iret (pc := 54) d_X7_add_54 rfl ⟨hS, _, rfl, by omega, by omega⟩
  · refine Tr.aload_n (pc := 12) (i := 0) d_X7_add_12 rfl rfl ?_
    refine Tr.getf (pc := 13) d_X7_add_13 f_7_9 (by decide) (by decide) (ty_2 hS.1.1) ?_
    refine Tr.tp 3 (fx_2_0 hS.1.1) ?_
    refine Tr.aload_n (pc := 16) (i := 0) d_X7_add_16 rfl rfl ?_
    refine Tr.getf (pc := 17) d_X7_add_17 f_7_29 (by decide) (by decide) (ty_2 hS.1.1) ?_
    refine Tr.tp r1 er1 ?_
    refine Tr.iload_n (pc := 20) (i := 1) d_X7_add_20 rfl rfl ?_
    refine Tr.tp 5 (by omega) ?_
    refine Tr.iastS (pc := 21) (P := St ws_X7_add_2 as_X7_add_2 M0) d_X7_add_21 (ty_3 hS.1.1) (by omega) (by omega) (sa_3 hS (by decide) (by omega)) (fun hS => ?_)
    refine Tr.aload_n (pc := 22) (i := 0) d_X7_add_22 rfl rfl ?_
    refine Tr.getf (pc := 23) d_X7_add_23 f_7_15 (by decide) (by decide) (ty_2 hS.1.1) ?_
    refine Tr.tp 4 (fx_2_1 hS.1.1) ?_
    refine Tr.aload_n (pc := 26) (i := 0) d_X7_add_26 rfl rfl ?_
    refine Tr.getf (pc := 27) d_X7_add_27 f_7_29 (by decide) (by decide) (ty_2 hS.1.1) ?_
    refine Tr.tp r1 ((rd_wb _ rfl).trans er1) ?_
    refine Tr.iload_n (pc := 30) (i := 2) d_X7_add_30 rfl rfl ?_
    refine Tr.iastS (pc := 31) (P := St ws_X7_add_2 as_X7_add_2 M0) d_X7_add_31 (ty_4 hS.1.1) (by omega) (by omega) (sa_4 hS (by decide) (by omega)) (fun hS => ?_)
    refine Tr.aload_n (pc := 32) (i := 0) d_X7_add_32 rfl rfl ?_
    refine Tr.getf (pc := 33) d_X7_add_33 f_7_18 (by decide) (by decide) (ty_2 hS.1.1) ?_
    refine Tr.tp 5 (fx_2_2 hS.1.1) ?_
    refine Tr.aload_n (pc := 36) (i := 0) d_X7_add_36 rfl rfl ?_
    refine Tr.getf (pc := 37) d_X7_add_37 f_7_29 (by decide) (by decide) (ty_2 hS.1.1) ?_
    refine Tr.tp r1 ((rd_wb _ rfl).trans ((rd_wb _ rfl).trans er1)) ?_
    refine Tr.iload_n (pc := 40) (i := 3) d_X7_add_40 rfl rfl ?_
    refine Tr.iastS (pc := 41) (P := St ws_X7_add_2 as_X7_add_2 M0) d_X7_add_41 (ty_5 hS.1.1) (by omega) (by omega) (sa_5 hS (by decide) (by omega)) (fun hS => ?_)
    refine Tr.aload_n (pc := 42) (i := 0) d_X7_add_42 rfl rfl ?_
    refine Tr.dup (pc := 43) d_X7_add_43 ne21 ?_
    refine Tr.getf (pc := 44) d_X7_add_44 f_7_29 (by decide) (by decide) (ty_2 hS.1.1) ?_
    refine Tr.tp r1 ((rd_wb _ rfl).trans ((rd_wb _ rfl).trans ((rd_wb _ rfl).trans er1))) ?_
    refine Tr.iconst (pc := 47) d_X7_add_47 (by decide) ?_
    refine Tr.iadd (pc := 48) d_X7_add_48 ?_
    refine Tr.tp (r1 + 1) ((w32_id (by omega)).trans (by omega)) ?_
    refine Tr.putfS (pc := 49) (P := St ws_X7_add_2 as_X7_add_2 M0) d_X7_add_49 f_7_29 (by decide) (by decide) (ty_2 hS.1.1) (st_2_3 hS (by decide) (by omega)) (fun hS => ?_)
    refine Tr.iload (pc := 52) (i := 4) d_X7_add_52 rfl ?_
    exact Tr.iret (pc := 54) d_X7_add_54 rfl ⟨hS, _, rfl, by omega, by omega⟩

def ws_X7_add_2_w1 : List (Int × Int) := [(2, 3)]
def as_X7_add_2_w1 : List Int := [3, 4, 5]
def q_X7_add_2_w1 (M0 M' : Mem) (r : Option PV) : Prop := St ws_X7_add_2_w1 as_X7_add_2_w1 M0 M' ∧ ∃ v : Int, r = some (0, v) ∧ (-1) ≤ v ∧ v ≤ (-1)
set_option maxRecDepth 100000 in
set_option maxHeartbeats 4000000 in
theorem sp_X7_add_2_w1 {l : Launch} {K : EC} {M0 : Mem} (hI : In M0)  (a1 : Int) (ha1 : 0 ≤ a1 ∧ a1 ≤ 0) (a2 : Int) (ha2 : 0 ≤ a2 ∧ a2 ≤ 900) (a3 : Int) (ha3 : 0 ≤ a3 ∧ a3 ≤ 0) (a4 : Int) (ha4 : (-1) ≤ a4 ∧ a4 ≤ (-1))  : Tr l K 0 mX7_add 0 [(0, (2, 2)), (1, (0, a1)), (2, (0, a2)), (3, (0, a3)), (4, (0, a4))] [] M0 (q_X7_add_2_w1 M0) := by
  have hS : St ws_X7_add_2_w1 as_X7_add_2_w1 M0 M0 := St.rf hI
  refine Tr.aload_n (pc := 0) (i := 0) d_X7_add_0 rfl rfl ?_
  refine Tr.getf (pc := 1) d_X7_add_1 f_7_29 (by decide) (by decide) (ty_2 hS.1.1) ?_
  refine Tr.gen (P := fun v => 0 ≤ v ∧ v ≤ 901) (ir_2_3 hS.1.2.1) (fun r1 er1 br1 => ?_)
  refine Tr.aload_n (pc := 4) (i := 0) d_X7_add_4 rfl rfl ?_
  refine Tr.getf (pc := 5) d_X7_add_5 f_7_9 (by decide) (by decide) (ty_2 hS.1.1) ?_
  refine Tr.tp 3 (fx_2_0 hS.1.1) ?_
  refine Tr.alen (pc := 8) d_X7_add_8 (ty_3 hS.1.1) (by decide) (by decide) ?_
  refine Tr.tp 901 rfl ?_
  refine Tr.icmp_ge (pc := 9) (tgt := 52) d_X7_add_9 rfl (fun c9 => ?_) (fun c9 => ?_)
  · refine Tr.iload (pc := 52) (i := 4) d_X7_add_52 rfl ?_
    refine Tr.tp (-1) (by omega) ?_
    exact Tr.iret (pc := 54) d_X7_add_54 rfl ⟨hS, _, rfl, by omega, by omega⟩
  · refine Tr.aload_n (pc := 12) (i := 0) d_X7_add_12 rfl rfl ?_
    refine Tr.getf (pc := 13) d_X7_add_13 f_7_9 (by decide) (by decide) (ty_2 hS.1.1) ?_
    refine Tr.tp 3 (fx_2_0 hS.1.1) ?_
    refine Tr.aload_n (pc := 16) (i := 0) d_X7_add_16 rfl rfl ?_
    refine Tr.getf (pc := 17) d_X7_add_17 f_7_29 (by decide) (by decide) (ty_2 hS.1.1) ?_
    refine Tr.tp r1 er1 ?_
    refine Tr.iload_n (pc := 20) (i := 1) d_X7_add_20 rfl rfl ?_
    refine Tr.tp 0 (by omega) ?_
    refine Tr.iastS (pc := 21) (P := St ws_X7_add_2_w1 as_X7_add_2_w1 M0) d_X7_add_21 (ty_3 hS.1.1) (by omega) (by omega) (sa_3 hS (by decide) (by omega)) (fun hS => ?_)
    refine Tr.aload_n (pc := 22) (i := 0) d_X7_add_22 rfl rfl ?_
    refine Tr.getf (pc := 23) d_X7_add_23 f_7_15 (by decide) (by decide) (ty_2 hS.1.1) ?_
    refine Tr.tp 4 (fx_2_1 hS.1.1) ?_
    refine Tr.aload_n (pc := 26) (i := 0) d_X7_add_26 rfl rfl ?_
    refine Tr.getf (pc := 27) d_X7_add_27 f_7_29 (by decide) (by decide) (ty_2 hS.1.1) ?_
    refine Tr.tp r1 ((rd_wb _ rfl).trans er1) ?_
    refine Tr.iload_n (pc := 30) (i := 2) d_X7_add_30 rfl rfl ?_
    refine Tr.iastS (pc := 31) (P := St ws_X7_add_2_w1 as_X7_add_2_w1 M0) d_X7_add_31 (ty_4 hS.1.1) (by omega) (by omega) (sa_4 hS (by decide) (by omega)) (fun hS => ?_)
    refine Tr.aload_n (pc := 32) (i := 0) d_X7_add_32 rfl rfl ?_
    refine Tr.getf (pc := 33) d_X7_add_33 f_7_18 (by decide) (by decide) (ty_2 hS.1.1) ?_
    refine Tr.tp 5 (fx_2_2 hS.1.1) ?_
    refine Tr.aload_n (pc := 36) (i := 0) d_X7_add_36 rfl rfl ?_
    refine Tr.getf (pc := 37) d_X7_add_37 f_7_29 (by decide) (by decide) (ty_2 hS.1.1) ?_
    refine Tr.tp r1 ((rd_wb _ rfl).trans ((rd_wb _ rfl).trans er1)) ?_
    refine Tr.iload_n (pc := 40) (i := 3) d_X7_add_40 rfl rfl ?_
    refine Tr.tp 0 (by omega) ?_
    refine Tr.iastS (pc := 41) (P := St ws_X7_add_2_w1 as_X7_add_2_w1 M0) d_X7_add_41 (ty_5 hS.1.1) (by omega) (by omega) (sa_5 hS (by decide) (by omega)) (fun hS => ?_)
    refine Tr.aload_n (pc := 42) (i := 0) d_X7_add_42 rfl rfl ?_
    refine Tr.dup (pc := 43) d_X7_add_43 ne21 ?_
    refine Tr.getf (pc := 44) d_X7_add_44 f_7_29 (by decide) (by decide) (ty_2 hS.1.1) ?_
    refine Tr.tp r1 ((rd_wb _ rfl).trans ((rd_wb _ rfl).trans ((rd_wb _ rfl).trans er1))) ?_
    refine Tr.iconst (pc := 47) d_X7_add_47 (by decide) ?_
    refine Tr.iadd (pc := 48) d_X7_add_48 ?_
    refine Tr.tp (r1 + 1) ((w32_id (by omega)).trans (by omega)) ?_
    refine Tr.putfS (pc := 49) (P := St ws_X7_add_2_w1 as_X7_add_2_w1 M0) d_X7_add_49 f_7_29 (by decide) (by decide) (ty_2 hS.1.1) (st_2_3 hS (by decide) (by omega)) (fun hS => ?_)
    refine Tr.iload (pc := 52) (i := 4) d_X7_add_52 rfl ?_
    refine Tr.tp (-1) (by omega) ?_
    exact Tr.iret (pc := 54) d_X7_add_54 rfl ⟨hS, _, rfl, by omega, by omega⟩

def ws_X7_add_2_w2 : List (Int × Int) := [(2, 3)]
def as_X7_add_2_w2 : List Int := [3, 4, 5]
def q_X7_add_2_w2 (M0 M' : Mem) (r : Option PV) : Prop := St ws_X7_add_2_w2 as_X7_add_2_w2 M0 M' ∧ ∃ v : Int, r = some (0, v) ∧ (-1) ≤ v ∧ v ≤ (-1)
set_option maxRecDepth 100000 in
set_option maxHeartbeats 4000000 in
theorem sp_X7_add_2_w2 {l : Launch} {K : EC} {M0 : Mem} (hI : In M0)  (a1 : Int) (ha1 : 1 ≤ a1 ∧ a1 ≤ 1) (a2 : Int) (ha2 : 0 ≤ a2 ∧ a2 ≤ 899) (a3 : Int) (ha3 : 0 ≤ a3 ∧ a3 ≤ 0) (a4 : Int) (ha4 : (-1) ≤ a4 ∧ a4 ≤ (-1))  : Tr l K 0 mX7_add 0 [(0, (2, 2)), (1, (0, a1)), (2, (0, a2)), (3, (0, a3)), (4, (0, a4))] [] M0 (q_X7_add_2_w2 M0) := by
  have hS : St ws_X7_add_2_w2 as_X7_add_2_w2 M0 M0 := St.rf hI
  refine Tr.aload_n (pc := 0) (i := 0) d_X7_add_0 rfl rfl ?_
  refine Tr.getf (pc := 1) d_X7_add_1 f_7_29 (by decide) (by decide) (ty_2 hS.1.1) ?_
  refine Tr.gen (P := fun v => 0 ≤ v ∧ v ≤ 901) (ir_2_3 hS.1.2.1) (fun r1 er1 br1 => ?_)
  refine Tr.aload_n (pc := 4) (i := 0) d_X7_add_4 rfl rfl ?_
  refine Tr.getf (pc := 5) d_X7_add_5 f_7_9 (by decide) (by decide) (ty_2 hS.1.1) ?_
  refine Tr.tp 3 (fx_2_0 hS.1.1) ?_
  refine Tr.alen (pc := 8) d_X7_add_8 (ty_3 hS.1.1) (by decide) (by decide) ?_
  refine Tr.tp 901 rfl ?_
  refine Tr.icmp_ge (pc := 9) (tgt := 52) d_X7_add_9 rfl (fun c9 => ?_) (fun c9 => ?_)
  · refine Tr.iload (pc := 52) (i := 4) d_X7_add_52 rfl ?_
    refine Tr.tp (-1) (by omega) ?_
    exact Tr.iret (pc := 54) d_X7_add_54 rfl ⟨hS, _, rfl, by omega, by omega⟩
  · refine Tr.aload_n (pc := 12) (i := 0) d_X7_add_12 rfl rfl ?_
    refine Tr.getf (pc := 13) d_X7_add_13 f_7_9 (by decide) (by decide) (ty_2 hS.1.1) ?_
    refine Tr.tp 3 (fx_2_0 hS.1.1) ?_
    refine Tr.aload_n (pc := 16) (i := 0) d_X7_add_16 rfl rfl ?_
    refine Tr.getf (pc := 17) d_X7_add_17 f_7_29 (by decide) (by decide) (ty_2 hS.1.1) ?_
    refine Tr.tp r1 er1 ?_
    refine Tr.iload_n (pc := 20) (i := 1) d_X7_add_20 rfl rfl ?_
    refine Tr.tp 1 (by omega) ?_
    refine Tr.iastS (pc := 21) (P := St ws_X7_add_2_w2 as_X7_add_2_w2 M0) d_X7_add_21 (ty_3 hS.1.1) (by omega) (by omega) (sa_3 hS (by decide) (by omega)) (fun hS => ?_)
    refine Tr.aload_n (pc := 22) (i := 0) d_X7_add_22 rfl rfl ?_
    refine Tr.getf (pc := 23) d_X7_add_23 f_7_15 (by decide) (by decide) (ty_2 hS.1.1) ?_
    refine Tr.tp 4 (fx_2_1 hS.1.1) ?_
    refine Tr.aload_n (pc := 26) (i := 0) d_X7_add_26 rfl rfl ?_
    refine Tr.getf (pc := 27) d_X7_add_27 f_7_29 (by decide) (by decide) (ty_2 hS.1.1) ?_
    refine Tr.tp r1 ((rd_wb _ rfl).trans er1) ?_
    refine Tr.iload_n (pc := 30) (i := 2) d_X7_add_30 rfl rfl ?_
    refine Tr.iastS (pc := 31) (P := St ws_X7_add_2_w2 as_X7_add_2_w2 M0) d_X7_add_31 (ty_4 hS.1.1) (by omega) (by omega) (sa_4 hS (by decide) (by omega)) (fun hS => ?_)
    refine Tr.aload_n (pc := 32) (i := 0) d_X7_add_32 rfl rfl ?_
    refine Tr.getf (pc := 33) d_X7_add_33 f_7_18 (by decide) (by decide) (ty_2 hS.1.1) ?_
    refine Tr.tp 5 (fx_2_2 hS.1.1) ?_
    refine Tr.aload_n (pc := 36) (i := 0) d_X7_add_36 rfl rfl ?_
    refine Tr.getf (pc := 37) d_X7_add_37 f_7_29 (by decide) (by decide) (ty_2 hS.1.1) ?_
    refine Tr.tp r1 ((rd_wb _ rfl).trans ((rd_wb _ rfl).trans er1)) ?_
    refine Tr.iload_n (pc := 40) (i := 3) d_X7_add_40 rfl rfl ?_
    refine Tr.tp 0 (by omega) ?_
    refine Tr.iastS (pc := 41) (P := St ws_X7_add_2_w2 as_X7_add_2_w2 M0) d_X7_add_41 (ty_5 hS.1.1) (by omega) (by omega) (sa_5 hS (by decide) (by omega)) (fun hS => ?_)
    refine Tr.aload_n (pc := 42) (i := 0) d_X7_add_42 rfl rfl ?_
    refine Tr.dup (pc := 43) d_X7_add_43 ne21 ?_
    refine Tr.getf (pc := 44) d_X7_add_44 f_7_29 (by decide) (by decide) (ty_2 hS.1.1) ?_
    refine Tr.tp r1 ((rd_wb _ rfl).trans ((rd_wb _ rfl).trans ((rd_wb _ rfl).trans er1))) ?_
    refine Tr.iconst (pc := 47) d_X7_add_47 (by decide) ?_
    refine Tr.iadd (pc := 48) d_X7_add_48 ?_
    refine Tr.tp (r1 + 1) ((w32_id (by omega)).trans (by omega)) ?_
    refine Tr.putfS (pc := 49) (P := St ws_X7_add_2_w2 as_X7_add_2_w2 M0) d_X7_add_49 f_7_29 (by decide) (by decide) (ty_2 hS.1.1) (st_2_3 hS (by decide) (by omega)) (fun hS => ?_)
    refine Tr.iload (pc := 52) (i := 4) d_X7_add_52 rfl ?_
    refine Tr.tp (-1) (by omega) ?_
    exact Tr.iret (pc := 54) d_X7_add_54 rfl ⟨hS, _, rfl, by omega, by omega⟩

def ws_X7_add_2_w3 : List (Int × Int) := [(2, 3)]
def as_X7_add_2_w3 : List Int := [3, 4, 5]
def q_X7_add_2_w3 (M0 M' : Mem) (r : Option PV) : Prop := St ws_X7_add_2_w3 as_X7_add_2_w3 M0 M' ∧ ∃ v : Int, r = some (0, v) ∧ 0 ≤ v ∧ v ≤ 900
set_option maxRecDepth 100000 in
set_option maxHeartbeats 4000000 in
theorem sp_X7_add_2_w3 {l : Launch} {K : EC} {M0 : Mem} (hI : In M0)  (a1 : Int) (ha1 : 3 ≤ a1 ∧ a1 ≤ 5) (a2 : Int) (ha2 : 0 ≤ a2 ∧ a2 ≤ 899) (a3 : Int) (ha3 : (-2147483648) ≤ a3 ∧ a3 ≤ 2147483647) (a4 : Int) (ha4 : 0 ≤ a4 ∧ a4 ≤ 900)  : Tr l K 0 mX7_add 0 [(0, (2, 2)), (1, (0, a1)), (2, (0, a2)), (3, (0, a3)), (4, (0, a4))] [] M0 (q_X7_add_2_w3 M0) := by
  have hS : St ws_X7_add_2_w3 as_X7_add_2_w3 M0 M0 := St.rf hI
  refine Tr.aload_n (pc := 0) (i := 0) d_X7_add_0 rfl rfl ?_
  refine Tr.getf (pc := 1) d_X7_add_1 f_7_29 (by decide) (by decide) (ty_2 hS.1.1) ?_
  refine Tr.gen (P := fun v => 0 ≤ v ∧ v ≤ 901) (ir_2_3 hS.1.2.1) (fun r1 er1 br1 => ?_)
  refine Tr.aload_n (pc := 4) (i := 0) d_X7_add_4 rfl rfl ?_
  refine Tr.getf (pc := 5) d_X7_add_5 f_7_9 (by decide) (by decide) (ty_2 hS.1.1) ?_
  refine Tr.tp 3 (fx_2_0 hS.1.1) ?_
  refine Tr.alen (pc := 8) d_X7_add_8 (ty_3 hS.1.1) (by decide) (by decide) ?_
  refine Tr.tp 901 rfl ?_
  refine Tr.icmp_ge (pc := 9) (tgt := 52) d_X7_add_9 rfl (fun c9 => ?_) (fun c9 => ?_)
  · refine Tr.iload (pc := 52) (i := 4) d_X7_add_52 rfl ?_
    exact Tr.iret (pc := 54) d_X7_add_54 rfl ⟨hS, _, rfl, by omega, by omega⟩
  · refine Tr.aload_n (pc := 12) (i := 0) d_X7_add_12 rfl rfl ?_
    refine Tr.getf (pc := 13) d_X7_add_13 f_7_9 (by decide) (by decide) (ty_2 hS.1.1) ?_
    refine Tr.tp 3 (fx_2_0 hS.1.1) ?_
    refine Tr.aload_n (pc := 16) (i := 0) d_X7_add_16 rfl rfl ?_
    refine Tr.getf (pc := 17) d_X7_add_17 f_7_29 (by decide) (by decide) (ty_2 hS.1.1) ?_
    refine Tr.tp r1 er1 ?_
    refine Tr.iload_n (pc := 20) (i := 1) d_X7_add_20 rfl rfl ?_
    refine Tr.iastS (pc := 21) (P := St ws_X7_add_2_w3 as_X7_add_2_w3 M0) d_X7_add_21 (ty_3 hS.1.1) (by omega) (by omega) (sa_3 hS (by decide) (by omega)) (fun hS => ?_)
    refine Tr.aload_n (pc := 22) (i := 0) d_X7_add_22 rfl rfl ?_
    refine Tr.getf (pc := 23) d_X7_add_23 f_7_15 (by decide) (by decide) (ty_2 hS.1.1) ?_
    refine Tr.tp 4 (fx_2_1 hS.1.1) ?_
    refine Tr.aload_n (pc := 26) (i := 0) d_X7_add_26 rfl rfl ?_
    refine Tr.getf (pc := 27) d_X7_add_27 f_7_29 (by decide) (by decide) (ty_2 hS.1.1) ?_
    refine Tr.tp r1 ((rd_wb _ rfl).trans er1) ?_
    refine Tr.iload_n (pc := 30) (i := 2) d_X7_add_30 rfl rfl ?_
    refine Tr.iastS (pc := 31) (P := St ws_X7_add_2_w3 as_X7_add_2_w3 M0) d_X7_add_31 (ty_4 hS.1.1) (by omega) (by omega) (sa_4 hS (by decide) (by omega)) (fun hS => ?_)
    refine Tr.aload_n (pc := 32) (i := 0) d_X7_add_32 rfl rfl ?_
    refine Tr.getf (pc := 33) d_X7_add_33 f_7_18 (by decide) (by decide) (ty_2 hS.1.1) ?_
    refine Tr.tp 5 (fx_2_2 hS.1.1) ?_
    refine Tr.aload_n (pc := 36) (i := 0) d_X7_add_36 rfl rfl ?_
    refine Tr.getf (pc := 37) d_X7_add_37 f_7_29 (by decide) (by decide) (ty_2 hS.1.1) ?_
    refine Tr.tp r1 ((rd_wb _ rfl).trans ((rd_wb _ rfl).trans er1)) ?_
    refine Tr.iload_n (pc := 40) (i := 3) d_X7_add_40 rfl rfl ?_
    refine Tr.iastS (pc := 41) (P := St ws_X7_add_2_w3 as_X7_add_2_w3 M0) d_X7_add_41 (ty_5 hS.1.1) (by omega) (by omega) (sa_5 hS (by decide) (by omega)) (fun hS => ?_)
    refine Tr.aload_n (pc := 42) (i := 0) d_X7_add_42 rfl rfl ?_
    refine Tr.dup (pc := 43) d_X7_add_43 ne21 ?_
    refine Tr.getf (pc := 44) d_X7_add_44 f_7_29 (by decide) (by decide) (ty_2 hS.1.1) ?_
    refine Tr.tp r1 ((rd_wb _ rfl).trans ((rd_wb _ rfl).trans ((rd_wb _ rfl).trans er1))) ?_
    refine Tr.iconst (pc := 47) d_X7_add_47 (by decide) ?_
    refine Tr.iadd (pc := 48) d_X7_add_48 ?_
    refine Tr.tp (r1 + 1) ((w32_id (by omega)).trans (by omega)) ?_
    refine Tr.putfS (pc := 49) (P := St ws_X7_add_2_w3 as_X7_add_2_w3 M0) d_X7_add_49 f_7_29 (by decide) (by decide) (ty_2 hS.1.1) (st_2_3 hS (by decide) (by omega)) (fun hS => ?_)
    refine Tr.iload (pc := 52) (i := 4) d_X7_add_52 rfl ?_
    exact Tr.iret (pc := 54) d_X7_add_54 rfl ⟨hS, _, rfl, by omega, by omega⟩
