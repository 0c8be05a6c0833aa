def ws_X6_begin_74_7_104 : List (Int × Int) := [(74, 1), (74, 9), (74, 11), (74, 12), (74, 13), (74, 14), (74, 15), (74, 16), (74, 17), (82, 1)]
def as_X6_begin_74_7_104 : List Int := [75, 76, 78, 79, 80, 81, 83]
def q_X6_begin_74_7_104 (a3 : Int) (M0 M' : Mem) (r : Option PV) : Prop := St Tru ws_X6_begin_74_7_104 as_X6_begin_74_7_104 M0 M' ∧ rd M' 74 1 = 7 ∧ rd M' 82 1 = 7 ∧ r = none
set_option maxRecDepth 100000 in
set_option maxHeartbeats 4000000 in
theorem sp_X6_begin_74_7_104 {l : Launch} {K : EC} {M0 : Mem} (hI : In Tru M0)  (a3 : Int) (ha3 : (-1) ≤ a3 ∧ a3 ≤ (-1))  : Tr l K 2 mX6_begin 0 [(0, (2, 74)), (1, (2, 7)), (2, (2, 104)), (3, (0, a3))] [] M0 (q_X6_begin_74_7_104 a3 M0) := by
  have hS : St Tru ws_X6_begin_74_7_104 as_X6_begin_74_7_104 M0 M0 := St.rf hI
  refine Tr.aload_n (pc := 0) (i := 0) d_X6_begin_0 rfl rfl ?_
  refine Tr.aload_n (pc := 1) (i := 1) d_X6_begin_1 rfl rfl ?_
  refine Tr.putfS (pc := 2) (P := St Tru ws_X6_begin_74_7_104 as_X6_begin_74_7_104 M0) d_X6_begin_2 f_6_46 (by decide) (by decide) (ty_74 hS.1.1) (st_74_1 hS (by decide) (by omega) trivial) (fun M2 hS w2 => ?_)
  refine Tr.aload_n (pc := 5) (i := 2) d_X6_begin_5 rfl rfl ?_
  refine Tr.iconst (pc := 6) d_X6_begin_6 (by decide) ?_
  refine Tr.aload_n (pc := 7) (i := 0) d_X6_begin_7 rfl rfl ?_
  refine Tr.getf (pc := 8) d_X6_begin_8 f_6_9 (by decide) (by decide) (ty_74 hS.1.1) ?_
  refine Tr.tp 75 (fx_74_2 hS.1.1) ?_
  refine Tr.iconst (pc := 11) d_X6_begin_11 (by decide) ?_
  refine Tr.iconst (pc := 12) d_X6_begin_12 (by decide) ?_
  refine Tr.acopyS (pc := 13) (x := 104) (y := 75) (P := St Tru ws_X6_begin_74_7_104 as_X6_begin_74_7_104 M0) d_X6_begin_13 ac_6_85 acw.1 acw.2.1 acw.2.2 (ty_104 hS.1.1) (ty_75 hS.1.1) (by omega) (by omega) (by omega) (by omega) (by omega) (Nat.le_of_ble_eq_true rfl) (sw_75 hS (by decide) rfl rfl rfl (fun z i hz => by rw [rd_cpy, if_neg (fun c => hz c.1)]) (fun i => by rw [rd_cpy]; split; exact And.intro (by have := ar_104 hS.1.2.1 (0 + (i - 0)); omega) (by have := ar_104 hS.1.2.1 (0 + (i - 0)); omega); exact ar_75 hS.1.2.1 i) trivial) (fun M13 hS w13 => ?_)
  refine Tr.aload_n (pc := 16) (i := 0) d_X6_begin_16 rfl rfl ?_
  refine Tr.getf (pc := 17) d_X6_begin_17 f_6_15 (by decide) (by decide) (ty_74 hS.1.1) ?_
  refine Tr.tp 76 (fx_74_3 hS.1.1) ?_
  refine Tr.iconst (pc := 20) d_X6_begin_20 (by decide) ?_
  refine Tr.callS (pc := 21) (as := [_, _]) d_X6_begin_21 s_6_91 ok_J7_fill_53178 rfl rfl (Nat.le_of_ble_eq_true rfl) (Nat.le_of_ble_eq_true rfl) ?_
  refine Tr.imp (sp_fill (N := 6) (ty_76 hS.1.1) (by decide)) ?_
  rintro _ _ ⟨rfl, rfl⟩
  refine Tr.nmA (P := St Tru ws_X6_begin_74_7_104 as_X6_begin_74_7_104 M0) (sf_76 (v := 0) 6 hS (by decide) (by omega) trivial) (fil_wa _ _ _ _) (fun M21 hS w21 => ?_)
  refine Tr.sc [] rfl ?_
  refine Tr.aload_n (pc := 24) (i := 0) d_X6_begin_24 rfl rfl ?_
  refine Tr.getf (pc := 25) d_X6_begin_25 f_6_21 (by decide) (by decide) (ty_74 hS.1.1) ?_
  refine Tr.tp 78 (fx_74_5 hS.1.1) ?_
  refine Tr.iconst (pc := 28) d_X6_begin_28 (by decide) ?_
  refine Tr.callS (pc := 29) (as := [_, _]) d_X6_begin_29 s_6_91 ok_J7_fill_53178 rfl rfl (Nat.le_of_ble_eq_true rfl) (Nat.le_of_ble_eq_true rfl) ?_
  refine Tr.imp (sp_fill (N := 8) (ty_78 hS.1.1) (by decide)) ?_
  rintro _ _ ⟨rfl, rfl⟩
  refine Tr.nmA (P := St Tru ws_X6_begin_74_7_104 as_X6_begin_74_7_104 M0) (sf_78 (v := (-1)) 8 hS (by decide) (by omega) trivial) (fil_wa _ _ _ _) (fun M29 hS w29 => ?_)
  refine Tr.sc [] rfl ?_
  refine Tr.aload_n (pc := 32) (i := 0) d_X6_begin_32 rfl rfl ?_
  refine Tr.getf (pc := 33) d_X6_begin_33 f_6_24 (by decide) (by decide) (ty_74 hS.1.1) ?_
  refine Tr.tp 79 (fx_74_6 hS.1.1) ?_
  refine Tr.iconst (pc := 36) d_X6_begin_36 (by decide) ?_
  refine Tr.callS (pc := 37) (as := [_, _]) d_X6_begin_37 s_6_91 ok_J7_fill_53178 rfl rfl (Nat.le_of_ble_eq_true rfl) (Nat.le_of_ble_eq_true rfl) ?_
  refine Tr.imp (sp_fill (N := 6) (ty_79 hS.1.1) (by decide)) ?_
  rintro _ _ ⟨rfl, rfl⟩
  refine Tr.nmA (P := St Tru ws_X6_begin_74_7_104 as_X6_begin_74_7_104 M0) (sf_79 (v := 0) 6 hS (by decide) (by omega) trivial) (fil_wa _ _ _ _) (fun M37 hS w37 => ?_)
  refine Tr.sc [] rfl ?_
  refine Tr.aload_n (pc := 40) (i := 0) d_X6_begin_40 rfl rfl ?_
  refine Tr.getf (pc := 41) d_X6_begin_41 f_6_27 (by decide) (by decide) (ty_74 hS.1.1) ?_
  refine Tr.tp 80 (fx_74_7 hS.1.1) ?_
  refine Tr.iconst (pc := 44) d_X6_begin_44 (by decide) ?_
  refine Tr.callS (pc := 45) (as := [_, _]) d_X6_begin_45 s_6_91 ok_J7_fill_53178 rfl rfl (Nat.le_of_ble_eq_true rfl) (Nat.le_of_ble_eq_true rfl) ?_
  refine Tr.imp (sp_fill (N := 6) (ty_80 hS.1.1) (by decide)) ?_
  rintro _ _ ⟨rfl, rfl⟩
  refine Tr.nmA (P := St Tru ws_X6_begin_74_7_104 as_X6_begin_74_7_104 M0) (sf_80 (v := 0) 6 hS (by decide) (by omega) trivial) (fil_wa _ _ _ _) (fun M45 hS w45 => ?_)
  refine Tr.sc [] rfl ?_
  refine Tr.aload_n (pc := 48) (i := 0) d_X6_begin_48 rfl rfl ?_
  refine Tr.getf (pc := 49) d_X6_begin_49 f_6_30 (by decide) (by decide) (ty_74 hS.1.1) ?_
  refine Tr.tp 81 (fx_74_8 hS.1.1) ?_
  refine Tr.iconst (pc := 52) d_X6_begin_52 (by decide) ?_
  refine Tr.callS (pc := 53) (as := [_, _]) d_X6_begin_53 s_6_91 ok_J7_fill_53178 rfl rfl (Nat.le_of_ble_eq_true rfl) (Nat.le_of_ble_eq_true rfl) ?_
  refine Tr.imp (sp_fill (N := 6) (ty_81 hS.1.1) (by decide)) ?_
  rintro _ _ ⟨rfl, rfl⟩
  refine Tr.nmA (P := St Tru ws_X6_begin_74_7_104 as_X6_begin_74_7_104 M0) (sf_81 (v := 0) 6 hS (by decide) (by omega) trivial) (fil_wa _ _ _ _) (fun M53 hS w53 => ?_)
  refine Tr.sc [] rfl ?_
  refine Tr.aload_n (pc := 56) (i := 0) d_X6_begin_56 rfl rfl ?_
  refine Tr.iconst (pc := 57) d_X6_begin_57 (by decide) ?_
  refine Tr.putfS (pc := 58) (P := St Tru ws_X6_begin_74_7_104 as_X6_begin_74_7_104 M0) d_X6_begin_58 f_6_68 (by decide) (by decide) (ty_74 hS.1.1) (st_74_9 hS (by decide) (by omega) trivial) (fun M58 hS w58 => ?_)
  refine Tr.aload_n (pc := 61) (i := 0) d_X6_begin_61 rfl rfl ?_
  refine Tr.iconst (pc := 62) d_X6_begin_62 (by decide) ?_
  refine Tr.putfS (pc := 63) (P := St Tru ws_X6_begin_74_7_104 as_X6_begin_74_7_104 M0) d_X6_begin_63 f_6_97 (by decide) (by decide) (ty_74 hS.1.1) (st_74_11 hS (by decide) (by omega) trivial) (fun M63 hS w63 => ?_)
  refine Tr.aload_n (pc := 66) (i := 0) d_X6_begin_66 rfl rfl ?_
  refine Tr.iconst (pc := 67) d_X6_begin_67 (by decide) ?_
  refine Tr.putfS (pc := 68) (P := St Tru ws_X6_begin_74_7_104 as_X6_begin_74_7_104 M0) d_X6_begin_68 f_6_100 (by decide) (by decide) (ty_74 hS.1.1) (st_74_12 hS (by decide) (by omega) trivial) (fun M68 hS w68 => ?_)
  refine Tr.aload_n (pc := 71) (i := 0) d_X6_begin_71 rfl rfl ?_
  refine Tr.iconst (pc := 72) d_X6_begin_72 (by decide) ?_
  refine Tr.putfS (pc := 73) (P := St Tru ws_X6_begin_74_7_104 as_X6_begin_74_7_104 M0) d_X6_begin_73 f_6_103 (by decide) (by decide) (ty_74 hS.1.1) (st_74_13 hS (by decide) (by omega) trivial) (fun M73 hS w73 => ?_)
  refine Tr.aload_n (pc := 76) (i := 0) d_X6_begin_76 rfl rfl ?_
  refine Tr.iconst (pc := 77) d_X6_begin_77 (by decide) ?_
  refine Tr.putfS (pc := 78) (P := St Tru ws_X6_begin_74_7_104 as_X6_begin_74_7_104 M0) d_X6_begin_78 f_6_62 (by decide) (by decide) (ty_74 hS.1.1) (st_74_14 hS (by decide) (by omega) trivial) (fun M78 hS w78 => ?_)
  refine Tr.aload_n (pc := 81) (i := 0) d_X6_begin_81 rfl rfl ?_
  refine Tr.iconst (pc := 82) d_X6_begin_82 (by decide) ?_
  refine Tr.putfS (pc := 83) (P := St Tru ws_X6_begin_74_7_104 as_X6_begin_74_7_104 M0) d_X6_begin_83 f_6_79 (by decide) (by decide) (ty_74 hS.1.1) (st_74_15 hS (by decide) (by omega) trivial) (fun M83 hS w83 => ?_)
  refine Tr.aload_n (pc := 86) (i := 0) d_X6_begin_86 rfl rfl ?_
  refine Tr.iload_n (pc := 87) (i := 3) d_X6_begin_87 rfl rfl ?_
  refine Tr.tp (-1) (by omega) ?_
  refine Tr.if_lt (pc := 88) (tgt := 95) d_X6_begin_88 rfl (fun _ => ?_) (fun hc => absurd (by omega) hc)
  refine Tr.iconst (pc := 95) d_X6_begin_95 (by decide) ?_
  refine Tr.putzS (pc := 96) (P := St Tru ws_X6_begin_74_7_104 as_X6_begin_74_7_104 M0) d_X6_begin_96 f_6_106 (by decide) (ty_74 hS.1.1) (by omega) (st_74_16 hS (by decide) (by omega) trivial) (fun M96 hS w96 => ?_)
  refine Tr.aload_n (pc := 99) (i := 0) d_X6_begin_99 rfl rfl ?_
  refine Tr.iload_n (pc := 100) (i := 3) d_X6_begin_100 rfl rfl ?_
  refine Tr.tp (-1) (by omega) ?_
  refine Tr.putfS (pc := 101) (P := St Tru ws_X6_begin_74_7_104 as_X6_begin_74_7_104 M0) d_X6_begin_101 f_6_110 (by decide) (by decide) (ty_74 hS.1.1) (st_74_17 hS (by decide) (by omega) trivial) (fun M101 hS w101 => ?_)
  refine Tr.aload_n (pc := 104) (i := 0) d_X6_begin_104 rfl rfl ?_
  refine Tr.getf (pc := 105) d_X6_begin_105 f_6_38 (by decide) (by decide) (ty_74 hS.1.1) ?_
  refine Tr.tp 82 (fx_74_0 hS.1.1) ?_
  refine Tr.aload_n (pc := 108) (i := 1) d_X6_begin_108 rfl rfl ?_
  refine Tr.callV (pc := 109) (as := [_]) d_X6_begin_109 s_6_113 ok_X1_begin rfl rfl (Nat.le_of_ble_eq_true rfl) (Nat.le_of_ble_eq_true rfl) (by decide) (ty_82 hS.1.1) ?_
  refine Tr.imp (Tr.deep (by decide) (sp_X1_begin_82_7 hS.1 )) ?_
  rintro M109 _ ⟨h109, o109_82_1, rfl⟩
  have hS := St.tr hS h109 (by decide) (by decide)
  refine Tr.sc [] rfl ?_
  exact Tr.vret (pc := 112) d_X6_begin_112 rfl ⟨hS, ((St.kp h109 (by decide) (by decide) (by decide)).trans ((Wr.b w101 rfl).trans ((Wr.b w96 rfl).trans ((Wr.b w83 rfl).trans ((Wr.b w78 rfl).trans ((Wr.b w73 rfl).trans ((Wr.b w68 rfl).trans ((Wr.b w63 rfl).trans ((Wr.b w58 rfl).trans ((Wa.b w53 rfl).trans ((Wa.b w45 rfl).trans ((Wa.b w37 rfl).trans ((Wa.b w29 rfl).trans ((Wa.b w21 rfl).trans ((Wa.b w13 rfl).trans w2.1))))))))))))))), o109_82_1, rfl⟩

def ws_X6_go_74_7_104 : List (Int × Int) := [(74, 1), (74, 9), (74, 10), (74, 11), (74, 12), (74, 13), (74, 14), (74, 15), (74, 16), (74, 17), (82, 1)]
def as_X6_go_74_7_104 : List Int := [75, 76, 77, 78, 79, 80, 81, 83]
def q_X6_go_74_7_104 (M0 M' : Mem) (r : Option PV) : Prop := St Tru ws_X6_go_74_7_104 as_X6_go_74_7_104 M0 M' ∧ rd M' 74 1 = 7 ∧ rd M' 82 1 = 7 ∧ r = none
set_option maxRecDepth 100000 in
set_option maxHeartbeats 4000000 in
theorem sp_X6_go_74_7_104 {l : Launch} {K : EC} {M0 : Mem} (hI : In Tru M0)  (a3 : Int) (ha3 : (-1) ≤ a3 ∧ a3 ≤ (-1))  (hF_Y15 : Yn15 M0) : Tr l K 5 mX6_go 0 [(0, (2, 74)), (1, (2, 7)), (2, (2, 104)), (3, (0, a3))] [] M0 (q_X6_go_74_7_104 M0) := by
  have hS : St Tru ws_X6_go_74_7_104 as_X6_go_74_7_104 M0 M0 := St.rf hI
  obtain ⟨g15_0, eg15_0⟩ : ∃ v, rd M0 15 0 = v := ⟨_, rfl⟩
  have bg15_0 : 0 ≤ g15_0 ∧ g15_0 ≤ 60 := by rw [← eg15_0]; exact ir_15_0 hI.2.1
  refine Tr.aload_n (pc := 0) (i := 0) d_X6_go_0 rfl rfl ?_
  refine Tr.aload_n (pc := 1) (i := 1) d_X6_go_1 rfl rfl ?_
  refine Tr.aload_n (pc := 2) (i := 2) d_X6_go_2 rfl rfl ?_
  refine Tr.iload_n (pc := 3) (i := 3) d_X6_go_3 rfl rfl ?_
  refine Tr.tp (-1) (by omega) ?_
  refine Tr.callV (pc := 4) (as := [_, _, _]) d_X6_go_4 s_6_42 ok_X6_begin rfl rfl (Nat.le_of_ble_eq_true rfl) (Nat.le_of_ble_eq_true rfl) (by decide) (ty_74 hS.1.1) ?_
  refine Tr.imp (Tr.deep (by decide) (sp_X6_begin_74_7_104 hS.1 (-1) (by omega))) ?_
  rintro M4 _ ⟨h4, o4_74_1, o4_82_1, rfl⟩
  have hS := St.tr hS h4 (by decide) (by decide)
  refine Tr.sc [] rfl ?_
  refine Tr.iconst (pc := 7) d_X6_go_7 (by decide) ?_
  refine Tr.istore (pc := 8) (i := 4) (ls2 := [(4, (0, 0)), (0, (2, 74)), (1, (2, 7)), (2, (2, 104)), (3, (0, a3))]) d_X6_go_8 (by decide) rfl ?_
  refine Tr.iconst (pc := 10) d_X6_go_10 (by decide) ?_
  refine Tr.istore (pc := 11) (i := 5) (ls2 := [(5, (0, 0)), (4, (0, 0)), (0, (2, 74)), (1, (2, 7)), (2, (2, 104)), (3, (0, a3))]) d_X6_go_11 (by decide) rfl ?_
  have J13 : ∀ (n13 : Nat) (M : Mem) (p13_4 p13_5 : Int), St Tru ws_X6_go_74_7_104 as_X6_go_74_7_104 M0 M → (0 ≤ p13_4 ∧ p13_4 ≤ 2147483647) → (0 ≤ p13_5 ∧ p13_5 ≤ 2001) → rd M 15 0 = g15_0 → rd M 74 1 = 7 → rd M 82 1 = 7 → (2001 - p13_5).toNat < n13 → Tr l K 5 mX6_go 13 [(0, (2, 74)), (4, (0, p13_4)), (5, (0, p13_5))] [] M (q_X6_go_74_7_104 M0) := by
    intro n13
    induction n13 with
    | zero => intro M p13_4 p13_5 hS bp13_4 bp13_5 k13_15_0 k13_74_1 k13_82_1 hm13; exact absurd hm13 (Nat.not_lt_zero _)
    | succ n13 J13 =>
      intro M p13_4 p13_5 hS bp13_4 bp13_5 k13_15_0 k13_74_1 k13_82_1 hm13
      refine Tr.iload (pc := 13) (i := 5) d_X6_go_13 rfl ?_
      refine Tr.sipush (pc := 15) d_X6_go_15 rfl (by decide) ?_
      have J103 : ∀ (M : Mem), St Tru ws_X6_go_74_7_104 as_X6_go_74_7_104 M0 M → rd M 15 0 = g15_0 → rd M 74 1 = 7 → rd M 82 1 = 7 → Tr l K 5 mX6_go 103 [(0, (2, 74))] [] M (q_X6_go_74_7_104 M0) := by
        intro M  hS  k103_15_0 k103_74_1 k103_82_1
        refine Tr.aload_n (pc := 103) (i := 0) d_X6_go_103 rfl rfl ?_
        refine Tr.callV (pc := 104) (as := []) d_X6_go_104 s_6_82 ok_X6_finish rfl rfl (Nat.le_of_ble_eq_true rfl) (Nat.le_of_ble_eq_true rfl) (by decide) (ty_74 hS.1.1) ?_
        refine Tr.imp (Tr.deep (by decide) (sp_X6_finish_74 hS.1 k103_74_1 k103_82_1)) ?_
        rintro M104 _ ⟨h104, rfl⟩
        have hS := St.tr hS h104 (by decide) (by decide)
        refine Tr.sc [] rfl ?_
        exact Tr.vret (pc := 107) d_X6_go_107 rfl ⟨hS, ((St.kp h104 (by decide) (by decide) (by decide)).trans k103_74_1), ((St.kp h104 (by decide) (by decide) (by decide)).trans k103_82_1), rfl⟩
      refine Tr.icmp_gt (pc := 18) (tgt := 103) d_X6_go_18 rfl (fun c18 => ?_) (fun c18 => ?_)
      · refine Tr.pick [0] (ls2 := [(0, (2, 74))]) rfl ?_
        exact J103 _ hS k13_15_0 k13_74_1 k13_82_1
      · refine Tr.iload (pc := 21) (i := 4) d_X6_go_21 rfl ?_
        refine Tr.aload_n (pc := 23) (i := 0) d_X6_go_23 rfl rfl ?_
        refine Tr.getf (pc := 24) d_X6_go_24 f_6_46 (by decide) (by decide) (ty_74 hS.1.1) ?_
        refine Tr.tp 7 k13_74_1 ?_
        refine Tr.getf (pc := 27) d_X6_go_27 f_6_50 (by decide) (by decide) (ty_7 hS.1.1) ?_
        refine Tr.tp 15 (fx_7_11 hS.1.1) ?_
        refine Tr.getf (pc := 30) d_X6_go_30 f_6_56 (by decide) (by decide) (ty_15 hS.1.1) ?_
        refine Tr.tp g15_0 k13_15_0 ?_
        refine Tr.icmp_ge (pc := 33) (tgt := 103) d_X6_go_33 rfl (fun c33 => ?_) (fun c33 => ?_)
        · refine Tr.pick [0] (ls2 := [(0, (2, 74))]) rfl ?_
          exact J103 _ hS k13_15_0 k13_74_1 k13_82_1
        · refine Tr.aload_n (pc := 36) (i := 0) d_X6_go_36 rfl rfl ?_
          refine Tr.getf (pc := 37) d_X6_go_37 f_6_62 (by decide) (by decide) (ty_74 hS.1.1) ?_
          refine Tr.gen (P := fun v => (-2147483648) ≤ v ∧ v ≤ 2147483647) (ir_74_14 hS.1.2.1) (fun r37 er37 br37 => ?_)
          refine Tr.if_ne (pc := 40) (tgt := 103) d_X6_go_40 rfl (fun c40 => ?_) (fun c40 => ?_)
          · refine Tr.pick [0] (ls2 := [(0, (2, 74))]) rfl ?_
            exact J103 _ hS k13_15_0 k13_74_1 k13_82_1
          · refine Tr.aload_n (pc := 43) (i := 0) d_X6_go_43 rfl rfl ?_
            refine Tr.getf (pc := 44) d_X6_go_44 f_6_38 (by decide) (by decide) (ty_74 hS.1.1) ?_
            refine Tr.tp 82 (fx_74_0 hS.1.1) ?_
            refine Tr.callV (pc := 47) (as := []) d_X6_go_47 s_6_65 ok_X1_makeRoom rfl rfl (Nat.le_of_ble_eq_true rfl) (Nat.le_of_ble_eq_true rfl) (by decide) (ty_82 hS.1.1) ?_
            refine Tr.imp (Tr.deep (by decide) (sp_X1_makeRoom_82 hS.1 )) ?_
            rintro M47 _ ⟨h47, rfl⟩
            have hS := St.tr hS h47 (by decide) (by decide)
            refine Tr.sc [] rfl ?_
            refine Tr.aload_n (pc := 50) (i := 0) d_X6_go_50 rfl rfl ?_
            refine Tr.getf (pc := 51) d_X6_go_51 f_6_68 (by decide) (by decide) (ty_74 hS.1.1) ?_
            refine Tr.gen (P := fun v => (-2147483648) ≤ v ∧ v ≤ 2147483647) (ir_74_9 hS.1.2.1) (fun r51 er51 br51 => ?_)
            refine Tr.istore (pc := 54) (i := 6) (ls2 := [(6, (0, r51)), (0, (2, 74)), (4, (0, p13_4)), (5, (0, p13_5))]) d_X6_go_54 (by decide) rfl ?_
            refine Tr.aload_n (pc := 56) (i := 0) d_X6_go_56 rfl rfl ?_
            refine Tr.iload (pc := 57) (i := 4) d_X6_go_57 rfl ?_
            refine Tr.callV (pc := 59) (as := [_]) d_X6_go_59 s_6_71 ok_X6_step rfl rfl (Nat.le_of_ble_eq_true rfl) (Nat.le_of_ble_eq_true rfl) (by decide) (ty_74 hS.1.1) ?_
            have kb59_15_0 : rd M47 15 0 = g15_0 := ((St.kp h47 (by decide) (by decide) (by decide)).trans k13_15_0)
            refine Tr.imp (Tr.deep (by decide) (sp_X6_step_74_w1 hS.1 ((St.kp h47 (by decide) (by decide) (by decide)).trans k13_74_1) p13_4 (by omega) (by omega) (Yn15.of hF_Y15 (fun j => (St.ka hS (by decide) (by decide) (by decide))) (fun j => (St.ka hS (by decide) (by decide) (by decide))) (St.kp hS (by decide) (by decide) (by decide))))) ?_
            rintro M59 _ ⟨h59, r59, rfl, lr59, ur59⟩
            have hS := St.tr hS h59 (by decide) (by decide)
            refine Tr.sc [(0, r59)] rfl ?_
            refine Tr.istore (pc := 62) (i := 7) (ls2 := [(7, (0, r59)), (6, (0, r51)), (0, (2, 74)), (4, (0, p13_4)), (5, (0, p13_5))]) d_X6_go_62 (by decide) rfl ?_
            refine Tr.aload_n (pc := 64) (i := 0) d_X6_go_64 rfl rfl ?_
            refine Tr.getf (pc := 65) d_X6_go_65 f_6_38 (by decide) (by decide) (ty_74 hS.1.1) ?_
            refine Tr.tp 82 (fx_74_0 hS.1.1) ?_
            refine Tr.iload (pc := 68) (i := 4) d_X6_go_68 rfl ?_
            refine Tr.aload_n (pc := 70) (i := 0) d_X6_go_70 rfl rfl ?_
            refine Tr.getf (pc := 71) d_X6_go_71 f_6_68 (by decide) (by decide) (ty_74 hS.1.1) ?_
            refine Tr.gen (P := fun v => (-2147483648) ≤ v ∧ v ≤ 2147483647) (ir_74_9 hS.1.2.1) (fun r71 er71 br71 => ?_)
            refine Tr.iload (pc := 74) (i := 6) d_X6_go_74 rfl ?_
            refine Tr.isub (pc := 76) d_X6_go_76 ?_
            refine Tr.gen (P := fun v => (-2147483648) ≤ v ∧ v ≤ 2147483647) (w32_b _) (fun r76 er76 br76 => ?_)
            refine Tr.callV (pc := 77) (as := [_, _]) d_X6_go_77 s_6_75 ok_X1_payHeart rfl rfl (Nat.le_of_ble_eq_true rfl) (Nat.le_of_ble_eq_true rfl) (by decide) (ty_82 hS.1.1) ?_
            refine Tr.imp (Tr.deep (by decide) (sp_X1_payHeart_82_w1 hS.1 p13_4 (by omega) r76 (by omega))) ?_
            rintro M77 _ ⟨h77, rfl⟩
            have hS := St.tr hS h77 (by decide) (by decide)
            refine Tr.sc [] rfl ?_
            refine Tr.aload_n (pc := 80) (i := 0) d_X6_go_80 rfl rfl ?_
            refine Tr.getf (pc := 81) d_X6_go_81 f_6_62 (by decide) (by decide) (ty_74 hS.1.1) ?_
            refine Tr.gen (P := fun v => (-2147483648) ≤ v ∧ v ≤ 2147483647) (ir_74_14 hS.1.2.1) (fun r81 er81 br81 => ?_)
            have J93 : ∀ (M : Mem), St Tru ws_X6_go_74_7_104 as_X6_go_74_7_104 M0 M → rd M 15 0 = g15_0 → rd M 74 1 = 7 → rd M 74 14 = r81 → rd M 74 9 = r71 → rd M 82 1 = 7 → Tr l K 5 mX6_go 93 [(0, (2, 74)), (5, (0, p13_5)), (7, (0, r59))] [] M (q_X6_go_74_7_104 M0) := by
              intro M  hS  k93_15_0 k93_74_1 k93_74_14 k93_74_9 k93_82_1
              refine Tr.iload (pc := 93) (i := 7) d_X6_go_93 rfl ?_
              refine Tr.istore (pc := 95) (i := 4) (ls2 := [(4, (0, r59)), (0, (2, 74)), (5, (0, p13_5)), (7, (0, r59))]) d_X6_go_95 (by decide) rfl ?_
              refine Tr.iincV (pc := 97) (n2 := (p13_5 + 1)) (ls2 := [(5, (0, (p13_5 + 1))), (4, (0, r59)), (0, (2, 74)), (7, (0, r59))]) d_X6_go_97 rfl (by decide) ((w32_id (by omega)).trans (by omega)) rfl ?_
              refine Tr.goto (pc := 100) (tgt := 13) d_X6_go_100 rfl ?_
              refine Tr.pick [2, 1, 0] (ls2 := [(0, (2, 74)), (4, (0, r59)), (5, (0, (p13_5 + 1)))]) rfl ?_
              exact J13 _ _ _ hS (by omega) (by omega) k93_15_0 k93_74_1 k93_82_1 (by omega)
            refine Tr.if_eq (pc := 84) (tgt := 93) d_X6_go_84 rfl (fun c84 => ?_) (fun c84 => ?_)
            · refine Tr.pick [2, 4, 0] (ls2 := [(0, (2, 74)), (5, (0, p13_5)), (7, (0, r59))]) rfl ?_
              exact J93 _ hS ((St.kp h77 (by decide) (by decide) (by decide)).trans ((St.kp h59 (by decide) (by decide) (by decide)).trans ((St.kp h47 (by decide) (by decide) (by decide)).trans k13_15_0))) ((St.kp h77 (by decide) (by decide) (by decide)).trans ((St.kp h59 (by decide) (by decide) (by decide)).trans ((St.kp h47 (by decide) (by decide) (by decide)).trans k13_74_1))) er81 ((St.kp h77 (by decide) (by decide) (by decide)).trans er71) ((St.kp h77 (by decide) (by decide) (by decide)).trans ((St.kp h59 (by decide) (by decide) (by decide)).trans ((St.kp h47 (by decide) (by decide) (by decide)).trans k13_82_1)))
            · refine Tr.aload_n (pc := 87) (i := 0) d_X6_go_87 rfl rfl ?_
              refine Tr.iload (pc := 88) (i := 4) d_X6_go_88 rfl ?_
              refine Tr.putfS (pc := 90) (P := St Tru ws_X6_go_74_7_104 as_X6_go_74_7_104 M0) d_X6_go_90 f_6_79 (by decide) (by decide) (ty_74 hS.1.1) (st_74_15 hS (by decide) (by omega) trivial) (fun M90 hS w90 => ?_)
              refine Tr.pick [2, 4, 0] (ls2 := [(0, (2, 74)), (5, (0, p13_5)), (7, (0, r59))]) rfl ?_
              exact J93 _ hS ((Wr.b w90 rfl).trans ((St.kp h77 (by decide) (by decide) (by decide)).trans ((St.kp h59 (by decide) (by decide) (by decide)).trans ((St.kp h47 (by decide) (by decide) (by decide)).trans k13_15_0)))) ((Wr.b w90 rfl).trans ((St.kp h77 (by decide) (by decide) (by decide)).trans ((St.kp h59 (by decide) (by decide) (by decide)).trans ((St.kp h47 (by decide) (by decide) (by decide)).trans k13_74_1)))) ((Wr.b w90 rfl).trans er81) ((Wr.b w90 rfl).trans ((St.kp h77 (by decide) (by decide) (by decide)).trans er71)) ((Wr.b w90 rfl).trans ((St.kp h77 (by decide) (by decide) (by decide)).trans ((St.kp h59 (by decide) (by decide) (by decide)).trans ((St.kp h47 (by decide) (by decide) (by decide)).trans k13_82_1))))
  refine Tr.pick [2, 1, 0] (ls2 := [(0, (2, 74)), (4, (0, 0)), (5, (0, 0))]) rfl ?_
  exact J13 _ _ _ _ hS (by omega) (by omega) ((St.kp h4 (by decide) (by decide) (by decide)).trans eg15_0) o4_74_1 o4_82_1 (Nat.lt_succ_self _)

def ws_X10_turnOn_103_7 : List (Int × Int) := []
def as_X10_turnOn_103_7 : List Int := [104]
def q_X10_turnOn_103_7 (M0 M' : Mem) (r : Option PV) : Prop := St Tru ws_X10_turnOn_103_7 as_X10_turnOn_103_7 M0 M' ∧ r = none
set_option maxRecDepth 100000 in
set_option maxHeartbeats 4000000 in
theorem sp_X10_turnOn_103_7 {l : Launch} {K : EC} {M0 : Mem} (hI : In Tru M0)    : Tr l K 0 mX10_turnOn 0 [(0, (2, 103)), (1, (2, 7))] [] M0 (q_X10_turnOn_103_7 M0) := by
  have hS : St Tru ws_X10_turnOn_103_7 as_X10_turnOn_103_7 M0 M0 := St.rf hI
  refine Tr.aload_n (pc := 0) (i := 1) d_X10_turnOn_0 rfl rfl ?_
  refine Tr.getf (pc := 1) d_X10_turnOn_1 f_10_25 (by decide) (by decide) (ty_7 hS.1.1) ?_
  refine Tr.tp 8 (fx_7_4 hS.1.1) ?_
  refine Tr.iconst (pc := 4) d_X10_turnOn_4 (by decide) ?_
  refine Tr.iald (pc := 5) d_X10_turnOn_5 (ty_8 hS.1.1) (by omega) (by omega) ?_
  refine Tr.gen (P := fun v => 0 ≤ v ∧ v ≤ 3) (ir_8_1 hS.1.2.1) (fun r5 er5 br5 => ?_)
  refine Tr.iconst (pc := 6) d_X10_turnOn_6 (by decide) ?_
  refine Tr.isub (pc := 7) d_X10_turnOn_7 ?_
  refine Tr.tp (r5 - 1) ((w32_id (by omega)).trans (by omega)) ?_
  refine Tr.istore_n (pc := 8) (i := 2) (ls2 := [(2, (0, (r5 - 1))), (0, (2, 103)), (1, (2, 7))]) d_X10_turnOn_8 rfl (by decide) rfl ?_
  have J9 : ∀ (n9 : Nat) (M : Mem) (p9_2 : Int), St Tru ws_X10_turnOn_103_7 as_X10_turnOn_103_7 M0 M → ((-1) ≤ p9_2 ∧ p9_2 ≤ 2) → rd M 8 1 = r5 → (p9_2 - (-1)).toNat < n9 → Tr l K 0 mX10_turnOn 9 [(0, (2, 103)), (1, (2, 7)), (2, (0, p9_2))] [] M (q_X10_turnOn_103_7 M0) := by
    intro n9
    induction n9 with
    | zero => intro M p9_2 hS bp9_2 k9_8_1 hm9; exact absurd hm9 (Nat.not_lt_zero _)
    | succ n9 J9 =>
      intro M p9_2 hS bp9_2 k9_8_1 hm9
      refine Tr.iload_n (pc := 9) (i := 2) d_X10_turnOn_9 rfl rfl ?_
      refine Tr.if_lt (pc := 10) (tgt := 57) d_X10_turnOn_10 rfl (fun c10 => ?_) (fun c10 => ?_)
      · exact Tr.vret (pc := 57) d_X10_turnOn_57 rfl ⟨hS, rfl⟩
      · refine Tr.aload_n (pc := 13) (i := 0) d_X10_turnOn_13 rfl rfl ?_
        refine Tr.getf (pc := 14) d_X10_turnOn_14 f_10_9 (by decide) (by decide) (ty_103 hS.1.1) ?_
        refine Tr.tp 104 (fx_103_4 hS.1.1) ?_
        refine Tr.iload_n (pc := 17) (i := 2) d_X10_turnOn_17 rfl rfl ?_
        refine Tr.iald (pc := 18) d_X10_turnOn_18 (ty_104 hS.1.1) (by omega) (by omega) ?_
        refine Tr.gen (P := fun v => (-2147483648) ≤ v ∧ v ≤ 2147483647) (ar_104 hS.1.2.1 _) (fun r18 er18 br18 => ?_)
        refine Tr.aload_n (pc := 19) (i := 1) d_X10_turnOn_19 rfl rfl ?_
        refine Tr.getf (pc := 20) d_X10_turnOn_20 f_10_30 (by decide) (by decide) (ty_7 hS.1.1) ?_
        refine Tr.tp 13 (fx_7_9 hS.1.1) ?_
        refine Tr.iload_n (pc := 23) (i := 2) d_X10_turnOn_23 rfl rfl ?_
        refine Tr.iald (pc := 24) d_X10_turnOn_24 (ty_13 hS.1.1) (by omega) (by omega) ?_
        refine Tr.gen (P := fun v => (-1) ≤ v ∧ v ≤ 99) (ar_13 hS.1.2.1 _) (fun r24 er24 br24 => ?_)
        refine Tr.icmp_ge (pc := 25) (tgt := 39) d_X10_turnOn_25 rfl (fun c25 => ?_) (fun c25 => ?_)
        · refine Tr.aload_n (pc := 39) (i := 0) d_X10_turnOn_39 rfl rfl ?_
          refine Tr.getf (pc := 40) d_X10_turnOn_40 f_10_9 (by decide) (by decide) (ty_103 hS.1.1) ?_
          refine Tr.tp 104 (fx_103_4 hS.1.1) ?_
          refine Tr.iload_n (pc := 43) (i := 2) d_X10_turnOn_43 rfl rfl ?_
          refine Tr.aload_n (pc := 44) (i := 1) d_X10_turnOn_44 rfl rfl ?_
          refine Tr.getf (pc := 45) d_X10_turnOn_45 f_10_33 (by decide) (by decide) (ty_7 hS.1.1) ?_
          refine Tr.tp 12 (fx_7_8 hS.1.1) ?_
          refine Tr.iload_n (pc := 48) (i := 2) d_X10_turnOn_48 rfl rfl ?_
          refine Tr.iald (pc := 49) d_X10_turnOn_49 (ty_12 hS.1.1) (by omega) (by omega) ?_
          refine Tr.gen (P := fun v => (-1) ≤ v ∧ v ≤ 99) (ar_12 hS.1.2.1 _) (fun r49 er49 br49 => ?_)
          refine Tr.iastS (pc := 50) (P := St Tru ws_X10_turnOn_103_7 as_X10_turnOn_103_7 M0) d_X10_turnOn_50 (ty_104 hS.1.1) (by omega) (by omega) (sa_104 hS (by decide) (by omega) trivial) (fun M50 hS w50 => ?_)
          refine Tr.iincV (pc := 51) (n2 := (p9_2 - 1)) (ls2 := [(2, (0, (p9_2 - 1))), (0, (2, 103)), (1, (2, 7))]) d_X10_turnOn_51 rfl (by decide) ((w32_id (by omega)).trans (by omega)) rfl ?_
          refine Tr.goto (pc := 54) (tgt := 9) d_X10_turnOn_54 rfl ?_
          refine Tr.pick [1, 2, 0] (ls2 := [(0, (2, 103)), (1, (2, 7)), (2, (0, (p9_2 - 1)))]) rfl ?_
          exact J9 _ _ hS (by omega) ((Wr.b w50 rfl).trans k9_8_1) (by omega)
        · refine Tr.aload_n (pc := 28) (i := 0) d_X10_turnOn_28 rfl rfl ?_
          refine Tr.getf (pc := 29) d_X10_turnOn_29 f_10_9 (by decide) (by decide) (ty_103 hS.1.1) ?_
          refine Tr.tp 104 (fx_103_4 hS.1.1) ?_
          refine Tr.iload_n (pc := 32) (i := 2) d_X10_turnOn_32 rfl rfl ?_
          refine Tr.dup2 (pc := 33) d_X10_turnOn_33 ne01 ne21 ?_
          refine Tr.iald (pc := 34) d_X10_turnOn_34 (ty_104 hS.1.1) (by omega) (by omega) ?_
          refine Tr.tp r18 er18 ?_
          refine Tr.iconst (pc := 35) d_X10_turnOn_35 (by decide) ?_
          refine Tr.iadd (pc := 36) d_X10_turnOn_36 ?_
          refine Tr.tp (r18 + 1) ((w32_id (by omega)).trans (by omega)) ?_
          refine Tr.iastS (pc := 37) (P := St Tru ws_X10_turnOn_103_7 as_X10_turnOn_103_7 M0) d_X10_turnOn_37 (ty_104 hS.1.1) (by omega) (by omega) (sa_104 hS (by decide) (by omega) trivial) (fun M37 hS w37 => ?_)
          exact Tr.vret (pc := 38) d_X10_turnOn_38 rfl ⟨hS, rfl⟩
  refine Tr.pick [1, 2, 0] (ls2 := [(0, (2, 103)), (1, (2, 7)), (2, (0, (r5 - 1)))]) rfl ?_
  exact J9 _ _ _ hS (by omega) er5 (Nat.lt_succ_self _)

def ws_X10_compare_103_w1 : List (Int × Int) := [(103, 2), (103, 3)]
def as_X10_compare_103_w1 : List Int := [105, 106]
def q_X10_compare_103_w1 (M0 M' : Mem) (r : Option PV) : Prop := St Tru ws_X10_compare_103_w1 as_X10_compare_103_w1 M0 M' ∧ r = none
set_option maxRecDepth 100000 in
set_option maxHeartbeats 4000000 in
theorem sp_X10_compare_103_w1 {l : Launch} {K : EC} {M0 : Mem} (hI : In Tru M0)  (a1 : Int) (ha1 : (-2147483648) ≤ a1 ∧ a1 ≤ 2147483647) (a2 : Int) (ha2 : 0 ≤ a2 ∧ a2 ≤ 1)  : Tr l K 1 mX10_compare 0 [(0, (2, 103)), (1, (0, a1)), (2, (0, a2))] [] M0 (q_X10_compare_103_w1 M0) := by
  have hS : St Tru ws_X10_compare_103_w1 as_X10_compare_103_w1 M0 M0 := St.rf hI
  refine Tr.iload_n (pc := 0) (i := 2) d_X10_compare_0 rfl rfl ?_
  have J31 : ∀ (M : Mem), St Tru ws_X10_compare_103_w1 as_X10_compare_103_w1 M0 M → Tr l K 1 mX10_compare 31 [(0, (2, 103)), (1, (0, a1)), (2, (0, a2))] [] M (q_X10_compare_103_w1 M0) := by
    intro M  hS  
    refine Tr.iload_n (pc := 31) (i := 2) d_X10_compare_31 rfl rfl ?_
    have J43 : ∀ (M : Mem), St Tru ws_X10_compare_103_w1 as_X10_compare_103_w1 M0 M → Tr l K 1 mX10_compare 43 [(0, (2, 103)), (1, (0, a1))] [] M (q_X10_compare_103_w1 M0) := by
      intro M  hS  
      refine Tr.aload_n (pc := 43) (i := 0) d_X10_compare_43 rfl rfl ?_
      refine Tr.iload_n (pc := 44) (i := 1) d_X10_compare_44 rfl rfl ?_
      refine Tr.putfS (pc := 45) (P := St Tru ws_X10_compare_103_w1 as_X10_compare_103_w1 M0) d_X10_compare_45 f_10_50 (by decide) (by decide) (ty_103 hS.1.1) (st_103_3 hS (by decide) (by omega) trivial) (fun M45 hS w45 => ?_)
      refine Tr.aload_n (pc := 48) (i := 0) d_X10_compare_48 rfl rfl ?_
      refine Tr.getf (pc := 49) d_X10_compare_49 f_10_9 (by decide) (by decide) (ty_103 hS.1.1) ?_
      refine Tr.tp 104 (fx_103_4 hS.1.1) ?_
      refine Tr.iconst (pc := 52) d_X10_compare_52 (by decide) ?_
      refine Tr.aload_n (pc := 53) (i := 0) d_X10_compare_53 rfl rfl ?_
      refine Tr.getf (pc := 54) d_X10_compare_54 f_10_18 (by decide) (by decide) (ty_103 hS.1.1) ?_
      refine Tr.tp 106 (fx_103_6 hS.1.1) ?_
      refine Tr.iconst (pc := 57) d_X10_compare_57 (by decide) ?_
      refine Tr.iconst (pc := 58) d_X10_compare_58 (by decide) ?_
      refine Tr.acopyS (pc := 59) (x := 104) (y := 106) (P := St Tru ws_X10_compare_103_w1 as_X10_compare_103_w1 M0) d_X10_compare_59 ac_10_36 acw.1 acw.2.1 acw.2.2 (ty_104 hS.1.1) (ty_106 hS.1.1) (by omega) (by omega) (by omega) (by omega) (by omega) (Nat.le_of_ble_eq_true rfl) (sw_106 hS (by decide) rfl rfl rfl (fun z i hz => by rw [rd_cpy, if_neg (fun c => hz c.1)]) (fun i => by rw [rd_cpy]; split; exact And.intro (by have := ar_104 hS.1.2.1 (0 + (i - 0)); omega) (by have := ar_104 hS.1.2.1 (0 + (i - 0)); omega); exact ar_106 hS.1.2.1 i) trivial) (fun M59 hS w59 => ?_)
      exact Tr.vret (pc := 62) d_X10_compare_62 rfl ⟨hS, rfl⟩
    refine Tr.if_ne (pc := 32) (tgt := 43) d_X10_compare_32 rfl (fun c32 => ?_) (fun c32 => ?_)
    · refine Tr.pick [0, 1] (ls2 := [(0, (2, 103)), (1, (0, a1))]) rfl ?_
      exact J43 _ hS 
    · refine Tr.iload_n (pc := 35) (i := 1) d_X10_compare_35 rfl rfl ?_
      refine Tr.aload_n (pc := 36) (i := 0) d_X10_compare_36 rfl rfl ?_
      refine Tr.getf (pc := 37) d_X10_compare_37 f_10_50 (by decide) (by decide) (ty_103 hS.1.1) ?_
      refine Tr.gen (P := fun v => (-2147483648) ≤ v ∧ v ≤ 2147483647) (ir_103_3 hS.1.2.1) (fun r37 er37 br37 => ?_)
      refine Tr.icmp_ge (pc := 40) (tgt := 62) d_X10_compare_40 rfl (fun c40 => ?_) (fun c40 => ?_)
      · exact Tr.vret (pc := 62) d_X10_compare_62 rfl ⟨hS, rfl⟩
      · refine Tr.pick [0, 1] (ls2 := [(0, (2, 103)), (1, (0, a1))]) rfl ?_
        exact J43 _ hS 
  have J12 : ∀ (M : Mem), St Tru ws_X10_compare_103_w1 as_X10_compare_103_w1 M0 M → Tr l K 1 mX10_compare 12 [(0, (2, 103)), (1, (0, a1)), (2, (0, a2))] [] M (q_X10_compare_103_w1 M0) := by
    intro M  hS  
    refine Tr.aload_n (pc := 12) (i := 0) d_X10_compare_12 rfl rfl ?_
    refine Tr.iload_n (pc := 13) (i := 1) d_X10_compare_13 rfl rfl ?_
    refine Tr.putfS (pc := 14) (P := St Tru ws_X10_compare_103_w1 as_X10_compare_103_w1 M0) d_X10_compare_14 f_10_46 (by decide) (by decide) (ty_103 hS.1.1) (st_103_2 hS (by decide) (by omega) trivial) (fun M14 hS w14 => ?_)
    refine Tr.aload_n (pc := 17) (i := 0) d_X10_compare_17 rfl rfl ?_
    refine Tr.getf (pc := 18) d_X10_compare_18 f_10_9 (by decide) (by decide) (ty_103 hS.1.1) ?_
    refine Tr.tp 104 (fx_103_4 hS.1.1) ?_
    refine Tr.iconst (pc := 21) d_X10_compare_21 (by decide) ?_
    refine Tr.aload_n (pc := 22) (i := 0) d_X10_compare_22 rfl rfl ?_
    refine Tr.getf (pc := 23) d_X10_compare_23 f_10_15 (by decide) (by decide) (ty_103 hS.1.1) ?_
    refine Tr.tp 105 (fx_103_5 hS.1.1) ?_
    refine Tr.iconst (pc := 26) d_X10_compare_26 (by decide) ?_
    refine Tr.iconst (pc := 27) d_X10_compare_27 (by decide) ?_
    refine Tr.acopyS (pc := 28) (x := 104) (y := 105) (P := St Tru ws_X10_compare_103_w1 as_X10_compare_103_w1 M0) d_X10_compare_28 ac_10_36 acw.1 acw.2.1 acw.2.2 (ty_104 hS.1.1) (ty_105 hS.1.1) (by omega) (by omega) (by omega) (by omega) (by omega) (Nat.le_of_ble_eq_true rfl) (sw_105 hS (by decide) rfl rfl rfl (fun z i hz => by rw [rd_cpy, if_neg (fun c => hz c.1)]) (fun i => by rw [rd_cpy]; split; exact And.intro (by have := ar_104 hS.1.2.1 (0 + (i - 0)); omega) (by have := ar_104 hS.1.2.1 (0 + (i - 0)); omega); exact ar_105 hS.1.2.1 i) trivial) (fun M28 hS w28 => ?_)
    refine Tr.pick [0, 1, 2] (ls2 := [(0, (2, 103)), (1, (0, a1)), (2, (0, a2))]) rfl ?_
    exact J31 _ hS 
  refine Tr.if_ne (pc := 1) (tgt := 12) d_X10_compare_1 rfl (fun c1 => ?_) (fun c1 => ?_)
  · refine Tr.pick [0, 1, 2] (ls2 := [(0, (2, 103)), (1, (0, a1)), (2, (0, a2))]) rfl ?_
    exact J12 _ hS 
  · refine Tr.iload_n (pc := 4) (i := 1) d_X10_compare_4 rfl rfl ?_
    refine Tr.aload_n (pc := 5) (i := 0) d_X10_compare_5 rfl rfl ?_
    refine Tr.getf (pc := 6) d_X10_compare_6 f_10_46 (by decide) (by decide) (ty_103 hS.1.1) ?_
    refine Tr.gen (P := fun v => (-2147483648) ≤ v ∧ v ≤ 2147483647) (ir_103_2 hS.1.2.1) (fun r6 er6 br6 => ?_)
    refine Tr.icmp_le (pc := 9) (tgt := 31) d_X10_compare_9 rfl (fun c9 => ?_) (fun c9 => ?_)
    · refine Tr.pick [0, 1, 2] (ls2 := [(0, (2, 103)), (1, (0, a1)), (2, (0, a2))]) rfl ?_
      exact J31 _ hS 
    · refine Tr.pick [0, 1, 2] (ls2 := [(0, (2, 103)), (1, (0, a1)), (2, (0, a2))]) rfl ?_
      exact J12 _ hS 

def ws_X11_over_0 : List (Int × Int) := [(74, 1), (74, 9), (74, 10), (74, 11), (74, 12), (74, 13), (74, 14), (74, 15), (74, 16), (74, 17), (82, 1), (103, 0), (103, 1), (103, 2), (103, 3)]
def as_X11_over_0 : List Int := [75, 76, 77, 78, 79, 80, 81, 83, 104, 105, 106]
def q_X11_over_0 (M0 M' : Mem) (r : Option PV) : Prop := St Tru ws_X11_over_0 as_X11_over_0 M0 M' ∧ ∃ v : Int, r = some (0, v) ∧ (-2147483648) ≤ v ∧ v ≤ 2147483647
set_option maxRecDepth 100000 in
set_option maxHeartbeats 4000000 in
theorem sp_X11_over_0 {l : Launch} {K : EC} {M0 : Mem} (hI : In Tru M0) (en_0_4 : rd M0 0 4 = 7) (a1 : Int) (ha1 : 0 ≤ a1 ∧ a1 ≤ 1)  (hF_Y15 : Yn15 M0) : Tr l K 6 mX11_over 0 [(0, (2, 0)), (1, (0, a1))] [] M0 (q_X11_over_0 M0) := by
  have hS : St Tru ws_X11_over_0 as_X11_over_0 M0 M0 := St.rf hI
  refine Tr.aload_n (pc := 0) (i := 0) d_X11_over_0 rfl rfl ?_
  refine Tr.getf (pc := 1) d_X11_over_1 f_11_63 (by decide) (by decide) (ty_0 hS.1.1) ?_
  refine Tr.tp 103 (fx_0_11 hS.1.1) ?_
  refine Tr.aload_n (pc := 4) (i := 0) d_X11_over_4 rfl rfl ?_
  refine Tr.getf (pc := 5) d_X11_over_5 f_11_30 (by decide) (by decide) (ty_0 hS.1.1) ?_
  refine Tr.tp 7 ((St.kp hS (by decide) (by decide) (by decide)).trans en_0_4) ?_
  refine Tr.callV (pc := 8) (as := [_]) d_X11_over_8 s_11_249 ok_X10_begin rfl rfl (Nat.le_of_ble_eq_true rfl) (Nat.le_of_ble_eq_true rfl) (by decide) (ty_103 hS.1.1) ?_
  refine Tr.imp (Tr.deep (by decide) (sp_X10_begin_103_7 hS.1 )) ?_
  rintro M8 _ ⟨h8, r8, rfl, lr8, ur8⟩
  have hS := St.tr hS h8 (by decide) (by decide)
  refine Tr.sc [(0, r8)] rfl ?_
  refine Tr.istore_n (pc := 11) (i := 2) (ls2 := [(2, (0, r8)), (0, (2, 0)), (1, (0, a1))]) d_X11_over_11 rfl (by decide) rfl ?_
  refine Tr.iload_n (pc := 12) (i := 2) d_X11_over_12 rfl rfl ?_
  refine Tr.sipush (pc := 13) d_X11_over_13 rfl (by decide) ?_
  refine Tr.icmp_le (pc := 16) (tgt := 21) d_X11_over_16 rfl (fun c16 => ?_) (fun c16 => ?_)
  · refine Tr.iconst (pc := 21) d_X11_over_21 (by decide) ?_
    refine Tr.istore_n (pc := 22) (i := 3) (ls2 := [(3, (0, 0)), (2, (0, r8)), (0, (2, 0)), (1, (0, a1))]) d_X11_over_22 rfl (by decide) rfl ?_
    have J23 : ∀ (n23 : Nat) (M : Mem) (p23_3 : Int), St Tru ws_X11_over_0 as_X11_over_0 M0 M → (0 ≤ p23_3 ∧ p23_3 ≤ 256) → (256 - p23_3).toNat < n23 → Tr l K 6 mX11_over 23 [(0, (2, 0)), (1, (0, a1)), (2, (0, r8)), (3, (0, p23_3))] [] M (q_X11_over_0 M0) := by
      intro n23
      induction n23 with
      | zero => intro M p23_3 hS bp23_3  hm23; exact absurd hm23 (Nat.not_lt_zero _)
      | succ n23 J23 =>
        intro M p23_3 hS bp23_3  hm23
        refine Tr.iload_n (pc := 23) (i := 3) d_X11_over_23 rfl rfl ?_
        refine Tr.iload_n (pc := 24) (i := 2) d_X11_over_24 rfl rfl ?_
        refine Tr.icmp_ge (pc := 25) (tgt := 87) d_X11_over_25 rfl (fun c25 => ?_) (fun c25 => ?_)
        · refine Tr.aload_n (pc := 87) (i := 0) d_X11_over_87 rfl rfl ?_
          refine Tr.getf (pc := 88) d_X11_over_88 f_11_63 (by decide) (by decide) (ty_0 hS.1.1) ?_
          refine Tr.tp 103 (fx_0_11 hS.1.1) ?_
          refine Tr.iload_n (pc := 91) (i := 1) d_X11_over_91 rfl rfl ?_
          refine Tr.callV (pc := 92) (as := [_]) d_X11_over_92 s_11_264 ok_X10_choose rfl rfl (Nat.le_of_ble_eq_true rfl) (Nat.le_of_ble_eq_true rfl) (by decide) (ty_103 hS.1.1) ?_
          refine Tr.imp (Tr.deep (by decide) (sp_X10_choose_103 hS.1 a1 (by omega))) ?_
          rintro M92 _ ⟨h92, r92, rfl, lr92, ur92⟩
          have hS := St.tr hS h92 (by decide) (by decide)
          refine Tr.sc [(0, r92)] rfl ?_
          exact Tr.iret (pc := 95) d_X11_over_95 rfl ⟨hS, _, rfl, by omega, by omega⟩
        · refine Tr.aload_n (pc := 28) (i := 0) d_X11_over_28 rfl rfl ?_
          refine Tr.getf (pc := 29) d_X11_over_29 f_11_50 (by decide) (by decide) (ty_0 hS.1.1) ?_
          refine Tr.tp 74 (fx_0_8 hS.1.1) ?_
          refine Tr.aload_n (pc := 32) (i := 0) d_X11_over_32 rfl rfl ?_
          refine Tr.getf (pc := 33) d_X11_over_33 f_11_30 (by decide) (by decide) (ty_0 hS.1.1) ?_
          refine Tr.tp 7 ((St.kp hS (by decide) (by decide) (by decide)).trans en_0_4) ?_
          refine Tr.aload_n (pc := 36) (i := 0) d_X11_over_36 rfl rfl ?_
          refine Tr.getf (pc := 37) d_X11_over_37 f_11_63 (by decide) (by decide) (ty_0 hS.1.1) ?_
          refine Tr.tp 103 (fx_0_11 hS.1.1) ?_
          refine Tr.getf (pc := 40) d_X11_over_40 f_11_253 (by decide) (by decide) (ty_103 hS.1.1) ?_
          refine Tr.tp 104 (fx_103_4 hS.1.1) ?_
          refine Tr.iconst (pc := 43) d_X11_over_43 (by decide) ?_
          refine Tr.callV (pc := 44) (as := [_, _, _]) d_X11_over_44 s_11_144 ok_X6_go rfl rfl (Nat.le_of_ble_eq_true rfl) (Nat.le_of_ble_eq_true rfl) (by decide) (ty_74 hS.1.1) ?_
          refine Tr.imp (Tr.deep (by decide) (sp_X6_go_74_7_104 hS.1 (-1) (by omega) (Yn15.of hF_Y15 (fun j => (St.ka hS (by decide) (by decide) (by decide))) (fun j => (St.ka hS (by decide) (by decide) (by decide))) (St.kp hS (by decide) (by decide) (by decide))))) ?_
          rintro M44 _ ⟨h44, o44_74_1, o44_82_1, rfl⟩
          have hS := St.tr hS h44 (by decide) (by decide)
          refine Tr.sc [] rfl ?_
          refine Tr.aload_n (pc := 47) (i := 0) d_X11_over_47 rfl rfl ?_
          refine Tr.getf (pc := 48) d_X11_over_48 f_11_63 (by decide) (by decide) (ty_0 hS.1.1) ?_
          refine Tr.tp 103 (fx_0_11 hS.1.1) ?_
          refine Tr.aload_n (pc := 51) (i := 0) d_X11_over_51 rfl rfl ?_
          refine Tr.getf (pc := 52) d_X11_over_52 f_11_50 (by decide) (by decide) (ty_0 hS.1.1) ?_
          refine Tr.tp 74 (fx_0_8 hS.1.1) ?_
          refine Tr.getf (pc := 55) d_X11_over_55 f_11_155 (by decide) (by decide) (ty_74 hS.1.1) ?_
          refine Tr.gen (P := fun v => (-2147483648) ≤ v ∧ v ≤ 2147483647) (ir_74_10 hS.1.2.1) (fun r55 er55 br55 => ?_)
          refine Tr.iload_n (pc := 58) (i := 3) d_X11_over_58 rfl rfl ?_
          have J67 : ∀ (M : Mem) (q67_2 : Int), St Tru ws_X11_over_0 as_X11_over_0 M0 M → (0 ≤ q67_2 ∧ q67_2 ≤ 1) → rd M 74 1 = 7 → rd M 74 10 = r55 → rd M 82 1 = 7 → Tr l K 6 mX11_over 67 [(0, (2, 0)), (1, (0, a1)), (2, (0, r8)), (3, (0, p23_3))] [(0, q67_2), (0, r55), (2, 103)] M (q_X11_over_0 M0) := by
            intro M q67_2 hS bq67_2 k67_74_1 k67_74_10 k67_82_1
            refine Tr.callV (pc := 67) (as := [_, _]) d_X11_over_67 s_11_256 ok_X10_compare rfl rfl (Nat.le_of_ble_eq_true rfl) (Nat.le_of_ble_eq_true rfl) (by decide) (ty_103 hS.1.1) ?_
            refine Tr.imp (Tr.deep (by decide) (sp_X10_compare_103_w1 hS.1 r55 (by omega) q67_2 (by omega))) ?_
            rintro M67 _ ⟨h67, rfl⟩
            have hS := St.tr hS h67 (by decide) (by decide)
            refine Tr.sc [] rfl ?_
            refine Tr.aload_n (pc := 70) (i := 0) d_X11_over_70 rfl rfl ?_
            refine Tr.getf (pc := 71) d_X11_over_71 f_11_63 (by decide) (by decide) (ty_0 hS.1.1) ?_
            refine Tr.tp 103 (fx_0_11 hS.1.1) ?_
            refine Tr.aload_n (pc := 74) (i := 0) d_X11_over_74 rfl rfl ?_
            refine Tr.getf (pc := 75) d_X11_over_75 f_11_30 (by decide) (by decide) (ty_0 hS.1.1) ?_
            refine Tr.tp 7 ((St.kp hS (by decide) (by decide) (by decide)).trans en_0_4) ?_
            refine Tr.callV (pc := 78) (as := [_]) d_X11_over_78 s_11_260 ok_X10_turnOn rfl rfl (Nat.le_of_ble_eq_true rfl) (Nat.le_of_ble_eq_true rfl) (by decide) (ty_103 hS.1.1) ?_
            refine Tr.imp (Tr.deep (by decide) (sp_X10_turnOn_103_7 hS.1 )) ?_
            rintro M78 _ ⟨h78, rfl⟩
            have hS := St.tr hS h78 (by decide) (by decide)
            refine Tr.sc [] rfl ?_
            refine Tr.iincV (pc := 81) (n2 := (p23_3 + 1)) (ls2 := [(3, (0, (p23_3 + 1))), (0, (2, 0)), (1, (0, a1)), (2, (0, r8))]) d_X11_over_81 rfl (by decide) ((w32_id (by omega)).trans (by omega)) rfl ?_
            refine Tr.goto (pc := 84) (tgt := 23) d_X11_over_84 rfl ?_
            refine Tr.pick [1, 2, 3, 0] (ls2 := [(0, (2, 0)), (1, (0, a1)), (2, (0, r8)), (3, (0, (p23_3 + 1)))]) rfl ?_
            exact J23 _ _ hS (by omega) (by omega)
          refine Tr.if_ne (pc := 59) (tgt := 66) d_X11_over_59 rfl (fun c59 => ?_) (fun c59 => ?_)
          · refine Tr.iconst (pc := 66) d_X11_over_66 (by decide) ?_
            refine Tr.pick [0, 1, 2, 3] (ls2 := [(0, (2, 0)), (1, (0, a1)), (2, (0, r8)), (3, (0, p23_3))]) rfl ?_
            exact J67 _ _ hS (by omega) o44_74_1 er55 o44_82_1
          · refine Tr.iconst (pc := 62) d_X11_over_62 (by decide) ?_
            refine Tr.goto (pc := 63) (tgt := 67) d_X11_over_63 rfl ?_
            refine Tr.pick [0, 1, 2, 3] (ls2 := [(0, (2, 0)), (1, (0, a1)), (2, (0, r8)), (3, (0, p23_3))]) rfl ?_
            exact J67 _ _ hS (by omega) o44_74_1 er55 o44_82_1
    refine Tr.pick [2, 3, 1, 0] (ls2 := [(0, (2, 0)), (1, (0, a1)), (2, (0, r8)), (3, (0, 0))]) rfl ?_
    exact J23 _ _ _ hS (by omega) (Nat.lt_succ_self _)
  · refine Tr.iconst (pc := 19) d_X11_over_19 (by decide) ?_
    exact Tr.iret (pc := 20) d_X11_over_20 rfl ⟨hS, _, rfl, by omega, by omega⟩

def ws_X8_clear_63 : List (Int × Int) := [(63, 0), (63, 7)]
def as_X8_clear_63 : List Int := [69]
def q_X8_clear_63 (M0 M' : Mem) (r : Option PV) : Prop := St Tru ws_X8_clear_63 as_X8_clear_63 M0 M' ∧ r = none ∧ (rd M' 63 7 = 0) ∧ Rn M'
set_option maxRecDepth 100000 in
set_option maxHeartbeats 4000000 in
theorem sp_X8_clear_63 {l : Launch} {K : EC} {M0 : Mem} (hI : In Tru M0)    : Tr l K 1 mX8_clear 0 [(0, (2, 63))] [] M0 (q_X8_clear_63 M0) := by
  have hS : St Tru ws_X8_clear_63 as_X8_clear_63 M0 M0 := St.rf hI
  obtain ⟨g63_1, eg63_1⟩ : ∃ v, rd M0 63 1 = v := ⟨_, rfl⟩
  have bg63_1 : (-1000000000) ≤ g63_1 ∧ g63_1 ≤ 1000000000 := by rw [← eg63_1]; exact ir_63_1 hI.2.1
  obtain ⟨g63_0, eg63_0⟩ : ∃ v, rd M0 63 0 = v := ⟨_, rfl⟩
  have bg63_0 : (-2147483648) ≤ g63_0 ∧ g63_0 ≤ 2147483647 := by rw [← eg63_0]; exact ir_63_0 hI.2.1
  obtain ⟨g63_7, eg63_7⟩ : ∃ v, rd M0 63 7 = v := ⟨_, rfl⟩
  have bg63_7 : (-2147483648) ≤ g63_7 ∧ g63_7 ≤ 2147483647 := by rw [← eg63_7]; exact ir_63_7 hI.2.1
  refine Tr.aload_n (pc := 0) (i := 0) d_X8_clear_0 rfl rfl ?_
  refine Tr.iconst (pc := 1) d_X8_clear_1 (by decide) ?_
  refine Tr.putfS (pc := 2) (P := St Tru ws_X8_clear_63 as_X8_clear_63 M0) d_X8_clear_2 f_8_43 (by decide) (by decide) (ty_63 hS.1.1) (stX_63_0 hS (by decide) (by omega) (xp_cnt hS.1.2.2 eg63_1 (Or.inl rfl) (by omega) (by omega) trivial)) (fun M2 hS w2 => ?_)
  refine Tr.aload_n (pc := 5) (i := 0) d_X8_clear_5 rfl rfl ?_
  refine Tr.iconst (pc := 6) d_X8_clear_6 (by decide) ?_
  refine Tr.putfS (pc := 7) (P := St Tru ws_X8_clear_63 as_X8_clear_63 M0) d_X8_clear_7 f_8_47 (by decide) (by decide) (ty_63 hS.1.1) (stX_63_7 hS (by decide) (by omega) (xp_cnt hS.1.2.2 ((Wr.b w2 rfl).trans eg63_1) (Or.inr rfl) (by omega) (by omega) trivial)) (fun M7 hS w7 => ?_)
  refine Tr.aload_n (pc := 10) (i := 0) d_X8_clear_10 rfl rfl ?_
  refine Tr.getf (pc := 11) d_X8_clear_11 f_8_28 (by decide) (by decide) (ty_63 hS.1.1) ?_
  refine Tr.tp 69 (fx_63_6 hS.1.1) ?_
  refine Tr.iconst (pc := 14) d_X8_clear_14 (by decide) ?_
  refine Tr.callS (pc := 15) (as := [_, _]) d_X8_clear_15 s_8_50 ok_J7_fill_53178 rfl rfl (Nat.le_of_ble_eq_true rfl) (Nat.le_of_ble_eq_true rfl) ?_
  refine Tr.imp (sp_fill (N := 6) (ty_69 hS.1.1) (by decide)) ?_
  rintro _ _ ⟨rfl, rfl⟩
  have kc15_63_0 : rd M7 63 0 = 0 := ((Wr.b w7 rfl).trans w2.1)
  have kc15_63_7 : rd M7 63 7 = 0 := w7.1
  have hS : St Tru ws_X8_clear_63 as_X8_clear_63 M0 (fil M7 69 6 (-1)) := sf_69 6 hS (by decide) (by decide) trivial
  have hrn : Rn (fil M7 69 6 (-1)) := fun p p0 p1 => by rw [fil_at p0 p1, rd_fil, if_neg (fun c => absurd c.1 (by decide))]; omega
  have w15 := fil_wa M7 69 6 (-1)
  refine Tr.sc [] rfl ?_
  have kr_63_7 : rd (fil M7 69 6 (-1)) 63 7 = 0 := ((Wa.b w15 rfl).trans w7.1)
  exact Tr.vret (pc := 18) d_X8_clear_18 rfl ⟨hS, rfl, by omega, hrn⟩

def ws_X1_begin_56_7 : List (Int × Int) := [(56, 1), (63, 0), (63, 7)]
def as_X1_begin_56_7 : List Int := [57, 58, 59, 60, 61, 62, 69]
def q_X1_begin_56_7 (M0 M' : Mem) (r : Option PV) : Prop := St Tru ws_X1_begin_56_7 as_X1_begin_56_7 M0 M' ∧ rd M' 56 1 = 7 ∧ r = none ∧ (rd M' 63 7 = 0) ∧ Rn M'
set_option maxRecDepth 100000 in
set_option maxHeartbeats 4000000 in
theorem sp_X1_begin_56_7 {l : Launch} {K : EC} {M0 : Mem} (hI : In Tru M0)    : Tr l K 2 mX1_begin 0 [(0, (2, 56)), (1, (2, 7))] [] M0 (q_X1_begin_56_7 M0) := by
  have hS : St Tru ws_X1_begin_56_7 as_X1_begin_56_7 M0 M0 := St.rf hI
  refine Tr.aload_n (pc := 0) (i := 0) d_X1_begin_0 rfl rfl ?_
  refine Tr.aload_n (pc := 1) (i := 1) d_X1_begin_1 rfl rfl ?_
  refine Tr.putfS (pc := 2) (P := St Tru ws_X1_begin_56_7 as_X1_begin_56_7 M0) d_X1_begin_2 f_1_41 (by decide) (by decide) (ty_56 hS.1.1) (st_56_1 hS (by decide) (by omega) trivial) (fun M2 hS w2 => ?_)
  refine Tr.aload_n (pc := 5) (i := 0) d_X1_begin_5 rfl rfl ?_
  refine Tr.getf (pc := 6) d_X1_begin_6 f_1_9 (by decide) (by decide) (ty_56 hS.1.1) ?_
  refine Tr.tp 57 (fx_56_2 hS.1.1) ?_
  refine Tr.iconst (pc := 9) d_X1_begin_9 (by decide) ?_
  refine Tr.callS (pc := 10) (as := [_, _]) d_X1_begin_10 s_1_45 ok_J7_fill_53178 rfl rfl (Nat.le_of_ble_eq_true rfl) (Nat.le_of_ble_eq_true rfl) ?_
  refine Tr.imp (sp_fill (N := 24) (ty_57 hS.1.1) (by decide)) ?_
  rintro _ _ ⟨rfl, rfl⟩
  refine Tr.nmA (P := St Tru ws_X1_begin_56_7 as_X1_begin_56_7 M0) (sf_57 (v := 0) 24 hS (by decide) (by omega) trivial) (fil_wa _ _ _ _) (fun M10 hS w10 => ?_)
  refine Tr.sc [] rfl ?_
  refine Tr.aload_n (pc := 13) (i := 0) d_X1_begin_13 rfl rfl ?_
  refine Tr.getz (pc := 14) d_X1_begin_14 f_1_37 (by decide) (ty_56 hS.1.1) ?_
  refine Tr.tp 1 (fx_56_0 hS.1.1) ?_
  refine Tr.if_eq (pc := 17) (tgt := 67) d_X1_begin_17 rfl (fun hc => absurd hc (by omega)) (fun _ => ?_)
  refine Tr.aload_n (pc := 20) (i := 0) d_X1_begin_20 rfl rfl ?_
  refine Tr.getf (pc := 21) d_X1_begin_21 f_1_15 (by decide) (by decide) (ty_56 hS.1.1) ?_
  refine Tr.tp 58 (fx_56_3 hS.1.1) ?_
  refine Tr.iconst (pc := 24) d_X1_begin_24 (by decide) ?_
  refine Tr.callS (pc := 25) (as := [_, _]) d_X1_begin_25 s_1_45 ok_J7_fill_53178 rfl rfl (Nat.le_of_ble_eq_true rfl) (Nat.le_of_ble_eq_true rfl) ?_
  refine Tr.imp (sp_fill (N := 6) (ty_58 hS.1.1) (by decide)) ?_
  rintro _ _ ⟨rfl, rfl⟩
  refine Tr.nmA (P := St Tru ws_X1_begin_56_7 as_X1_begin_56_7 M0) (sf_58 (v := (-1)) 6 hS (by decide) (by omega) trivial) (fil_wa _ _ _ _) (fun M25 hS w25 => ?_)
  refine Tr.sc [] rfl ?_
  refine Tr.aload_n (pc := 28) (i := 0) d_X1_begin_28 rfl rfl ?_
  refine Tr.getf (pc := 29) d_X1_begin_29 f_1_18 (by decide) (by decide) (ty_56 hS.1.1) ?_
  refine Tr.tp 59 (fx_56_4 hS.1.1) ?_
  refine Tr.iconst (pc := 32) d_X1_begin_32 (by decide) ?_
  refine Tr.callS (pc := 33) (as := [_, _]) d_X1_begin_33 s_1_45 ok_J7_fill_53178 rfl rfl (Nat.le_of_ble_eq_true rfl) (Nat.le_of_ble_eq_true rfl) ?_
  refine Tr.imp (sp_fill (N := 6) (ty_59 hS.1.1) (by decide)) ?_
  rintro _ _ ⟨rfl, rfl⟩
  refine Tr.nmA (P := St Tru ws_X1_begin_56_7 as_X1_begin_56_7 M0) (sf_59 (v := (-1)) 6 hS (by decide) (by omega) trivial) (fil_wa _ _ _ _) (fun M33 hS w33 => ?_)
  refine Tr.sc [] rfl ?_
  refine Tr.aload_n (pc := 36) (i := 0) d_X1_begin_36 rfl rfl ?_
  refine Tr.getf (pc := 37) d_X1_begin_37 f_1_21 (by decide) (by decide) (ty_56 hS.1.1) ?_
  refine Tr.tp 60 (fx_56_5 hS.1.1) ?_
  refine Tr.iconst (pc := 40) d_X1_begin_40 (by decide) ?_
  refine Tr.callS (pc := 41) (as := [_, _]) d_X1_begin_41 s_1_45 ok_J7_fill_53178 rfl rfl (Nat.le_of_ble_eq_true rfl) (Nat.le_of_ble_eq_true rfl) ?_
  refine Tr.imp (sp_fill (N := 60) (ty_60 hS.1.1) (by decide)) ?_
  rintro _ _ ⟨rfl, rfl⟩
  refine Tr.nmA (P := St Tru ws_X1_begin_56_7 as_X1_begin_56_7 M0) (sf_60 (v := 0) 60 hS (by decide) (by omega) trivial) (fil_wa _ _ _ _) (fun M41 hS w41 => ?_)
  refine Tr.sc [] rfl ?_
  refine Tr.aload_n (pc := 44) (i := 0) d_X1_begin_44 rfl rfl ?_
  refine Tr.getf (pc := 45) d_X1_begin_45 f_1_24 (by decide) (by decide) (ty_56 hS.1.1) ?_
  refine Tr.tp 61 (fx_56_6 hS.1.1) ?_
  refine Tr.iconst (pc := 48) d_X1_begin_48 (by decide) ?_
  refine Tr.callS (pc := 49) (as := [_, _]) d_X1_begin_49 s_1_45 ok_J7_fill_53178 rfl rfl (Nat.le_of_ble_eq_true rfl) (Nat.le_of_ble_eq_true rfl) ?_
  refine Tr.imp (sp_fill (N := 60) (ty_61 hS.1.1) (by decide)) ?_
  rintro _ _ ⟨rfl, rfl⟩
  refine Tr.nmA (P := St Tru ws_X1_begin_56_7 as_X1_begin_56_7 M0) (sf_61 (v := 0) 60 hS (by decide) (by omega) trivial) (fil_wa _ _ _ _) (fun M49 hS w49 => ?_)
  refine Tr.sc [] rfl ?_
  refine Tr.aload_n (pc := 52) (i := 0) d_X1_begin_52 rfl rfl ?_
  refine Tr.getf (pc := 53) d_X1_begin_53 f_1_27 (by decide) (by decide) (ty_56 hS.1.1) ?_
  refine Tr.tp 62 (fx_56_7 hS.1.1) ?_
  refine Tr.iconst (pc := 56) d_X1_begin_56 (by decide) ?_
  refine Tr.callS (pc := 57) (as := [_, _]) d_X1_begin_57 s_1_45 ok_J7_fill_53178 rfl rfl (Nat.le_of_ble_eq_true rfl) (Nat.le_of_ble_eq_true rfl) ?_
  refine Tr.imp (sp_fill (N := 60) (ty_62 hS.1.1) (by decide)) ?_
  rintro _ _ ⟨rfl, rfl⟩
  refine Tr.nmA (P := St Tru ws_X1_begin_56_7 as_X1_begin_56_7 M0) (sf_62 (v := 0) 60 hS (by decide) (by omega) trivial) (fil_wa _ _ _ _) (fun M57 hS w57 => ?_)
  refine Tr.sc [] rfl ?_
  refine Tr.aload_n (pc := 60) (i := 0) d_X1_begin_60 rfl rfl ?_
  refine Tr.getf (pc := 61) d_X1_begin_61 f_1_33 (by decide) (by decide) (ty_56 hS.1.1) ?_
  refine Tr.tp 63 (fx_56_8 hS.1.1) ?_
  refine Tr.callV (pc := 64) (as := []) d_X1_begin_64 s_1_51 ok_X8_clear rfl rfl (Nat.le_of_ble_eq_true rfl) (Nat.le_of_ble_eq_true rfl) (by decide) (ty_63 hS.1.1) ?_
  refine Tr.imp (Tr.deep (by decide) (sp_X8_clear_63 hS.1 )) ?_
  rintro M64 _ ⟨h64, rfl, z64_0, f64_Rn⟩
  have hS := St.tr hS h64 (by decide) (by decide)
  obtain ⟨s64_63_7, es64_63_7⟩ : ∃ v, rd M64 63 7 = v := ⟨_, rfl⟩
  have bs64_63_7 : (-2147483648) ≤ s64_63_7 ∧ s64_63_7 ≤ 2147483647 := by rw [← es64_63_7]; exact ir_63_7 hS.1.2.1
  have hS := St.rn hS f64_Rn
  refine Tr.sc [] rfl ?_
  have kr_63_7 : rd M64 63 7 = s64_63_7 := es64_63_7
  have hS := hS.wk
  exact Tr.vret (pc := 67) d_X1_begin_67 rfl ⟨hS, ((St.kp h64 (by decide) (by decide) (by decide)).trans ((Wa.b w57 rfl).trans ((Wa.b w49 rfl).trans ((Wa.b w41 rfl).trans ((Wa.b w33 rfl).trans ((Wa.b w25 rfl).trans ((Wa.b w10 rfl).trans w2.1))))))), rfl, by omega, f64_Rn⟩

def ws_X6_begin_48_7_47 : List (Int × Int) := [(48, 1), (48, 9), (48, 11), (48, 12), (48, 13), (48, 14), (48, 15), (48, 16), (48, 17), (56, 1), (63, 0), (63, 7)]
def as_X6_begin_48_7_47 : List Int := [49, 50, 52, 53, 54, 55, 57, 58, 59, 60, 61, 62, 69]
def q_X6_begin_48_7_47 (a3 : Int) (M0 M' : Mem) (r : Option PV) : Prop := St Tru ws_X6_begin_48_7_47 as_X6_begin_48_7_47 M0 M' ∧ rd M' 48 1 = 7 ∧ rd M' 56 1 = 7 ∧ r = none ∧ (rd M' 63 7 = 0) ∧ Rn M'
set_option maxRecDepth 100000 in
set_option maxHeartbeats 4000000 in
theorem sp_X6_begin_48_7_47 {l : Launch} {K : EC} {M0 : Mem} (hI : In Tru M0)  (a3 : Int) (ha3 : (-1) ≤ a3 ∧ a3 ≤ 2147483647)  : Tr l K 3 mX6_begin 0 [(0, (2, 48)), (1, (2, 7)), (2, (2, 47)), (3, (0, a3))] [] M0 (q_X6_begin_48_7_47 a3 M0) := by
  have hS : St Tru ws_X6_begin_48_7_47 as_X6_begin_48_7_47 M0 M0 := St.rf hI
  refine Tr.aload_n (pc := 0) (i := 0) d_X6_begin_0 rfl rfl ?_
  refine Tr.aload_n (pc := 1) (i := 1) d_X6_begin_1 rfl rfl ?_
  refine Tr.putfS (pc := 2) (P := St Tru ws_X6_begin_48_7_47 as_X6_begin_48_7_47 M0) d_X6_begin_2 f_6_46 (by decide) (by decide) (ty_48 hS.1.1) (st_48_1 hS (by decide) (by omega) trivial) (fun M2 hS w2 => ?_)
  refine Tr.aload_n (pc := 5) (i := 2) d_X6_begin_5 rfl rfl ?_
  refine Tr.iconst (pc := 6) d_X6_begin_6 (by decide) ?_
  refine Tr.aload_n (pc := 7) (i := 0) d_X6_begin_7 rfl rfl ?_
  refine Tr.getf (pc := 8) d_X6_begin_8 f_6_9 (by decide) (by decide) (ty_48 hS.1.1) ?_
  refine Tr.tp 49 (fx_48_2 hS.1.1) ?_
  refine Tr.iconst (pc := 11) d_X6_begin_11 (by decide) ?_
  refine Tr.iconst (pc := 12) d_X6_begin_12 (by decide) ?_
  refine Tr.acopyS (pc := 13) (x := 47) (y := 49) (P := St Tru ws_X6_begin_48_7_47 as_X6_begin_48_7_47 M0) d_X6_begin_13 ac_6_85 acw.1 acw.2.1 acw.2.2 (ty_47 hS.1.1) (ty_49 hS.1.1) (by omega) (by omega) (by omega) (by omega) (by omega) (Nat.le_of_ble_eq_true rfl) (sw_49 hS (by decide) rfl rfl rfl (fun z i hz => by rw [rd_cpy, if_neg (fun c => hz c.1)]) (fun i => by rw [rd_cpy]; split; exact And.intro (by have := ar_47 hS.1.2.1 (0 + (i - 0)); omega) (by have := ar_47 hS.1.2.1 (0 + (i - 0)); omega); exact ar_49 hS.1.2.1 i) trivial) (fun M13 hS w13 => ?_)
  refine Tr.aload_n (pc := 16) (i := 0) d_X6_begin_16 rfl rfl ?_
  refine Tr.getf (pc := 17) d_X6_begin_17 f_6_15 (by decide) (by decide) (ty_48 hS.1.1) ?_
  refine Tr.tp 50 (fx_48_3 hS.1.1) ?_
  refine Tr.iconst (pc := 20) d_X6_begin_20 (by decide) ?_
  refine Tr.callS (pc := 21) (as := [_, _]) d_X6_begin_21 s_6_91 ok_J7_fill_53178 rfl rfl (Nat.le_of_ble_eq_true rfl) (Nat.le_of_ble_eq_true rfl) ?_
  refine Tr.imp (sp_fill (N := 6) (ty_50 hS.1.1) (by decide)) ?_
  rintro _ _ ⟨rfl, rfl⟩
  refine Tr.nmA (P := St Tru ws_X6_begin_48_7_47 as_X6_begin_48_7_47 M0) (sf_50 (v := 0) 6 hS (by decide) (by omega) trivial) (fil_wa _ _ _ _) (fun M21 hS w21 => ?_)
  refine Tr.sc [] rfl ?_
  refine Tr.aload_n (pc := 24) (i := 0) d_X6_begin_24 rfl rfl ?_
  refine Tr.getf (pc := 25) d_X6_begin_25 f_6_21 (by decide) (by decide) (ty_48 hS.1.1) ?_
  refine Tr.tp 52 (fx_48_5 hS.1.1) ?_
  refine Tr.iconst (pc := 28) d_X6_begin_28 (by decide) ?_
  refine Tr.callS (pc := 29) (as := [_, _]) d_X6_begin_29 s_6_91 ok_J7_fill_53178 rfl rfl (Nat.le_of_ble_eq_true rfl) (Nat.le_of_ble_eq_true rfl) ?_
  refine Tr.imp (sp_fill (N := 8) (ty_52 hS.1.1) (by decide)) ?_
  rintro _ _ ⟨rfl, rfl⟩
  refine Tr.nmA (P := St Tru ws_X6_begin_48_7_47 as_X6_begin_48_7_47 M0) (sf_52 (v := (-1)) 8 hS (by decide) (by omega) trivial) (fil_wa _ _ _ _) (fun M29 hS w29 => ?_)
  refine Tr.sc [] rfl ?_
  refine Tr.aload_n (pc := 32) (i := 0) d_X6_begin_32 rfl rfl ?_
  refine Tr.getf (pc := 33) d_X6_begin_33 f_6_24 (by decide) (by decide) (ty_48 hS.1.1) ?_
  refine Tr.tp 53 (fx_48_6 hS.1.1) ?_
  refine Tr.iconst (pc := 36) d_X6_begin_36 (by decide) ?_
  refine Tr.callS (pc := 37) (as := [_, _]) d_X6_begin_37 s_6_91 ok_J7_fill_53178 rfl rfl (Nat.le_of_ble_eq_true rfl) (Nat.le_of_ble_eq_true rfl) ?_
  refine Tr.imp (sp_fill (N := 6) (ty_53 hS.1.1) (by decide)) ?_
  rintro _ _ ⟨rfl, rfl⟩
  refine Tr.nmA (P := St Tru ws_X6_begin_48_7_47 as_X6_begin_48_7_47 M0) (sf_53 (v := 0) 6 hS (by decide) (by omega) trivial) (fil_wa _ _ _ _) (fun M37 hS w37 => ?_)
  refine Tr.sc [] rfl ?_
  refine Tr.aload_n (pc := 40) (i := 0) d_X6_begin_40 rfl rfl ?_
  refine Tr.getf (pc := 41) d_X6_begin_41 f_6_27 (by decide) (by decide) (ty_48 hS.1.1) ?_
  refine Tr.tp 54 (fx_48_7 hS.1.1) ?_
  refine Tr.iconst (pc := 44) d_X6_begin_44 (by decide) ?_
  refine Tr.callS (pc := 45) (as := [_, _]) d_X6_begin_45 s_6_91 ok_J7_fill_53178 rfl rfl (Nat.le_of_ble_eq_true rfl) (Nat.le_of_ble_eq_true rfl) ?_
  refine Tr.imp (sp_fill (N := 6) (ty_54 hS.1.1) (by decide)) ?_
  rintro _ _ ⟨rfl, rfl⟩
  refine Tr.nmA (P := St Tru ws_X6_begin_48_7_47 as_X6_begin_48_7_47 M0) (sf_54 (v := 0) 6 hS (by decide) (by omega) trivial) (fil_wa _ _ _ _) (fun M45 hS w45 => ?_)
  refine Tr.sc [] rfl ?_
  refine Tr.aload_n (pc := 48) (i := 0) d_X6_begin_48 rfl rfl ?_
  refine Tr.getf (pc := 49) d_X6_begin_49 f_6_30 (by decide) (by decide) (ty_48 hS.1.1) ?_
  refine Tr.tp 55 (fx_48_8 hS.1.1) ?_
  refine Tr.iconst (pc := 52) d_X6_begin_52 (by decide) ?_
  refine Tr.callS (pc := 53) (as := [_, _]) d_X6_begin_53 s_6_91 ok_J7_fill_53178 rfl rfl (Nat.le_of_ble_eq_true rfl) (Nat.le_of_ble_eq_true rfl) ?_
  refine Tr.imp (sp_fill (N := 6) (ty_55 hS.1.1) (by decide)) ?_
  rintro _ _ ⟨rfl, rfl⟩
  refine Tr.nmA (P := St Tru ws_X6_begin_48_7_47 as_X6_begin_48_7_47 M0) (sf_55 (v := 0) 6 hS (by decide) (by omega) trivial) (fil_wa _ _ _ _) (fun M53 hS w53 => ?_)
  refine Tr.sc [] rfl ?_
  refine Tr.aload_n (pc := 56) (i := 0) d_X6_begin_56 rfl rfl ?_
  refine Tr.iconst (pc := 57) d_X6_begin_57 (by decide) ?_
  refine Tr.putfS (pc := 58) (P := St Tru ws_X6_begin_48_7_47 as_X6_begin_48_7_47 M0) d_X6_begin_58 f_6_68 (by decide) (by decide) (ty_48 hS.1.1) (st_48_9 hS (by decide) (by omega) trivial) (fun M58 hS w58 => ?_)
  refine Tr.aload_n (pc := 61) (i := 0) d_X6_begin_61 rfl rfl ?_
  refine Tr.iconst (pc := 62) d_X6_begin_62 (by decide) ?_
  refine Tr.putfS (pc := 63) (P := St Tru ws_X6_begin_48_7_47 as_X6_begin_48_7_47 M0) d_X6_begin_63 f_6_97 (by decide) (by decide) (ty_48 hS.1.1) (st_48_11 hS (by decide) (by omega) trivial) (fun M63 hS w63 => ?_)
  refine Tr.aload_n (pc := 66) (i := 0) d_X6_begin_66 rfl rfl ?_
  refine Tr.iconst (pc := 67) d_X6_begin_67 (by decide) ?_
  refine Tr.putfS (pc := 68) (P := St Tru ws_X6_begin_48_7_47 as_X6_begin_48_7_47 M0) d_X6_begin_68 f_6_100 (by decide) (by decide) (ty_48 hS.1.1) (st_48_12 hS (by decide) (by omega) trivial) (fun M68 hS w68 => ?_)
  refine Tr.aload_n (pc := 71) (i := 0) d_X6_begin_71 rfl rfl ?_
  refine Tr.iconst (pc := 72) d_X6_begin_72 (by decide) ?_
  refine Tr.putfS (pc := 73) (P := St Tru ws_X6_begin_48_7_47 as_X6_begin_48_7_47 M0) d_X6_begin_73 f_6_103 (by decide) (by decide) (ty_48 hS.1.1) (st_48_13 hS (by decide) (by omega) trivial) (fun M73 hS w73 => ?_)
  refine Tr.aload_n (pc := 76) (i := 0) d_X6_begin_76 rfl rfl ?_
  refine Tr.iconst (pc := 77) d_X6_begin_77 (by decide) ?_
  refine Tr.putfS (pc := 78) (P := St Tru ws_X6_begin_48_7_47 as_X6_begin_48_7_47 M0) d_X6_begin_78 f_6_62 (by decide) (by decide) (ty_48 hS.1.1) (st_48_14 hS (by decide) (by omega) trivial) (fun M78 hS w78 => ?_)
  refine Tr.aload_n (pc := 81) (i := 0) d_X6_begin_81 rfl rfl ?_
  refine Tr.iconst (pc := 82) d_X6_begin_82 (by decide) ?_
  refine Tr.putfS (pc := 83) (P := St Tru ws_X6_begin_48_7_47 as_X6_begin_48_7_47 M0) d_X6_begin_83 f_6_79 (by decide) (by decide) (ty_48 hS.1.1) (st_48_15 hS (by decide) (by omega) trivial) (fun M83 hS w83 => ?_)
  refine Tr.aload_n (pc := 86) (i := 0) d_X6_begin_86 rfl rfl ?_
  refine Tr.iload_n (pc := 87) (i := 3) d_X6_begin_87 rfl rfl ?_
  have J96 : ∀ (M : Mem) (q96_1 : Int), St Tru ws_X6_begin_48_7_47 as_X6_begin_48_7_47 M0 M → (0 ≤ q96_1 ∧ q96_1 ≤ 1) → rd M 48 1 = 7 → rd M 48 11 = 0 → rd M 48 12 = 0 → rd M 48 13 = 0 → rd M 48 14 = 0 → rd M 48 15 = (-1) → rd M 48 9 = 0 → Tr l K 3 mX6_begin 96 [(0, (2, 48)), (1, (2, 7)), (3, (0, a3))] [(0, q96_1), (2, 48)] M (q_X6_begin_48_7_47 a3 M0) := by
    intro M q96_1 hS bq96_1 k96_48_1 k96_48_11 k96_48_12 k96_48_13 k96_48_14 k96_48_15 k96_48_9
    refine Tr.putzS (pc := 96) (P := St Tru ws_X6_begin_48_7_47 as_X6_begin_48_7_47 M0) d_X6_begin_96 f_6_106 (by decide) (ty_48 hS.1.1) (by omega) (st_48_16 hS (by decide) (by omega) trivial) (fun M96 hS w96 => ?_)
    refine Tr.aload_n (pc := 99) (i := 0) d_X6_begin_99 rfl rfl ?_
    refine Tr.iload_n (pc := 100) (i := 3) d_X6_begin_100 rfl rfl ?_
    refine Tr.putfS (pc := 101) (P := St Tru ws_X6_begin_48_7_47 as_X6_begin_48_7_47 M0) d_X6_begin_101 f_6_110 (by decide) (by decide) (ty_48 hS.1.1) (st_48_17 hS (by decide) (by omega) trivial) (fun M101 hS w101 => ?_)
    refine Tr.aload_n (pc := 104) (i := 0) d_X6_begin_104 rfl rfl ?_
    refine Tr.getf (pc := 105) d_X6_begin_105 f_6_38 (by decide) (by decide) (ty_48 hS.1.1) ?_
    refine Tr.tp 56 (fx_48_0 hS.1.1) ?_
    refine Tr.aload_n (pc := 108) (i := 1) d_X6_begin_108 rfl rfl ?_
    refine Tr.callV (pc := 109) (as := [_]) d_X6_begin_109 s_6_113 ok_X1_begin rfl rfl (Nat.le_of_ble_eq_true rfl) (Nat.le_of_ble_eq_true rfl) (by decide) (ty_56 hS.1.1) ?_
    refine Tr.imp (Tr.deep (by decide) (sp_X1_begin_56_7 hS.1 )) ?_
    rintro M109 _ ⟨h109, o109_56_1, rfl, z109_0, f109_Rn⟩
    have hS := St.tr hS h109 (by decide) (by decide)
    obtain ⟨s109_63_7, es109_63_7⟩ : ∃ v, rd M109 63 7 = v := ⟨_, rfl⟩
    have bs109_63_7 : (-2147483648) ≤ s109_63_7 ∧ s109_63_7 ≤ 2147483647 := by rw [← es109_63_7]; exact ir_63_7 hS.1.2.1
    have hS := St.rn hS f109_Rn
    refine Tr.sc [] rfl ?_
    have kr_63_7 : rd M109 63 7 = s109_63_7 := es109_63_7
    have hS := hS.wk
    exact Tr.vret (pc := 112) d_X6_begin_112 rfl ⟨hS, ((St.kp h109 (by decide) (by decide) (by decide)).trans ((Wr.b w101 rfl).trans ((Wr.b w96 rfl).trans k96_48_1))), o109_56_1, rfl, by omega, f109_Rn⟩
  refine Tr.if_lt (pc := 88) (tgt := 95) d_X6_begin_88 rfl (fun c88 => ?_) (fun c88 => ?_)
  · refine Tr.iconst (pc := 95) d_X6_begin_95 (by decide) ?_
    refine Tr.pick [0, 1, 3] (ls2 := [(0, (2, 48)), (1, (2, 7)), (3, (0, a3))]) rfl ?_
    exact J96 _ _ hS (by omega) ((Wr.b w83 rfl).trans ((Wr.b w78 rfl).trans ((Wr.b w73 rfl).trans ((Wr.b w68 rfl).trans ((Wr.b w63 rfl).trans ((Wr.b w58 rfl).trans ((Wa.b w53 rfl).trans ((Wa.b w45 rfl).trans ((Wa.b w37 rfl).trans ((Wa.b w29 rfl).trans ((Wa.b w21 rfl).trans ((Wa.b w13 rfl).trans w2.1)))))))))))) ((Wr.b w83 rfl).trans ((Wr.b w78 rfl).trans ((Wr.b w73 rfl).trans ((Wr.b w68 rfl).trans w63.1)))) ((Wr.b w83 rfl).trans ((Wr.b w78 rfl).trans ((Wr.b w73 rfl).trans w68.1))) ((Wr.b w83 rfl).trans ((Wr.b w78 rfl).trans w73.1)) ((Wr.b w83 rfl).trans w78.1) w83.1 ((Wr.b w83 rfl).trans ((Wr.b w78 rfl).trans ((Wr.b w73 rfl).trans ((Wr.b w68 rfl).trans ((Wr.b w63 rfl).trans w58.1)))))
  · refine Tr.iconst (pc := 91) d_X6_begin_91 (by decide) ?_
    refine Tr.goto (pc := 92) (tgt := 96) d_X6_begin_92 rfl ?_
    refine Tr.pick [0, 1, 3] (ls2 := [(0, (2, 48)), (1, (2, 7)), (3, (0, a3))]) rfl ?_
    exact J96 _ _ hS (by omega) ((Wr.b w83 rfl).trans ((Wr.b w78 rfl).trans ((Wr.b w73 rfl).trans ((Wr.b w68 rfl).trans ((Wr.b w63 rfl).trans ((Wr.b w58 rfl).trans ((Wa.b w53 rfl).trans ((Wa.b w45 rfl).trans ((Wa.b w37 rfl).trans ((Wa.b w29 rfl).trans ((Wa.b w21 rfl).trans ((Wa.b w13 rfl).trans w2.1)))))))))))) ((Wr.b w83 rfl).trans ((Wr.b w78 rfl).trans ((Wr.b w73 rfl).trans ((Wr.b w68 rfl).trans w63.1)))) ((Wr.b w83 rfl).trans ((Wr.b w78 rfl).trans ((Wr.b w73 rfl).trans w68.1))) ((Wr.b w83 rfl).trans ((Wr.b w78 rfl).trans w73.1)) ((Wr.b w83 rfl).trans w78.1) w83.1 ((Wr.b w83 rfl).trans ((Wr.b w78 rfl).trans ((Wr.b w73 rfl).trans ((Wr.b w68 rfl).trans ((Wr.b w63 rfl).trans w58.1)))))

set_option maxRecDepth 100000 in
set_option maxHeartbeats 4000000 in
theorem sp_copyI {l : Launch} {K : EC} {M : Mem} {x : Int} {N n : Nat} (ht : mT M x = (20, N)) (hx : x < M.1) (hN : N < n) (hn : n ≤ 10000) : Tr l K 1 mJ7_copyOf_59c91 0 [(0, (2, x)), (1, (0, (n : Int)))] [] M (fun M' r => M' = cpy (mnew M (20, n)) x (M.1 : Int) 0 0 (N : Int) ∧ r = some (2, (M.1 : Int))) := by
  have hx2 : mT (mnew M (20, n)) x = (20, N) := by rw [mT_nw, if_neg (by omega)]; exact ht
  refine Tr.iload_n (pc := 0) (i := 1) d_J7_copyOf_59c91_0 rfl rfl ?_
  refine Tr.aload_n (pc := 1) (i := 0) d_J7_copyOf_59c91_1 rfl rfl ?_
  refine Tr.alen (pc := 2) d_J7_copyOf_59c91_2 ht (by decide) (by omega) ?_
  refine Tr.icmp_ne (pc := 3) (tgt := 14) d_J7_copyOf_59c91_3 rfl (fun _ => ?_) (fun hc => absurd (show (n : Int) ≠ N by omega) (by simpa using hc))
  refine Tr.iload_n (pc := 14) (i := 1) d_J7_copyOf_59c91_14 rfl rfl ?_
  refine Tr.newa_i (pc := 15) (x := (M.1 : Int)) (N := n) d_J7_copyOf_59c91_15 aw_int rfl (by omega) rfl ?_
  refine Tr.astore_n (pc := 17) (i := 2) (ls2 := [(2, (2, (M.1 : Int))), (0, (2, x)), (1, (0, (n : Int)))]) d_J7_copyOf_59c91_17 rfl (by decide) rfl ?_
  refine Tr.aload_n (pc := 18) (i := 0) d_J7_copyOf_59c91_18 rfl rfl ?_
  refine Tr.iconst (pc := 19) d_J7_copyOf_59c91_19 (by decide) ?_
  refine Tr.aload_n (pc := 20) (i := 2) d_J7_copyOf_59c91_20 rfl rfl ?_
  refine Tr.iconst (pc := 21) d_J7_copyOf_59c91_21 (by decide) ?_
  refine Tr.aload_n (pc := 22) (i := 0) d_J7_copyOf_59c91_22 rfl rfl ?_
  refine Tr.alen (pc := 23) d_J7_copyOf_59c91_23 hx2 (by decide) (by omega) ?_
  refine Tr.iload_n (pc := 24) (i := 1) d_J7_copyOf_59c91_24 rfl rfl ?_
  refine Tr.mmin (pc := 25) d_J7_copyOf_59c91_25 ml_14_304 mw_mmin (Nat.le_of_ble_eq_true rfl) ?_
  refine Tr.tp (N : Int) (if_neg (by omega)) ?_
  refine Tr.acopy (pc := 28) (n0 := N) (n1 := n) d_J7_copyOf_59c91_28 ac_14_150 acw.1 acw.2.1 acw.2.2 hx2 (by rw [mT_nw, if_pos rfl]) (by omega) (by omega) (by omega) (by omega) (by omega) (Nat.le_of_ble_eq_true rfl) ?_
  refine Tr.aload_n (pc := 31) (i := 2) d_J7_copyOf_59c91_31 rfl rfl ?_
  exact Tr.aret (pc := 32) d_J7_copyOf_59c91_32 rfl ⟨rfl, rfl⟩
set_option maxRecDepth 100000 in
set_option maxHeartbeats 4000000 in
theorem sp_copyL {l : Launch} {K : EC} {M : Mem} {x : Int} {N n : Nat} (ht : mT M x = (21, N)) (hx : x < M.1) (hN : N < n) (hn : n ≤ 10000) : Tr l K 1 mJ7_copyOf_c38d5 0 [(0, (2, x)), (1, (0, (n : Int)))] [] M (fun M' r => M' = cpy (mnew M (21, n)) x (M.1 : Int) 0 0 (N : Int) ∧ r = some (2, (M.1 : Int))) := by
  have hx2 : mT (mnew M (21, n)) x = (21, N) := by rw [mT_nw, if_neg (by omega)]; exact ht
  refine Tr.iload_n (pc := 0) (i := 1) d_J7_copyOf_c38d5_0 rfl rfl ?_
  refine Tr.aload_n (pc := 1) (i := 0) d_J7_copyOf_c38d5_1 rfl rfl ?_
  refine Tr.alen (pc := 2) d_J7_copyOf_c38d5_2 ht (by decide) (by omega) ?_
  refine Tr.icmp_ne (pc := 3) (tgt := 14) d_J7_copyOf_c38d5_3 rfl (fun _ => ?_) (fun hc => absurd (show (n : Int) ≠ N by omega) (by simpa using hc))
  refine Tr.iload_n (pc := 14) (i := 1) d_J7_copyOf_c38d5_14 rfl rfl ?_
  refine Tr.newa_l (pc := 15) (x := (M.1 : Int)) (N := n) d_J7_copyOf_c38d5_15 aw_long rfl (by omega) rfl ?_
  refine Tr.astore_n (pc := 17) (i := 2) (ls2 := [(2, (2, (M.1 : Int))), (0, (2, x)), (1, (0, (n : Int)))]) d_J7_copyOf_c38d5_17 rfl (by decide) rfl ?_
  refine Tr.aload_n (pc := 18) (i := 0) d_J7_copyOf_c38d5_18 rfl rfl ?_
  refine Tr.iconst (pc := 19) d_J7_copyOf_c38d5_19 (by decide) ?_
  refine Tr.aload_n (pc := 20) (i := 2) d_J7_copyOf_c38d5_20 rfl rfl ?_
  refine Tr.iconst (pc := 21) d_J7_copyOf_c38d5_21 (by decide) ?_
  refine Tr.aload_n (pc := 22) (i := 0) d_J7_copyOf_c38d5_22 rfl rfl ?_
  refine Tr.alen (pc := 23) d_J7_copyOf_c38d5_23 hx2 (by decide) (by omega) ?_
  refine Tr.iload_n (pc := 24) (i := 1) d_J7_copyOf_c38d5_24 rfl rfl ?_
  refine Tr.mmin (pc := 25) d_J7_copyOf_c38d5_25 ml_14_304 mw_mmin (Nat.le_of_ble_eq_true rfl) ?_
  refine Tr.tp (N : Int) (if_neg (by omega)) ?_
  refine Tr.acopyL (pc := 28) (n0 := N) (n1 := n) d_J7_copyOf_c38d5_28 ac_14_150 acw.1 acw.2.1 acw.2.2 hx2 (by rw [mT_nw, if_pos rfl]) (by omega) (by omega) (by omega) (by omega) (by omega) (Nat.le_of_ble_eq_true rfl) ?_
  refine Tr.aload_n (pc := 31) (i := 2) d_J7_copyOf_c38d5_31 rfl rfl ?_
  exact Tr.aret (pc := 32) d_J7_copyOf_c38d5_32 rfl ⟨rfl, rfl⟩
def ws_X8_makeRoom_63 : List (Int × Int) := [(63, 1), (63, 2), (63, 3), (63, 4), (63, 5), (63, 8), (63, 9), (63, 10), (63, 11)]
def as_X8_makeRoom_63 : List Int := [191]
def q_X8_makeRoom_63 (M0 M' : Mem) (r : Option PV) : Prop := St Tru ws_X8_makeRoom_63 as_X8_makeRoom_63 M0 M' ∧ r = none
set_option maxRecDepth 100000 in
set_option maxHeartbeats 4000000 in
theorem sp_X8_makeRoom_63 {l : Launch} {K : EC} {M0 : Mem} (hI : In Tru M0) (hq0 : rd M0 63 7 ≤ 2000) : Tr l K 2 mX8_makeRoom 0 [(0, (2, 63))] [] M0 (q_X8_makeRoom_63 M0) := by
  have hS : St Tru ws_X8_makeRoom_63 as_X8_makeRoom_63 M0 M0 := St.rf hI
  obtain ⟨b, eb⟩ : ∃ v, rd M0 63 1 = v := ⟨_, rfl⟩
  have hn := tl_n hS eb
  have hb := tl_b hS eb
  refine Tr.aload_n (pc := 0) (i := 0) d_X8_makeRoom_0 rfl rfl ?_
  refine Tr.getf (pc := 1) d_X8_makeRoom_1 f_8_47 (by decide) (by decide) (ty_63 hS.1.1) ?_
  obtain ⟨cv, ecv⟩ : ∃ v, rd M0 63 7 = v := ⟨_, rfl⟩
  refine Tr.tp cv ecv ?_
  refine Tr.aload_n (pc := 4) (i := 0) d_X8_makeRoom_4 rfl rfl ?_
  refine Tr.getf (pc := 5) d_X8_makeRoom_5 f_8_31 (by decide) (by decide) (ty_63 hS.1.1) ?_
  refine Tr.tp (tref b 8) (tl_ref hS eb (by decide)) ?_
  refine Tr.alen (pc := 8) d_X8_makeRoom_8 (tl_tyI hS eb (j := 8) (by decide) (by decide) rfl) (by decide) (by omega) ?_
  refine Tr.icmp_ge (pc := 9) (tgt := 13) d_X8_makeRoom_9 rfl (fun c9 => ?_) (fun c9 => ?_)
  · have hb2 : b ≠ 236 := fun c => by subst c; have : (fN 236 : Int) = 2016 := rfl; omega
    obtain ⟨n, en⟩ : ∃ n : Nat, n = 2 * fN b + 32 := ⟨_, rfl⟩
    have hM0 : M0.1 = tcell b := by rw [← eb]; exact hI.2.2.2.1.2.1
    have hr : ∀ j : Int, j ∈ tJ → tref b j < (M0.1 : Int) ∧ tref b j ≠ 63 := fun j hj => by
      rw [hM0]
      simp only [tJ, List.mem_cons, List.not_mem_nil, or_false] at hj
      rcases hb with rfl | rfl | rfl | rfl | rfl | rfl | rfl <;> rcases hj with rfl | rfl | rfl | rfl | rfl | rfl | rfl | rfl | rfl <;> decide
    have h63 : (63 : Int) < M0.1 := by rw [hM0]; rcases hb with rfl | rfl | rfl | rfl | rfl | rfl | rfl <;> decide
    have hel : ∀ j : Int, j ∈ tJ → ∀ i : Int, 0 ≤ i → i < fN b → tlo j ≤ rd M0 (tref b j) i ∧ rd M0 (tref b j) i ≤ thi j := fun j hj i i0 i1 => tl_el hS eb hj rfl i0 i1
    refine Tr.aload_n (pc := 13) (i := 0) d_X8_makeRoom_13 rfl rfl ?_
    refine Tr.getf (pc := 14) d_X8_makeRoom_14 f_8_31 (by decide) (by decide) (ty_63 hS.1.1) ?_
    refine Tr.tp (tref b 8) (tl_ref hS eb (by decide)) ?_
    refine Tr.alen (pc := 17) d_X8_makeRoom_17 (tl_tyI hS eb (j := 8) (by decide) (by decide) rfl) (by decide) (by omega) ?_
    refine Tr.iconst (pc := 18) d_X8_makeRoom_18 (by decide) ?_
    refine Tr.imul (pc := 19) d_X8_makeRoom_19 ?_
    refine Tr.tp ((fN b : Int) * 2) (w32_id (by omega)) ?_
    refine Tr.bipush (pc := 20) d_X8_makeRoom_20 rfl (by decide) ?_
    refine Tr.iadd (pc := 22) d_X8_makeRoom_22 ?_
    refine Tr.tp (n : Int) ((w32_id (by omega)).trans (by omega)) ?_
    refine Tr.istore_n (pc := 23) (i := 1) (ls2 := [(1, (0, (n : Int))), (0, (2, 63))]) d_X8_makeRoom_23 rfl (by decide) rfl ?_
    have hH0 := Hf.rf M0 n
    have ty0 : mT M0 63 = (8, 12) := (hH0.2.2.1 63 h63).trans (ty_63 hS.1.1)
    have rr0 : rd M0 63 1 = tref b 1 := (hH0.2.2.2.2.1 63 1 h63 (fun i hi e => absurd (show i = 0 from tjk_inj (e.2.symm.trans (show (1 : Int) = tjk 0 from rfl))) (by omega))).trans (tl_ref hS eb (by decide))
    have mm0 := hH0.1
    refine Tr.aload_n (pc := 24) (i := 0) d_X8_makeRoom_24 rfl rfl ?_
    refine Tr.aload_n (pc := 25) (i := 0) d_X8_makeRoom_25 rfl rfl ?_
    refine Tr.getf (pc := 26) d_X8_makeRoom_26 f_8_9 (by decide) (by decide) ty0 ?_
    refine Tr.tp (tref b 1) rr0 ?_
    refine Tr.iload_n (pc := 29) (i := 1) d_X8_makeRoom_29 rfl rfl ?_
    refine Tr.callS (pc := 30) (as := [_, _]) d_X8_makeRoom_30 s_8_56 ok_J7_copyOf_59c91 rfl rfl (Nat.le_of_ble_eq_true rfl) (Nat.le_of_ble_eq_true rfl) ?_
    refine Tr.imp (sp_copyI (N := fN b) (n := n) ((hH0.2.2.1 _ (hr 1 (by decide)).1).trans (tl_tyI hS eb (j := 1) (by decide) (by decide) rfl)) (by have := (hr 1 (by decide)).1; omega) (by omega) (by omega)) ?_
    rintro _ _ ⟨rfl, rfl⟩
    have hw0 := hH0.step (f := 1) (c := 20) (N := fN b) h63 rfl rfl (tl_ref hS eb (by decide)) (hr 1 (by decide)).1 (hr 1 (by decide)).2 (hel 1 (by decide))
    refine Tr.sc [(2, (M0.1 : Int)), (2, 63)] rfl ?_
    refine Tr.putfS (pc := 33) (P := Hf M0 n 1) d_X8_makeRoom_33 f_8_9 (by decide) (by decide) (by show mT (mnew M0 _) 63 = _; rw [mT_nw, if_neg (by omega)]; exact ty0) hw0 (fun M33 hH1 _ => ?_)
    have ty1 : mT M33 63 = (8, 12) := (hH1.2.2.1 63 h63).trans (ty_63 hS.1.1)
    have rr1 : rd M33 63 2 = tref b 2 := (hH1.2.2.2.2.1 63 2 h63 (fun i hi e => absurd (show i = 1 from tjk_inj (e.2.symm.trans (show (2 : Int) = tjk 1 from rfl))) (by omega))).trans (tl_ref hS eb (by decide))
    have mm1 := hH1.1
    refine Tr.aload_n (pc := 36) (i := 0) d_X8_makeRoom_36 rfl rfl ?_
    refine Tr.aload_n (pc := 37) (i := 0) d_X8_makeRoom_37 rfl rfl ?_
    refine Tr.getf (pc := 38) d_X8_makeRoom_38 f_8_15 (by decide) (by decide) ty1 ?_
    refine Tr.tp (tref b 2) rr1 ?_
    refine Tr.iload_n (pc := 41) (i := 1) d_X8_makeRoom_41 rfl rfl ?_
    refine Tr.callS (pc := 42) (as := [_, _]) d_X8_makeRoom_42 s_8_56 ok_J7_copyOf_59c91 rfl rfl (Nat.le_of_ble_eq_true rfl) (Nat.le_of_ble_eq_true rfl) ?_
    refine Tr.imp (sp_copyI (N := fN b) (n := n) ((hH1.2.2.1 _ (hr 2 (by decide)).1).trans (tl_tyI hS eb (j := 2) (by decide) (by decide) rfl)) (by have := (hr 2 (by decide)).1; omega) (by omega) (by omega)) ?_
    rintro _ _ ⟨rfl, rfl⟩
    have hw1 := hH1.step (f := 2) (c := 20) (N := fN b) h63 rfl rfl (tl_ref hS eb (by decide)) (hr 2 (by decide)).1 (hr 2 (by decide)).2 (hel 2 (by decide))
    refine Tr.sc [(2, (M33.1 : Int)), (2, 63)] rfl ?_
    refine Tr.putfS (pc := 45) (P := Hf M0 n 2) d_X8_makeRoom_45 f_8_15 (by decide) (by decide) (by show mT (mnew M33 _) 63 = _; rw [mT_nw, if_neg (by omega)]; exact ty1) hw1 (fun M45 hH2 _ => ?_)
    have ty2 : mT M45 63 = (8, 12) := (hH2.2.2.1 63 h63).trans (ty_63 hS.1.1)
    have rr2 : rd M45 63 3 = tref b 3 := (hH2.2.2.2.2.1 63 3 h63 (fun i hi e => absurd (show i = 2 from tjk_inj (e.2.symm.trans (show (3 : Int) = tjk 2 from rfl))) (by omega))).trans (tl_ref hS eb (by decide))
    have mm2 := hH2.1
    refine Tr.aload_n (pc := 48) (i := 0) d_X8_makeRoom_48 rfl rfl ?_
    refine Tr.aload_n (pc := 49) (i := 0) d_X8_makeRoom_49 rfl rfl ?_
    refine Tr.getf (pc := 50) d_X8_makeRoom_50 f_8_18 (by decide) (by decide) ty2 ?_
    refine Tr.tp (tref b 3) rr2 ?_
    refine Tr.iload_n (pc := 53) (i := 1) d_X8_makeRoom_53 rfl rfl ?_
    refine Tr.callS (pc := 54) (as := [_, _]) d_X8_makeRoom_54 s_8_56 ok_J7_copyOf_59c91 rfl rfl (Nat.le_of_ble_eq_true rfl) (Nat.le_of_ble_eq_true rfl) ?_
    refine Tr.imp (sp_copyI (N := fN b) (n := n) ((hH2.2.2.1 _ (hr 3 (by decide)).1).trans (tl_tyI hS eb (j := 3) (by decide) (by decide) rfl)) (by have := (hr 3 (by decide)).1; omega) (by omega) (by omega)) ?_
    rintro _ _ ⟨rfl, rfl⟩
    have hw2 := hH2.step (f := 3) (c := 20) (N := fN b) h63 rfl rfl (tl_ref hS eb (by decide)) (hr 3 (by decide)).1 (hr 3 (by decide)).2 (hel 3 (by decide))
    refine Tr.sc [(2, (M45.1 : Int)), (2, 63)] rfl ?_
    refine Tr.putfS (pc := 57) (P := Hf M0 n 3) d_X8_makeRoom_57 f_8_18 (by decide) (by decide) (by show mT (mnew M45 _) 63 = _; rw [mT_nw, if_neg (by omega)]; exact ty2) hw2 (fun M57 hH3 _ => ?_)
    have ty3 : mT M57 63 = (8, 12) := (hH3.2.2.1 63 h63).trans (ty_63 hS.1.1)
    have rr3 : rd M57 63 4 = tref b 4 := (hH3.2.2.2.2.1 63 4 h63 (fun i hi e => absurd (show i = 3 from tjk_inj (e.2.symm.trans (show (4 : Int) = tjk 3 from rfl))) (by omega))).trans (tl_ref hS eb (by decide))
    have mm3 := hH3.1
    refine Tr.aload_n (pc := 60) (i := 0) d_X8_makeRoom_60 rfl rfl ?_
    refine Tr.aload_n (pc := 61) (i := 0) d_X8_makeRoom_61 rfl rfl ?_
    refine Tr.getf (pc := 62) d_X8_makeRoom_62 f_8_21 (by decide) (by decide) ty3 ?_
    refine Tr.tp (tref b 4) rr3 ?_
    refine Tr.iload_n (pc := 65) (i := 1) d_X8_makeRoom_65 rfl rfl ?_
    refine Tr.callS (pc := 66) (as := [_, _]) d_X8_makeRoom_66 s_8_56 ok_J7_copyOf_59c91 rfl rfl (Nat.le_of_ble_eq_true rfl) (Nat.le_of_ble_eq_true rfl) ?_
    refine Tr.imp (sp_copyI (N := fN b) (n := n) ((hH3.2.2.1 _ (hr 4 (by decide)).1).trans (tl_tyI hS eb (j := 4) (by decide) (by decide) rfl)) (by have := (hr 4 (by decide)).1; omega) (by omega) (by omega)) ?_
    rintro _ _ ⟨rfl, rfl⟩
    have hw3 := hH3.step (f := 4) (c := 20) (N := fN b) h63 rfl rfl (tl_ref hS eb (by decide)) (hr 4 (by decide)).1 (hr 4 (by decide)).2 (hel 4 (by decide))
    refine Tr.sc [(2, (M57.1 : Int)), (2, 63)] rfl ?_
    refine Tr.putfS (pc := 69) (P := Hf M0 n 4) d_X8_makeRoom_69 f_8_21 (by decide) (by decide) (by show mT (mnew M57 _) 63 = _; rw [mT_nw, if_neg (by omega)]; exact ty3) hw3 (fun M69 hH4 _ => ?_)
    have ty4 : mT M69 63 = (8, 12) := (hH4.2.2.1 63 h63).trans (ty_63 hS.1.1)
    have rr4 : rd M69 63 5 = tref b 5 := (hH4.2.2.2.2.1 63 5 h63 (fun i hi e => absurd (show i = 4 from tjk_inj (e.2.symm.trans (show (5 : Int) = tjk 4 from rfl))) (by omega))).trans (tl_ref hS eb (by decide))
    have mm4 := hH4.1
    refine Tr.aload_n (pc := 72) (i := 0) d_X8_makeRoom_72 rfl rfl ?_
    refine Tr.aload_n (pc := 73) (i := 0) d_X8_makeRoom_73 rfl rfl ?_
    refine Tr.getf (pc := 74) d_X8_makeRoom_74 f_8_24 (by decide) (by decide) ty4 ?_
    refine Tr.tp (tref b 5) rr4 ?_
    refine Tr.iload_n (pc := 77) (i := 1) d_X8_makeRoom_77 rfl rfl ?_
    refine Tr.callS (pc := 78) (as := [_, _]) d_X8_makeRoom_78 s_8_60 ok_J7_copyOf_c38d5 rfl rfl (Nat.le_of_ble_eq_true rfl) (Nat.le_of_ble_eq_true rfl) ?_
    refine Tr.imp (sp_copyL (N := fN b) (n := n) ((hH4.2.2.1 _ (hr 5 (by decide)).1).trans (tl_tyL hS eb rfl)) (by have := (hr 5 (by decide)).1; omega) (by omega) (by omega)) ?_
    rintro _ _ ⟨rfl, rfl⟩
    have hw4 := hH4.step (f := 5) (c := 21) (N := fN b) h63 rfl rfl (tl_ref hS eb (by decide)) (hr 5 (by decide)).1 (hr 5 (by decide)).2 (hel 5 (by decide))
    refine Tr.sc [(2, (M69.1 : Int)), (2, 63)] rfl ?_
    refine Tr.putfS (pc := 81) (P := Hf M0 n 5) d_X8_makeRoom_81 f_8_24 (by decide) (by decide) (by show mT (mnew M69 _) 63 = _; rw [mT_nw, if_neg (by omega)]; exact ty4) hw4 (fun M81 hH5 _ => ?_)
    have ty5 : mT M81 63 = (8, 12) := (hH5.2.2.1 63 h63).trans (ty_63 hS.1.1)
    have rr5 : rd M81 63 8 = tref b 8 := (hH5.2.2.2.2.1 63 8 h63 (fun i hi e => absurd (show i = 5 from tjk_inj (e.2.symm.trans (show (8 : Int) = tjk 5 from rfl))) (by omega))).trans (tl_ref hS eb (by decide))
    have mm5 := hH5.1
    refine Tr.aload_n (pc := 84) (i := 0) d_X8_makeRoom_84 rfl rfl ?_
    refine Tr.aload_n (pc := 85) (i := 0) d_X8_makeRoom_85 rfl rfl ?_
    refine Tr.getf (pc := 86) d_X8_makeRoom_86 f_8_31 (by decide) (by decide) ty5 ?_
    refine Tr.tp (tref b 8) rr5 ?_
    refine Tr.iload_n (pc := 89) (i := 1) d_X8_makeRoom_89 rfl rfl ?_
    refine Tr.callS (pc := 90) (as := [_, _]) d_X8_makeRoom_90 s_8_56 ok_J7_copyOf_59c91 rfl rfl (Nat.le_of_ble_eq_true rfl) (Nat.le_of_ble_eq_true rfl) ?_
    refine Tr.imp (sp_copyI (N := fN b) (n := n) ((hH5.2.2.1 _ (hr 8 (by decide)).1).trans (tl_tyI hS eb (j := 8) (by decide) (by decide) rfl)) (by have := (hr 8 (by decide)).1; omega) (by omega) (by omega)) ?_
    rintro _ _ ⟨rfl, rfl⟩
    have hw5 := hH5.step (f := 8) (c := 20) (N := fN b) h63 rfl rfl (tl_ref hS eb (by decide)) (hr 8 (by decide)).1 (hr 8 (by decide)).2 (hel 8 (by decide))
    refine Tr.sc [(2, (M81.1 : Int)), (2, 63)] rfl ?_
    refine Tr.putfS (pc := 93) (P := Hf M0 n 6) d_X8_makeRoom_93 f_8_31 (by decide) (by decide) (by show mT (mnew M81 _) 63 = _; rw [mT_nw, if_neg (by omega)]; exact ty5) hw5 (fun M93 hH6 _ => ?_)
    have ty6 : mT M93 63 = (8, 12) := (hH6.2.2.1 63 h63).trans (ty_63 hS.1.1)
    have rr6 : rd M93 63 9 = tref b 9 := (hH6.2.2.2.2.1 63 9 h63 (fun i hi e => absurd (show i = 6 from tjk_inj (e.2.symm.trans (show (9 : Int) = tjk 6 from rfl))) (by omega))).trans (tl_ref hS eb (by decide))
    have mm6 := hH6.1
    refine Tr.aload_n (pc := 96) (i := 0) d_X8_makeRoom_96 rfl rfl ?_
    refine Tr.aload_n (pc := 97) (i := 0) d_X8_makeRoom_97 rfl rfl ?_
    refine Tr.getf (pc := 98) d_X8_makeRoom_98 f_8_34 (by decide) (by decide) ty6 ?_
    refine Tr.tp (tref b 9) rr6 ?_
    refine Tr.iload_n (pc := 101) (i := 1) d_X8_makeRoom_101 rfl rfl ?_
    refine Tr.callS (pc := 102) (as := [_, _]) d_X8_makeRoom_102 s_8_56 ok_J7_copyOf_59c91 rfl rfl (Nat.le_of_ble_eq_true rfl) (Nat.le_of_ble_eq_true rfl) ?_
    refine Tr.imp (sp_copyI (N := fN b) (n := n) ((hH6.2.2.1 _ (hr 9 (by decide)).1).trans (tl_tyI hS eb (j := 9) (by decide) (by decide) rfl)) (by have := (hr 9 (by decide)).1; omega) (by omega) (by omega)) ?_
    rintro _ _ ⟨rfl, rfl⟩
    have hw6 := hH6.step (f := 9) (c := 20) (N := fN b) h63 rfl rfl (tl_ref hS eb (by decide)) (hr 9 (by decide)).1 (hr 9 (by decide)).2 (hel 9 (by decide))
    refine Tr.sc [(2, (M93.1 : Int)), (2, 63)] rfl ?_
    refine Tr.putfS (pc := 105) (P := Hf M0 n 7) d_X8_makeRoom_105 f_8_34 (by decide) (by decide) (by show mT (mnew M93 _) 63 = _; rw [mT_nw, if_neg (by omega)]; exact ty6) hw6 (fun M105 hH7 _ => ?_)
    have ty7 : mT M105 63 = (8, 12) := (hH7.2.2.1 63 h63).trans (ty_63 hS.1.1)
    have rr7 : rd M105 63 10 = tref b 10 := (hH7.2.2.2.2.1 63 10 h63 (fun i hi e => absurd (show i = 7 from tjk_inj (e.2.symm.trans (show (10 : Int) = tjk 7 from rfl))) (by omega))).trans (tl_ref hS eb (by decide))
    have mm7 := hH7.1
    refine Tr.aload_n (pc := 108) (i := 0) d_X8_makeRoom_108 rfl rfl ?_
    refine Tr.aload_n (pc := 109) (i := 0) d_X8_makeRoom_109 rfl rfl ?_
    refine Tr.getf (pc := 110) d_X8_makeRoom_110 f_8_37 (by decide) (by decide) ty7 ?_
    refine Tr.tp (tref b 10) rr7 ?_
    refine Tr.iload_n (pc := 113) (i := 1) d_X8_makeRoom_113 rfl rfl ?_
    refine Tr.callS (pc := 114) (as := [_, _]) d_X8_makeRoom_114 s_8_56 ok_J7_copyOf_59c91 rfl rfl (Nat.le_of_ble_eq_true rfl) (Nat.le_of_ble_eq_true rfl) ?_
    refine Tr.imp (sp_copyI (N := fN b) (n := n) ((hH7.2.2.1 _ (hr 10 (by decide)).1).trans (tl_tyI hS eb (j := 10) (by decide) (by decide) rfl)) (by have := (hr 10 (by decide)).1; omega) (by omega) (by omega)) ?_
    rintro _ _ ⟨rfl, rfl⟩
    have hw7 := hH7.step (f := 10) (c := 20) (N := fN b) h63 rfl rfl (tl_ref hS eb (by decide)) (hr 10 (by decide)).1 (hr 10 (by decide)).2 (hel 10 (by decide))
    refine Tr.sc [(2, (M105.1 : Int)), (2, 63)] rfl ?_
    refine Tr.putfS (pc := 117) (P := Hf M0 n 8) d_X8_makeRoom_117 f_8_37 (by decide) (by decide) (by show mT (mnew M105 _) 63 = _; rw [mT_nw, if_neg (by omega)]; exact ty7) hw7 (fun M117 hH8 _ => ?_)
    have ty8 : mT M117 63 = (8, 12) := (hH8.2.2.1 63 h63).trans (ty_63 hS.1.1)
    have rr8 : rd M117 63 11 = tref b 11 := (hH8.2.2.2.2.1 63 11 h63 (fun i hi e => absurd (show i = 8 from tjk_inj (e.2.symm.trans (show (11 : Int) = tjk 8 from rfl))) (by omega))).trans (tl_ref hS eb (by decide))
    have mm8 := hH8.1
    refine Tr.aload_n (pc := 120) (i := 0) d_X8_makeRoom_120 rfl rfl ?_
    refine Tr.aload_n (pc := 121) (i := 0) d_X8_makeRoom_121 rfl rfl ?_
    refine Tr.getf (pc := 122) d_X8_makeRoom_122 f_8_40 (by decide) (by decide) ty8 ?_
    refine Tr.tp (tref b 11) rr8 ?_
    refine Tr.iload_n (pc := 125) (i := 1) d_X8_makeRoom_125 rfl rfl ?_
    refine Tr.callS (pc := 126) (as := [_, _]) d_X8_makeRoom_126 s_8_56 ok_J7_copyOf_59c91 rfl rfl (Nat.le_of_ble_eq_true rfl) (Nat.le_of_ble_eq_true rfl) ?_
    refine Tr.imp (sp_copyI (N := fN b) (n := n) ((hH8.2.2.1 _ (hr 11 (by decide)).1).trans (tl_tyI hS eb (j := 11) (by decide) (by decide) rfl)) (by have := (hr 11 (by decide)).1; omega) (by omega) (by omega)) ?_
    rintro _ _ ⟨rfl, rfl⟩
    have hw8 := hH8.step (f := 11) (c := 20) (N := fN b) h63 rfl rfl (tl_ref hS eb (by decide)) (hr 11 (by decide)).1 (hr 11 (by decide)).2 (hel 11 (by decide))
    refine Tr.sc [(2, (M117.1 : Int)), (2, 63)] rfl ?_
    refine Tr.putfS (pc := 129) (P := Hf M0 n 9) d_X8_makeRoom_129 f_8_40 (by decide) (by decide) (by show mT (mnew M117 _) 63 = _; rw [mT_nw, if_neg (by omega)]; exact ty8) hw8 (fun M129 hH9 _ => ?_)
    exact Tr.vret (pc := 132) d_X8_makeRoom_132 rfl ⟨Hf.done hI eb hb2 en hH9 (by decide) (by decide), rfl⟩
  · exact Tr.vret (pc := 12) d_X8_makeRoom_12 rfl ⟨hS, rfl⟩
