def ws_X6_go_74_27_104 : List (Int × Int) := [(74, 1), (74, 9), (74, 10), (74, 11), (74, 12), (74, 13), (74, 14), (74, 15), (74, 16), (74, 17), (82, 1)]
def as_X6_go_74_27_104 : List Int := [75, 76, 77, 78, 79, 80, 81, 83]
def q_X6_go_74_27_104 (M0 M' : Mem) (r : Option PV) : Prop := St Tru ws_X6_go_74_27_104 as_X6_go_74_27_104 M0 M' ∧ rd M' 74 1 = 27 ∧ rd M' 82 1 = 27 ∧ r = none
set_option maxRecDepth 100000 in
set_option maxHeartbeats 4000000 in
theorem sp_X6_go_74_27_104 {l : Launch} {K : EC} {M0 : Mem} (hI : In Tru M0)  (a3 : Int) (ha3 : (-1) ≤ a3 ∧ a3 ≤ (-1))  (hF_Y35 : Yn35 M0) : Tr l K 5 mX6_go 0 [(0, (2, 74)), (1, (2, 27)), (2, (2, 104)), (3, (0, a3))] [] M0 (q_X6_go_74_27_104 M0) := by
  have hS : St Tru ws_X6_go_74_27_104 as_X6_go_74_27_104 M0 M0 := St.rf hI
  obtain ⟨g35_0, eg35_0⟩ : ∃ v, rd M0 35 0 = v := ⟨_, rfl⟩
  have bg35_0 : 0 ≤ g35_0 ∧ g35_0 ≤ 60 := by rw [← eg35_0]; exact ir_35_0 hI.2.1
  refine Tr.aload_n (pc := 0) (i := 0) d_X6_go_0 rfl rfl ?_
  refine Tr.aload_n (pc := 1) (i := 1) d_X6_go_1 rfl rfl ?_
  refine Tr.aload_n (pc := 2) (i := 2) d_X6_go_2 rfl rfl ?_
  refine Tr.iload_n (pc := 3) (i := 3) d_X6_go_3 rfl rfl ?_
  refine Tr.tp (-1) (by omega) ?_
  refine Tr.callV (pc := 4) (as := [_, _, _]) d_X6_go_4 s_6_42 ok_X6_begin rfl rfl (Nat.le_of_ble_eq_true rfl) (Nat.le_of_ble_eq_true rfl) (by decide) (ty_74 hS.1.1) ?_
  refine Tr.imp (Tr.deep (by decide) (sp_X6_begin_74_27_104 hS.1 (-1) (by omega))) ?_
  rintro M4 _ ⟨h4, o4_74_1, o4_82_1, rfl⟩
  have hS := St.tr hS h4 (by decide) (by decide)
  refine Tr.sc [] rfl ?_
  refine Tr.iconst (pc := 7) d_X6_go_7 (by decide) ?_
  refine Tr.istore (pc := 8) (i := 4) (ls2 := [(4, (0, 0)), (0, (2, 74)), (1, (2, 27)), (2, (2, 104)), (3, (0, a3))]) d_X6_go_8 (by decide) rfl ?_
  refine Tr.iconst (pc := 10) d_X6_go_10 (by decide) ?_
  refine Tr.istore (pc := 11) (i := 5) (ls2 := [(5, (0, 0)), (4, (0, 0)), (0, (2, 74)), (1, (2, 27)), (2, (2, 104)), (3, (0, a3))]) d_X6_go_11 (by decide) rfl ?_
  have J13 : ∀ (n13 : Nat) (M : Mem) (p13_4 p13_5 : Int), St Tru ws_X6_go_74_27_104 as_X6_go_74_27_104 M0 M → (0 ≤ p13_4 ∧ p13_4 ≤ 2147483647) → (0 ≤ p13_5 ∧ p13_5 ≤ 2001) → rd M 35 0 = g35_0 → rd M 74 1 = 27 → rd M 82 1 = 27 → (2001 - p13_5).toNat < n13 → Tr l K 5 mX6_go 13 [(0, (2, 74)), (4, (0, p13_4)), (5, (0, p13_5))] [] M (q_X6_go_74_27_104 M0) := by
    intro n13
    induction n13 with
    | zero => intro M p13_4 p13_5 hS bp13_4 bp13_5 k13_35_0 k13_74_1 k13_82_1 hm13; exact absurd hm13 (Nat.not_lt_zero _)
    | succ n13 J13 =>
      intro M p13_4 p13_5 hS bp13_4 bp13_5 k13_35_0 k13_74_1 k13_82_1 hm13
      refine Tr.iload (pc := 13) (i := 5) d_X6_go_13 rfl ?_
      refine Tr.sipush (pc := 15) d_X6_go_15 rfl (by decide) ?_
      have J103 : ∀ (M : Mem), St Tru ws_X6_go_74_27_104 as_X6_go_74_27_104 M0 M → rd M 35 0 = g35_0 → rd M 74 1 = 27 → rd M 82 1 = 27 → Tr l K 5 mX6_go 103 [(0, (2, 74))] [] M (q_X6_go_74_27_104 M0) := by
        intro M  hS  k103_35_0 k103_74_1 k103_82_1
        refine Tr.aload_n (pc := 103) (i := 0) d_X6_go_103 rfl rfl ?_
        refine Tr.callV (pc := 104) (as := []) d_X6_go_104 s_6_82 ok_X6_finish rfl rfl (Nat.le_of_ble_eq_true rfl) (Nat.le_of_ble_eq_true rfl) (by decide) (ty_74 hS.1.1) ?_
        refine Tr.imp (Tr.deep (by decide) (sp_X6_finish_74_w1 hS.1 k103_74_1 k103_82_1)) ?_
        rintro M104 _ ⟨h104, rfl⟩
        have hS := St.tr hS h104 (by decide) (by decide)
        refine Tr.sc [] rfl ?_
        exact Tr.vret (pc := 107) d_X6_go_107 rfl ⟨hS, ((St.kp h104 (by decide) (by decide) (by decide)).trans k103_74_1), ((St.kp h104 (by decide) (by decide) (by decide)).trans k103_82_1), rfl⟩
      refine Tr.icmp_gt (pc := 18) (tgt := 103) d_X6_go_18 rfl (fun c18 => ?_) (fun c18 => ?_)
      · refine Tr.pick [0] (ls2 := [(0, (2, 74))]) rfl ?_
        exact J103 _ hS k13_35_0 k13_74_1 k13_82_1
      · refine Tr.iload (pc := 21) (i := 4) d_X6_go_21 rfl ?_
        refine Tr.aload_n (pc := 23) (i := 0) d_X6_go_23 rfl rfl ?_
        refine Tr.getf (pc := 24) d_X6_go_24 f_6_46 (by decide) (by decide) (ty_74 hS.1.1) ?_
        refine Tr.tp 27 k13_74_1 ?_
        refine Tr.getf (pc := 27) d_X6_go_27 f_6_50 (by decide) (by decide) (ty_27 hS.1.1) ?_
        refine Tr.tp 35 (fx_27_11 hS.1.1) ?_
        refine Tr.getf (pc := 30) d_X6_go_30 f_6_56 (by decide) (by decide) (ty_35 hS.1.1) ?_
        refine Tr.tp g35_0 k13_35_0 ?_
        refine Tr.icmp_ge (pc := 33) (tgt := 103) d_X6_go_33 rfl (fun c33 => ?_) (fun c33 => ?_)
        · refine Tr.pick [0] (ls2 := [(0, (2, 74))]) rfl ?_
          exact J103 _ hS k13_35_0 k13_74_1 k13_82_1
        · refine Tr.aload_n (pc := 36) (i := 0) d_X6_go_36 rfl rfl ?_
          refine Tr.getf (pc := 37) d_X6_go_37 f_6_62 (by decide) (by decide) (ty_74 hS.1.1) ?_
          refine Tr.gen (P := fun v => (-2147483648) ≤ v ∧ v ≤ 2147483647) (ir_74_14 hS.1.2.1) (fun r37 er37 br37 => ?_)
          refine Tr.if_ne (pc := 40) (tgt := 103) d_X6_go_40 rfl (fun c40 => ?_) (fun c40 => ?_)
          · refine Tr.pick [0] (ls2 := [(0, (2, 74))]) rfl ?_
            exact J103 _ hS k13_35_0 k13_74_1 k13_82_1
          · refine Tr.aload_n (pc := 43) (i := 0) d_X6_go_43 rfl rfl ?_
            refine Tr.getf (pc := 44) d_X6_go_44 f_6_38 (by decide) (by decide) (ty_74 hS.1.1) ?_
            refine Tr.tp 82 (fx_74_0 hS.1.1) ?_
            refine Tr.callV (pc := 47) (as := []) d_X6_go_47 s_6_65 ok_X1_makeRoom rfl rfl (Nat.le_of_ble_eq_true rfl) (Nat.le_of_ble_eq_true rfl) (by decide) (ty_82 hS.1.1) ?_
            refine Tr.imp (Tr.deep (by decide) (sp_X1_makeRoom_82 hS.1 )) ?_
            rintro M47 _ ⟨h47, rfl⟩
            have hS := St.tr hS h47 (by decide) (by decide)
            refine Tr.sc [] rfl ?_
            refine Tr.aload_n (pc := 50) (i := 0) d_X6_go_50 rfl rfl ?_
            refine Tr.getf (pc := 51) d_X6_go_51 f_6_68 (by decide) (by decide) (ty_74 hS.1.1) ?_
            refine Tr.gen (P := fun v => (-2147483648) ≤ v ∧ v ≤ 2147483647) (ir_74_9 hS.1.2.1) (fun r51 er51 br51 => ?_)
            refine Tr.istore (pc := 54) (i := 6) (ls2 := [(6, (0, r51)), (0, (2, 74)), (4, (0, p13_4)), (5, (0, p13_5))]) d_X6_go_54 (by decide) rfl ?_
            refine Tr.aload_n (pc := 56) (i := 0) d_X6_go_56 rfl rfl ?_
            refine Tr.iload (pc := 57) (i := 4) d_X6_go_57 rfl ?_
            refine Tr.callV (pc := 59) (as := [_]) d_X6_go_59 s_6_71 ok_X6_step rfl rfl (Nat.le_of_ble_eq_true rfl) (Nat.le_of_ble_eq_true rfl) (by decide) (ty_74 hS.1.1) ?_
            have kb59_35_0 : rd M47 35 0 = g35_0 := ((St.kp h47 (by decide) (by decide) (by decide)).trans k13_35_0)
            refine Tr.imp (Tr.deep (by decide) (sp_X6_step_74_w3 hS.1 ((St.kp h47 (by decide) (by decide) (by decide)).trans k13_74_1) p13_4 (by omega) (by omega) (Yn35.of hF_Y35 (fun j => (St.ka hS (by decide) (by decide) (by decide))) (fun j => (St.ka hS (by decide) (by decide) (by decide))) (St.kp hS (by decide) (by decide) (by decide))))) ?_
            rintro M59 _ ⟨h59, r59, rfl, lr59, ur59⟩
            have hS := St.tr hS h59 (by decide) (by decide)
            refine Tr.sc [(0, r59)] rfl ?_
            refine Tr.istore (pc := 62) (i := 7) (ls2 := [(7, (0, r59)), (6, (0, r51)), (0, (2, 74)), (4, (0, p13_4)), (5, (0, p13_5))]) d_X6_go_62 (by decide) rfl ?_
            refine Tr.aload_n (pc := 64) (i := 0) d_X6_go_64 rfl rfl ?_
            refine Tr.getf (pc := 65) d_X6_go_65 f_6_38 (by decide) (by decide) (ty_74 hS.1.1) ?_
            refine Tr.tp 82 (fx_74_0 hS.1.1) ?_
            refine Tr.iload (pc := 68) (i := 4) d_X6_go_68 rfl ?_
            refine Tr.aload_n (pc := 70) (i := 0) d_X6_go_70 rfl rfl ?_
            refine Tr.getf (pc := 71) d_X6_go_71 f_6_68 (by decide) (by decide) (ty_74 hS.1.1) ?_
            refine Tr.gen (P := fun v => (-2147483648) ≤ v ∧ v ≤ 2147483647) (ir_74_9 hS.1.2.1) (fun r71 er71 br71 => ?_)
            refine Tr.iload (pc := 74) (i := 6) d_X6_go_74 rfl ?_
            refine Tr.isub (pc := 76) d_X6_go_76 ?_
            refine Tr.gen (P := fun v => (-2147483648) ≤ v ∧ v ≤ 2147483647) (w32_b _) (fun r76 er76 br76 => ?_)
            refine Tr.callV (pc := 77) (as := [_, _]) d_X6_go_77 s_6_75 ok_X1_payHeart rfl rfl (Nat.le_of_ble_eq_true rfl) (Nat.le_of_ble_eq_true rfl) (by decide) (ty_82 hS.1.1) ?_
            refine Tr.imp (Tr.deep (by decide) (sp_X1_payHeart_82_w1 hS.1 p13_4 (by omega) r76 (by omega))) ?_
            rintro M77 _ ⟨h77, rfl⟩
            have hS := St.tr hS h77 (by decide) (by decide)
            refine Tr.sc [] rfl ?_
            refine Tr.aload_n (pc := 80) (i := 0) d_X6_go_80 rfl rfl ?_
            refine Tr.getf (pc := 81) d_X6_go_81 f_6_62 (by decide) (by decide) (ty_74 hS.1.1) ?_
            refine Tr.gen (P := fun v => (-2147483648) ≤ v ∧ v ≤ 2147483647) (ir_74_14 hS.1.2.1) (fun r81 er81 br81 => ?_)
            have J93 : ∀ (M : Mem), St Tru ws_X6_go_74_27_104 as_X6_go_74_27_104 M0 M → rd M 35 0 = g35_0 → rd M 74 1 = 27 → rd M 74 14 = r81 → rd M 74 9 = r71 → rd M 82 1 = 27 → Tr l K 5 mX6_go 93 [(0, (2, 74)), (5, (0, p13_5)), (7, (0, r59))] [] M (q_X6_go_74_27_104 M0) := by
              intro M  hS  k93_35_0 k93_74_1 k93_74_14 k93_74_9 k93_82_1
              refine Tr.iload (pc := 93) (i := 7) d_X6_go_93 rfl ?_
              refine Tr.istore (pc := 95) (i := 4) (ls2 := [(4, (0, r59)), (0, (2, 74)), (5, (0, p13_5)), (7, (0, r59))]) d_X6_go_95 (by decide) rfl ?_
              refine Tr.iincV (pc := 97) (n2 := (p13_5 + 1)) (ls2 := [(5, (0, (p13_5 + 1))), (4, (0, r59)), (0, (2, 74)), (7, (0, r59))]) d_X6_go_97 rfl (by decide) ((w32_id (by omega)).trans (by omega)) rfl ?_
              refine Tr.goto (pc := 100) (tgt := 13) d_X6_go_100 rfl ?_
              refine Tr.pick [2, 1, 0] (ls2 := [(0, (2, 74)), (4, (0, r59)), (5, (0, (p13_5 + 1)))]) rfl ?_
              exact J13 _ _ _ hS (by omega) (by omega) k93_35_0 k93_74_1 k93_82_1 (by omega)
            refine Tr.if_eq (pc := 84) (tgt := 93) d_X6_go_84 rfl (fun c84 => ?_) (fun c84 => ?_)
            · refine Tr.pick [2, 4, 0] (ls2 := [(0, (2, 74)), (5, (0, p13_5)), (7, (0, r59))]) rfl ?_
              exact J93 _ hS ((St.kp h77 (by decide) (by decide) (by decide)).trans ((St.kp h59 (by decide) (by decide) (by decide)).trans ((St.kp h47 (by decide) (by decide) (by decide)).trans k13_35_0))) ((St.kp h77 (by decide) (by decide) (by decide)).trans ((St.kp h59 (by decide) (by decide) (by decide)).trans ((St.kp h47 (by decide) (by decide) (by decide)).trans k13_74_1))) er81 ((St.kp h77 (by decide) (by decide) (by decide)).trans er71) ((St.kp h77 (by decide) (by decide) (by decide)).trans ((St.kp h59 (by decide) (by decide) (by decide)).trans ((St.kp h47 (by decide) (by decide) (by decide)).trans k13_82_1)))
            · refine Tr.aload_n (pc := 87) (i := 0) d_X6_go_87 rfl rfl ?_
              refine Tr.iload (pc := 88) (i := 4) d_X6_go_88 rfl ?_
              refine Tr.putfS (pc := 90) (P := St Tru ws_X6_go_74_27_104 as_X6_go_74_27_104 M0) d_X6_go_90 f_6_79 (by decide) (by decide) (ty_74 hS.1.1) (st_74_15 hS (by decide) (by omega) trivial) (fun M90 hS w90 => ?_)
              refine Tr.pick [2, 4, 0] (ls2 := [(0, (2, 74)), (5, (0, p13_5)), (7, (0, r59))]) rfl ?_
              exact J93 _ hS ((Wr.b w90 rfl).trans ((St.kp h77 (by decide) (by decide) (by decide)).trans ((St.kp h59 (by decide) (by decide) (by decide)).trans ((St.kp h47 (by decide) (by decide) (by decide)).trans k13_35_0)))) ((Wr.b w90 rfl).trans ((St.kp h77 (by decide) (by decide) (by decide)).trans ((St.kp h59 (by decide) (by decide) (by decide)).trans ((St.kp h47 (by decide) (by decide) (by decide)).trans k13_74_1)))) ((Wr.b w90 rfl).trans er81) ((Wr.b w90 rfl).trans ((St.kp h77 (by decide) (by decide) (by decide)).trans er71)) ((Wr.b w90 rfl).trans ((St.kp h77 (by decide) (by decide) (by decide)).trans ((St.kp h59 (by decide) (by decide) (by decide)).trans ((St.kp h47 (by decide) (by decide) (by decide)).trans k13_82_1))))
  refine Tr.pick [2, 1, 0] (ls2 := [(0, (2, 74)), (4, (0, 0)), (5, (0, 0))]) rfl ?_
  exact J13 _ _ _ _ hS (by omega) (by omega) ((St.kp h4 (by decide) (by decide) (by decide)).trans eg35_0) o4_74_1 o4_82_1 (Nat.lt_succ_self _)

def ws_X10_turnOn_103_27 : List (Int × Int) := []
def as_X10_turnOn_103_27 : List Int := [104]
def q_X10_turnOn_103_27 (M0 M' : Mem) (r : Option PV) : Prop := St Tru ws_X10_turnOn_103_27 as_X10_turnOn_103_27 M0 M' ∧ r = none
set_option maxRecDepth 100000 in
set_option maxHeartbeats 4000000 in
theorem sp_X10_turnOn_103_27 {l : Launch} {K : EC} {M0 : Mem} (hI : In Tru M0)    : Tr l K 0 mX10_turnOn 0 [(0, (2, 103)), (1, (2, 27))] [] M0 (q_X10_turnOn_103_27 M0) := by
  have hS : St Tru ws_X10_turnOn_103_27 as_X10_turnOn_103_27 M0 M0 := St.rf hI
  refine Tr.aload_n (pc := 0) (i := 1) d_X10_turnOn_0 rfl rfl ?_
  refine Tr.getf (pc := 1) d_X10_turnOn_1 f_10_25 (by decide) (by decide) (ty_27 hS.1.1) ?_
  refine Tr.tp 28 (fx_27_4 hS.1.1) ?_
  refine Tr.iconst (pc := 4) d_X10_turnOn_4 (by decide) ?_
  refine Tr.iald (pc := 5) d_X10_turnOn_5 (ty_28 hS.1.1) (by omega) (by omega) ?_
  refine Tr.gen (P := fun v => 0 ≤ v ∧ v ≤ 3) (ir_28_1 hS.1.2.1) (fun r5 er5 br5 => ?_)
  refine Tr.iconst (pc := 6) d_X10_turnOn_6 (by decide) ?_
  refine Tr.isub (pc := 7) d_X10_turnOn_7 ?_
  refine Tr.tp (r5 - 1) ((w32_id (by omega)).trans (by omega)) ?_
  refine Tr.istore_n (pc := 8) (i := 2) (ls2 := [(2, (0, (r5 - 1))), (0, (2, 103)), (1, (2, 27))]) d_X10_turnOn_8 rfl (by decide) rfl ?_
  have J9 : ∀ (n9 : Nat) (M : Mem) (p9_2 : Int), St Tru ws_X10_turnOn_103_27 as_X10_turnOn_103_27 M0 M → ((-1) ≤ p9_2 ∧ p9_2 ≤ 2) → rd M 28 1 = r5 → (p9_2 - (-1)).toNat < n9 → Tr l K 0 mX10_turnOn 9 [(0, (2, 103)), (1, (2, 27)), (2, (0, p9_2))] [] M (q_X10_turnOn_103_27 M0) := by
    intro n9
    induction n9 with
    | zero => intro M p9_2 hS bp9_2 k9_28_1 hm9; exact absurd hm9 (Nat.not_lt_zero _)
    | succ n9 J9 =>
      intro M p9_2 hS bp9_2 k9_28_1 hm9
      refine Tr.iload_n (pc := 9) (i := 2) d_X10_turnOn_9 rfl rfl ?_
      refine Tr.if_lt (pc := 10) (tgt := 57) d_X10_turnOn_10 rfl (fun c10 => ?_) (fun c10 => ?_)
      · exact Tr.vret (pc := 57) d_X10_turnOn_57 rfl ⟨hS, rfl⟩
      · refine Tr.aload_n (pc := 13) (i := 0) d_X10_turnOn_13 rfl rfl ?_
        refine Tr.getf (pc := 14) d_X10_turnOn_14 f_10_9 (by decide) (by decide) (ty_103 hS.1.1) ?_
        refine Tr.tp 104 (fx_103_4 hS.1.1) ?_
        refine Tr.iload_n (pc := 17) (i := 2) d_X10_turnOn_17 rfl rfl ?_
        refine Tr.iald (pc := 18) d_X10_turnOn_18 (ty_104 hS.1.1) (by omega) (by omega) ?_
        refine Tr.gen (P := fun v => (-2147483648) ≤ v ∧ v ≤ 2147483647) (ar_104 hS.1.2.1 _) (fun r18 er18 br18 => ?_)
        refine Tr.aload_n (pc := 19) (i := 1) d_X10_turnOn_19 rfl rfl ?_
        refine Tr.getf (pc := 20) d_X10_turnOn_20 f_10_30 (by decide) (by decide) (ty_27 hS.1.1) ?_
        refine Tr.tp 33 (fx_27_9 hS.1.1) ?_
        refine Tr.iload_n (pc := 23) (i := 2) d_X10_turnOn_23 rfl rfl ?_
        refine Tr.iald (pc := 24) d_X10_turnOn_24 (ty_33 hS.1.1) (by omega) (by omega) ?_
        refine Tr.gen (P := fun v => (-1) ≤ v ∧ v ≤ 99) (ar_33 hS.1.2.1 _) (fun r24 er24 br24 => ?_)
        refine Tr.icmp_ge (pc := 25) (tgt := 39) d_X10_turnOn_25 rfl (fun c25 => ?_) (fun c25 => ?_)
        · refine Tr.aload_n (pc := 39) (i := 0) d_X10_turnOn_39 rfl rfl ?_
          refine Tr.getf (pc := 40) d_X10_turnOn_40 f_10_9 (by decide) (by decide) (ty_103 hS.1.1) ?_
          refine Tr.tp 104 (fx_103_4 hS.1.1) ?_
          refine Tr.iload_n (pc := 43) (i := 2) d_X10_turnOn_43 rfl rfl ?_
          refine Tr.aload_n (pc := 44) (i := 1) d_X10_turnOn_44 rfl rfl ?_
          refine Tr.getf (pc := 45) d_X10_turnOn_45 f_10_33 (by decide) (by decide) (ty_27 hS.1.1) ?_
          refine Tr.tp 32 (fx_27_8 hS.1.1) ?_
          refine Tr.iload_n (pc := 48) (i := 2) d_X10_turnOn_48 rfl rfl ?_
          refine Tr.iald (pc := 49) d_X10_turnOn_49 (ty_32 hS.1.1) (by omega) (by omega) ?_
          refine Tr.gen (P := fun v => (-1) ≤ v ∧ v ≤ 99) (ar_32 hS.1.2.1 _) (fun r49 er49 br49 => ?_)
          refine Tr.iastS (pc := 50) (P := St Tru ws_X10_turnOn_103_27 as_X10_turnOn_103_27 M0) d_X10_turnOn_50 (ty_104 hS.1.1) (by omega) (by omega) (sa_104 hS (by decide) (by omega) trivial) (fun M50 hS w50 => ?_)
          refine Tr.iincV (pc := 51) (n2 := (p9_2 - 1)) (ls2 := [(2, (0, (p9_2 - 1))), (0, (2, 103)), (1, (2, 27))]) d_X10_turnOn_51 rfl (by decide) ((w32_id (by omega)).trans (by omega)) rfl ?_
          refine Tr.goto (pc := 54) (tgt := 9) d_X10_turnOn_54 rfl ?_
          refine Tr.pick [1, 2, 0] (ls2 := [(0, (2, 103)), (1, (2, 27)), (2, (0, (p9_2 - 1)))]) rfl ?_
          exact J9 _ _ hS (by omega) ((Wr.b w50 rfl).trans k9_28_1) (by omega)
        · refine Tr.aload_n (pc := 28) (i := 0) d_X10_turnOn_28 rfl rfl ?_
          refine Tr.getf (pc := 29) d_X10_turnOn_29 f_10_9 (by decide) (by decide) (ty_103 hS.1.1) ?_
          refine Tr.tp 104 (fx_103_4 hS.1.1) ?_
          refine Tr.iload_n (pc := 32) (i := 2) d_X10_turnOn_32 rfl rfl ?_
          refine Tr.dup2 (pc := 33) d_X10_turnOn_33 ne01 ne21 ?_
          refine Tr.iald (pc := 34) d_X10_turnOn_34 (ty_104 hS.1.1) (by omega) (by omega) ?_
          refine Tr.tp r18 er18 ?_
          refine Tr.iconst (pc := 35) d_X10_turnOn_35 (by decide) ?_
          refine Tr.iadd (pc := 36) d_X10_turnOn_36 ?_
          refine Tr.tp (r18 + 1) ((w32_id (by omega)).trans (by omega)) ?_
          refine Tr.iastS (pc := 37) (P := St Tru ws_X10_turnOn_103_27 as_X10_turnOn_103_27 M0) d_X10_turnOn_37 (ty_104 hS.1.1) (by omega) (by omega) (sa_104 hS (by decide) (by omega) trivial) (fun M37 hS w37 => ?_)
          exact Tr.vret (pc := 38) d_X10_turnOn_38 rfl ⟨hS, rfl⟩
  refine Tr.pick [1, 2, 0] (ls2 := [(0, (2, 103)), (1, (2, 27)), (2, (0, (r5 - 1)))]) rfl ?_
  exact J9 _ _ _ hS (by omega) er5 (Nat.lt_succ_self _)

def ws_X11_over_0_w1 : List (Int × Int) := [(74, 1), (74, 9), (74, 10), (74, 11), (74, 12), (74, 13), (74, 14), (74, 15), (74, 16), (74, 17), (82, 1), (103, 0), (103, 1), (103, 2), (103, 3)]
def as_X11_over_0_w1 : List Int := [75, 76, 77, 78, 79, 80, 81, 83, 104, 105, 106]
def q_X11_over_0_w1 (M0 M' : Mem) (r : Option PV) : Prop := St Tru ws_X11_over_0_w1 as_X11_over_0_w1 M0 M' ∧ ∃ v : Int, r = some (0, v) ∧ (-2147483648) ≤ v ∧ v ≤ 2147483647
set_option maxRecDepth 100000 in
set_option maxHeartbeats 4000000 in
theorem sp_X11_over_0_w1 {l : Launch} {K : EC} {M0 : Mem} (hI : In Tru M0) (en_0_4 : rd M0 0 4 = 27) (a1 : Int) (ha1 : 0 ≤ a1 ∧ a1 ≤ 1)  (hF_Y35 : Yn35 M0) : Tr l K 6 mX11_over 0 [(0, (2, 0)), (1, (0, a1))] [] M0 (q_X11_over_0_w1 M0) := by
  have hS : St Tru ws_X11_over_0_w1 as_X11_over_0_w1 M0 M0 := St.rf hI
  refine Tr.aload_n (pc := 0) (i := 0) d_X11_over_0 rfl rfl ?_
  refine Tr.getf (pc := 1) d_X11_over_1 f_11_63 (by decide) (by decide) (ty_0 hS.1.1) ?_
  refine Tr.tp 103 (fx_0_11 hS.1.1) ?_
  refine Tr.aload_n (pc := 4) (i := 0) d_X11_over_4 rfl rfl ?_
  refine Tr.getf (pc := 5) d_X11_over_5 f_11_30 (by decide) (by decide) (ty_0 hS.1.1) ?_
  refine Tr.tp 27 ((St.kp hS (by decide) (by decide) (by decide)).trans en_0_4) ?_
  refine Tr.callV (pc := 8) (as := [_]) d_X11_over_8 s_11_249 ok_X10_begin rfl rfl (Nat.le_of_ble_eq_true rfl) (Nat.le_of_ble_eq_true rfl) (by decide) (ty_103 hS.1.1) ?_
  refine Tr.imp (Tr.deep (by decide) (sp_X10_begin_103_27 hS.1 )) ?_
  rintro M8 _ ⟨h8, r8, rfl, lr8, ur8⟩
  have hS := St.tr hS h8 (by decide) (by decide)
  refine Tr.sc [(0, r8)] rfl ?_
  refine Tr.istore_n (pc := 11) (i := 2) (ls2 := [(2, (0, r8)), (0, (2, 0)), (1, (0, a1))]) d_X11_over_11 rfl (by decide) rfl ?_
  refine Tr.iload_n (pc := 12) (i := 2) d_X11_over_12 rfl rfl ?_
  refine Tr.sipush (pc := 13) d_X11_over_13 rfl (by decide) ?_
  refine Tr.icmp_le (pc := 16) (tgt := 21) d_X11_over_16 rfl (fun c16 => ?_) (fun c16 => ?_)
  · refine Tr.iconst (pc := 21) d_X11_over_21 (by decide) ?_
    refine Tr.istore_n (pc := 22) (i := 3) (ls2 := [(3, (0, 0)), (2, (0, r8)), (0, (2, 0)), (1, (0, a1))]) d_X11_over_22 rfl (by decide) rfl ?_
    have J23 : ∀ (n23 : Nat) (M : Mem) (p23_3 : Int), St Tru ws_X11_over_0_w1 as_X11_over_0_w1 M0 M → (0 ≤ p23_3 ∧ p23_3 ≤ 256) → (256 - p23_3).toNat < n23 → Tr l K 6 mX11_over 23 [(0, (2, 0)), (1, (0, a1)), (2, (0, r8)), (3, (0, p23_3))] [] M (q_X11_over_0_w1 M0) := by
      intro n23
      induction n23 with
      | zero => intro M p23_3 hS bp23_3  hm23; exact absurd hm23 (Nat.not_lt_zero _)
      | succ n23 J23 =>
        intro M p23_3 hS bp23_3  hm23
        refine Tr.iload_n (pc := 23) (i := 3) d_X11_over_23 rfl rfl ?_
        refine Tr.iload_n (pc := 24) (i := 2) d_X11_over_24 rfl rfl ?_
        refine Tr.icmp_ge (pc := 25) (tgt := 87) d_X11_over_25 rfl (fun c25 => ?_) (fun c25 => ?_)
        · refine Tr.aload_n (pc := 87) (i := 0) d_X11_over_87 rfl rfl ?_
          refine Tr.getf (pc := 88) d_X11_over_88 f_11_63 (by decide) (by decide) (ty_0 hS.1.1) ?_
          refine Tr.tp 103 (fx_0_11 hS.1.1) ?_
          refine Tr.iload_n (pc := 91) (i := 1) d_X11_over_91 rfl rfl ?_
          refine Tr.callV (pc := 92) (as := [_]) d_X11_over_92 s_11_264 ok_X10_choose rfl rfl (Nat.le_of_ble_eq_true rfl) (Nat.le_of_ble_eq_true rfl) (by decide) (ty_103 hS.1.1) ?_
          refine Tr.imp (Tr.deep (by decide) (sp_X10_choose_103 hS.1 a1 (by omega))) ?_
          rintro M92 _ ⟨h92, r92, rfl, lr92, ur92⟩
          have hS := St.tr hS h92 (by decide) (by decide)
          refine Tr.sc [(0, r92)] rfl ?_
          exact Tr.iret (pc := 95) d_X11_over_95 rfl ⟨hS, _, rfl, by omega, by omega⟩
        · refine Tr.aload_n (pc := 28) (i := 0) d_X11_over_28 rfl rfl ?_
          refine Tr.getf (pc := 29) d_X11_over_29 f_11_50 (by decide) (by decide) (ty_0 hS.1.1) ?_
          refine Tr.tp 74 (fx_0_8 hS.1.1) ?_
          refine Tr.aload_n (pc := 32) (i := 0) d_X11_over_32 rfl rfl ?_
          refine Tr.getf (pc := 33) d_X11_over_33 f_11_30 (by decide) (by decide) (ty_0 hS.1.1) ?_
          refine Tr.tp 27 ((St.kp hS (by decide) (by decide) (by decide)).trans en_0_4) ?_
          refine Tr.aload_n (pc := 36) (i := 0) d_X11_over_36 rfl rfl ?_
          refine Tr.getf (pc := 37) d_X11_over_37 f_11_63 (by decide) (by decide) (ty_0 hS.1.1) ?_
          refine Tr.tp 103 (fx_0_11 hS.1.1) ?_
          refine Tr.getf (pc := 40) d_X11_over_40 f_11_253 (by decide) (by decide) (ty_103 hS.1.1) ?_
          refine Tr.tp 104 (fx_103_4 hS.1.1) ?_
          refine Tr.iconst (pc := 43) d_X11_over_43 (by decide) ?_
          refine Tr.callV (pc := 44) (as := [_, _, _]) d_X11_over_44 s_11_144 ok_X6_go rfl rfl (Nat.le_of_ble_eq_true rfl) (Nat.le_of_ble_eq_true rfl) (by decide) (ty_74 hS.1.1) ?_
          refine Tr.imp (Tr.deep (by decide) (sp_X6_go_74_27_104 hS.1 (-1) (by omega) (Yn35.of hF_Y35 (fun j => (St.ka hS (by decide) (by decide) (by decide))) (fun j => (St.ka hS (by decide) (by decide) (by decide))) (St.kp hS (by decide) (by decide) (by decide))))) ?_
          rintro M44 _ ⟨h44, o44_74_1, o44_82_1, rfl⟩
          have hS := St.tr hS h44 (by decide) (by decide)
          refine Tr.sc [] rfl ?_
          refine Tr.aload_n (pc := 47) (i := 0) d_X11_over_47 rfl rfl ?_
          refine Tr.getf (pc := 48) d_X11_over_48 f_11_63 (by decide) (by decide) (ty_0 hS.1.1) ?_
          refine Tr.tp 103 (fx_0_11 hS.1.1) ?_
          refine Tr.aload_n (pc := 51) (i := 0) d_X11_over_51 rfl rfl ?_
          refine Tr.getf (pc := 52) d_X11_over_52 f_11_50 (by decide) (by decide) (ty_0 hS.1.1) ?_
          refine Tr.tp 74 (fx_0_8 hS.1.1) ?_
          refine Tr.getf (pc := 55) d_X11_over_55 f_11_155 (by decide) (by decide) (ty_74 hS.1.1) ?_
          refine Tr.gen (P := fun v => (-2147483648) ≤ v ∧ v ≤ 2147483647) (ir_74_10 hS.1.2.1) (fun r55 er55 br55 => ?_)
          refine Tr.iload_n (pc := 58) (i := 3) d_X11_over_58 rfl rfl ?_
          have J67 : ∀ (M : Mem) (q67_2 : Int), St Tru ws_X11_over_0_w1 as_X11_over_0_w1 M0 M → (0 ≤ q67_2 ∧ q67_2 ≤ 1) → rd M 74 1 = 27 → rd M 74 10 = r55 → rd M 82 1 = 27 → Tr l K 6 mX11_over 67 [(0, (2, 0)), (1, (0, a1)), (2, (0, r8)), (3, (0, p23_3))] [(0, q67_2), (0, r55), (2, 103)] M (q_X11_over_0_w1 M0) := by
            intro M q67_2 hS bq67_2 k67_74_1 k67_74_10 k67_82_1
            refine Tr.callV (pc := 67) (as := [_, _]) d_X11_over_67 s_11_256 ok_X10_compare rfl rfl (Nat.le_of_ble_eq_true rfl) (Nat.le_of_ble_eq_true rfl) (by decide) (ty_103 hS.1.1) ?_
            refine Tr.imp (Tr.deep (by decide) (sp_X10_compare_103_w1 hS.1 r55 (by omega) q67_2 (by omega))) ?_
            rintro M67 _ ⟨h67, rfl⟩
            have hS := St.tr hS h67 (by decide) (by decide)
            refine Tr.sc [] rfl ?_
            refine Tr.aload_n (pc := 70) (i := 0) d_X11_over_70 rfl rfl ?_
            refine Tr.getf (pc := 71) d_X11_over_71 f_11_63 (by decide) (by decide) (ty_0 hS.1.1) ?_
            refine Tr.tp 103 (fx_0_11 hS.1.1) ?_
            refine Tr.aload_n (pc := 74) (i := 0) d_X11_over_74 rfl rfl ?_
            refine Tr.getf (pc := 75) d_X11_over_75 f_11_30 (by decide) (by decide) (ty_0 hS.1.1) ?_
            refine Tr.tp 27 ((St.kp hS (by decide) (by decide) (by decide)).trans en_0_4) ?_
            refine Tr.callV (pc := 78) (as := [_]) d_X11_over_78 s_11_260 ok_X10_turnOn rfl rfl (Nat.le_of_ble_eq_true rfl) (Nat.le_of_ble_eq_true rfl) (by decide) (ty_103 hS.1.1) ?_
            refine Tr.imp (Tr.deep (by decide) (sp_X10_turnOn_103_27 hS.1 )) ?_
            rintro M78 _ ⟨h78, rfl⟩
            have hS := St.tr hS h78 (by decide) (by decide)
            refine Tr.sc [] rfl ?_
            refine Tr.iincV (pc := 81) (n2 := (p23_3 + 1)) (ls2 := [(3, (0, (p23_3 + 1))), (0, (2, 0)), (1, (0, a1)), (2, (0, r8))]) d_X11_over_81 rfl (by decide) ((w32_id (by omega)).trans (by omega)) rfl ?_
            refine Tr.goto (pc := 84) (tgt := 23) d_X11_over_84 rfl ?_
            refine Tr.pick [1, 2, 3, 0] (ls2 := [(0, (2, 0)), (1, (0, a1)), (2, (0, r8)), (3, (0, (p23_3 + 1)))]) rfl ?_
            exact J23 _ _ hS (by omega) (by omega)
          refine Tr.if_ne (pc := 59) (tgt := 66) d_X11_over_59 rfl (fun c59 => ?_) (fun c59 => ?_)
          · refine Tr.iconst (pc := 66) d_X11_over_66 (by decide) ?_
            refine Tr.pick [0, 1, 2, 3] (ls2 := [(0, (2, 0)), (1, (0, a1)), (2, (0, r8)), (3, (0, p23_3))]) rfl ?_
            exact J67 _ _ hS (by omega) o44_74_1 er55 o44_82_1
          · refine Tr.iconst (pc := 62) d_X11_over_62 (by decide) ?_
            refine Tr.goto (pc := 63) (tgt := 67) d_X11_over_63 rfl ?_
            refine Tr.pick [0, 1, 2, 3] (ls2 := [(0, (2, 0)), (1, (0, a1)), (2, (0, r8)), (3, (0, p23_3))]) rfl ?_
            exact J67 _ _ hS (by omega) o44_74_1 er55 o44_82_1
    refine Tr.pick [2, 3, 1, 0] (ls2 := [(0, (2, 0)), (1, (0, a1)), (2, (0, r8)), (3, (0, 0))]) rfl ?_
    exact J23 _ _ _ hS (by omega) (Nat.lt_succ_self _)
  · refine Tr.iconst (pc := 19) d_X11_over_19 (by decide) ?_
    exact Tr.iret (pc := 20) d_X11_over_20 rfl ⟨hS, _, rfl, by omega, by omega⟩

def ws_X1_begin_56_27 : List (Int × Int) := [(56, 1), (63, 0), (63, 7)]
def as_X1_begin_56_27 : List Int := [57, 58, 59, 60, 61, 62, 69]
def q_X1_begin_56_27 (M0 M' : Mem) (r : Option PV) : Prop := St Tru ws_X1_begin_56_27 as_X1_begin_56_27 M0 M' ∧ rd M' 56 1 = 27 ∧ r = none ∧ (rd M' 63 7 = 0) ∧ Rn M'
set_option maxRecDepth 100000 in
set_option maxHeartbeats 4000000 in
theorem sp_X1_begin_56_27 {l : Launch} {K : EC} {M0 : Mem} (hI : In Tru M0)    : Tr l K 2 mX1_begin 0 [(0, (2, 56)), (1, (2, 27))] [] M0 (q_X1_begin_56_27 M0) := by
  have hS : St Tru ws_X1_begin_56_27 as_X1_begin_56_27 M0 M0 := St.rf hI
  refine Tr.aload_n (pc := 0) (i := 0) d_X1_begin_0 rfl rfl ?_
  refine Tr.aload_n (pc := 1) (i := 1) d_X1_begin_1 rfl rfl ?_
  refine Tr.putfS (pc := 2) (P := St Tru ws_X1_begin_56_27 as_X1_begin_56_27 M0) d_X1_begin_2 f_1_41 (by decide) (by decide) (ty_56 hS.1.1) (st_56_1 hS (by decide) (by omega) trivial) (fun M2 hS w2 => ?_)
  refine Tr.aload_n (pc := 5) (i := 0) d_X1_begin_5 rfl rfl ?_
  refine Tr.getf (pc := 6) d_X1_begin_6 f_1_9 (by decide) (by decide) (ty_56 hS.1.1) ?_
  refine Tr.tp 57 (fx_56_2 hS.1.1) ?_
  refine Tr.iconst (pc := 9) d_X1_begin_9 (by decide) ?_
  refine Tr.callS (pc := 10) (as := [_, _]) d_X1_begin_10 s_1_45 ok_J7_fill_53178 rfl rfl (Nat.le_of_ble_eq_true rfl) (Nat.le_of_ble_eq_true rfl) ?_
  refine Tr.imp (sp_fill (N := 24) (ty_57 hS.1.1) (by decide)) ?_
  rintro _ _ ⟨rfl, rfl⟩
  refine Tr.nmA (P := St Tru ws_X1_begin_56_27 as_X1_begin_56_27 M0) (sf_57 (v := 0) 24 hS (by decide) (by omega) trivial) (fil_wa _ _ _ _) (fun M10 hS w10 => ?_)
  refine Tr.sc [] rfl ?_
  refine Tr.aload_n (pc := 13) (i := 0) d_X1_begin_13 rfl rfl ?_
  refine Tr.getz (pc := 14) d_X1_begin_14 f_1_37 (by decide) (ty_56 hS.1.1) ?_
  refine Tr.tp 1 (fx_56_0 hS.1.1) ?_
  refine Tr.if_eq (pc := 17) (tgt := 67) d_X1_begin_17 rfl (fun hc => absurd hc (by omega)) (fun _ => ?_)
  refine Tr.aload_n (pc := 20) (i := 0) d_X1_begin_20 rfl rfl ?_
  refine Tr.getf (pc := 21) d_X1_begin_21 f_1_15 (by decide) (by decide) (ty_56 hS.1.1) ?_
  refine Tr.tp 58 (fx_56_3 hS.1.1) ?_
  refine Tr.iconst (pc := 24) d_X1_begin_24 (by decide) ?_
  refine Tr.callS (pc := 25) (as := [_, _]) d_X1_begin_25 s_1_45 ok_J7_fill_53178 rfl rfl (Nat.le_of_ble_eq_true rfl) (Nat.le_of_ble_eq_true rfl) ?_
  refine Tr.imp (sp_fill (N := 6) (ty_58 hS.1.1) (by decide)) ?_
  rintro _ _ ⟨rfl, rfl⟩
  refine Tr.nmA (P := St Tru ws_X1_begin_56_27 as_X1_begin_56_27 M0) (sf_58 (v := (-1)) 6 hS (by decide) (by omega) trivial) (fil_wa _ _ _ _) (fun M25 hS w25 => ?_)
  refine Tr.sc [] rfl ?_
  refine Tr.aload_n (pc := 28) (i := 0) d_X1_begin_28 rfl rfl ?_
  refine Tr.getf (pc := 29) d_X1_begin_29 f_1_18 (by decide) (by decide) (ty_56 hS.1.1) ?_
  refine Tr.tp 59 (fx_56_4 hS.1.1) ?_
  refine Tr.iconst (pc := 32) d_X1_begin_32 (by decide) ?_
  refine Tr.callS (pc := 33) (as := [_, _]) d_X1_begin_33 s_1_45 ok_J7_fill_53178 rfl rfl (Nat.le_of_ble_eq_true rfl) (Nat.le_of_ble_eq_true rfl) ?_
  refine Tr.imp (sp_fill (N := 6) (ty_59 hS.1.1) (by decide)) ?_
  rintro _ _ ⟨rfl, rfl⟩
  refine Tr.nmA (P := St Tru ws_X1_begin_56_27 as_X1_begin_56_27 M0) (sf_59 (v := (-1)) 6 hS (by decide) (by omega) trivial) (fil_wa _ _ _ _) (fun M33 hS w33 => ?_)
  refine Tr.sc [] rfl ?_
  refine Tr.aload_n (pc := 36) (i := 0) d_X1_begin_36 rfl rfl ?_
  refine Tr.getf (pc := 37) d_X1_begin_37 f_1_21 (by decide) (by decide) (ty_56 hS.1.1) ?_
  refine Tr.tp 60 (fx_56_5 hS.1.1) ?_
  refine Tr.iconst (pc := 40) d_X1_begin_40 (by decide) ?_
  refine Tr.callS (pc := 41) (as := [_, _]) d_X1_begin_41 s_1_45 ok_J7_fill_53178 rfl rfl (Nat.le_of_ble_eq_true rfl) (Nat.le_of_ble_eq_true rfl) ?_
  refine Tr.imp (sp_fill (N := 60) (ty_60 hS.1.1) (by decide)) ?_
  rintro _ _ ⟨rfl, rfl⟩
  refine Tr.nmA (P := St Tru ws_X1_begin_56_27 as_X1_begin_56_27 M0) (sf_60 (v := 0) 60 hS (by decide) (by omega) trivial) (fil_wa _ _ _ _) (fun M41 hS w41 => ?_)
  refine Tr.sc [] rfl ?_
  refine Tr.aload_n (pc := 44) (i := 0) d_X1_begin_44 rfl rfl ?_
  refine Tr.getf (pc := 45) d_X1_begin_45 f_1_24 (by decide) (by decide) (ty_56 hS.1.1) ?_
  refine Tr.tp 61 (fx_56_6 hS.1.1) ?_
  refine Tr.iconst (pc := 48) d_X1_begin_48 (by decide) ?_
  refine Tr.callS (pc := 49) (as := [_, _]) d_X1_begin_49 s_1_45 ok_J7_fill_53178 rfl rfl (Nat.le_of_ble_eq_true rfl) (Nat.le_of_ble_eq_true rfl) ?_
  refine Tr.imp (sp_fill (N := 60) (ty_61 hS.1.1) (by decide)) ?_
  rintro _ _ ⟨rfl, rfl⟩
  refine Tr.nmA (P := St Tru ws_X1_begin_56_27 as_X1_begin_56_27 M0) (sf_61 (v := 0) 60 hS (by decide) (by omega) trivial) (fil_wa _ _ _ _) (fun M49 hS w49 => ?_)
  refine Tr.sc [] rfl ?_
  refine Tr.aload_n (pc := 52) (i := 0) d_X1_begin_52 rfl rfl ?_
  refine Tr.getf (pc := 53) d_X1_begin_53 f_1_27 (by decide) (by decide) (ty_56 hS.1.1) ?_
  refine Tr.tp 62 (fx_56_7 hS.1.1) ?_
  refine Tr.iconst (pc := 56) d_X1_begin_56 (by decide) ?_
  refine Tr.callS (pc := 57) (as := [_, _]) d_X1_begin_57 s_1_45 ok_J7_fill_53178 rfl rfl (Nat.le_of_ble_eq_true rfl) (Nat.le_of_ble_eq_true rfl) ?_
  refine Tr.imp (sp_fill (N := 60) (ty_62 hS.1.1) (by decide)) ?_
  rintro _ _ ⟨rfl, rfl⟩
  refine Tr.nmA (P := St Tru ws_X1_begin_56_27 as_X1_begin_56_27 M0) (sf_62 (v := 0) 60 hS (by decide) (by omega) trivial) (fil_wa _ _ _ _) (fun M57 hS w57 => ?_)
  refine Tr.sc [] rfl ?_
  refine Tr.aload_n (pc := 60) (i := 0) d_X1_begin_60 rfl rfl ?_
  refine Tr.getf (pc := 61) d_X1_begin_61 f_1_33 (by decide) (by decide) (ty_56 hS.1.1) ?_
  refine Tr.tp 63 (fx_56_8 hS.1.1) ?_
  refine Tr.callV (pc := 64) (as := []) d_X1_begin_64 s_1_51 ok_X8_clear rfl rfl (Nat.le_of_ble_eq_true rfl) (Nat.le_of_ble_eq_true rfl) (by decide) (ty_63 hS.1.1) ?_
  refine Tr.imp (Tr.deep (by decide) (sp_X8_clear_63 hS.1 )) ?_
  rintro M64 _ ⟨h64, rfl, z64_0, f64_Rn⟩
  have hS := St.tr hS h64 (by decide) (by decide)
  obtain ⟨s64_63_7, es64_63_7⟩ : ∃ v, rd M64 63 7 = v := ⟨_, rfl⟩
  have bs64_63_7 : (-2147483648) ≤ s64_63_7 ∧ s64_63_7 ≤ 2147483647 := by rw [← es64_63_7]; exact ir_63_7 hS.1.2.1
  have hS := St.rn hS f64_Rn
  refine Tr.sc [] rfl ?_
  have kr_63_7 : rd M64 63 7 = s64_63_7 := es64_63_7
  have hS := hS.wk
  exact Tr.vret (pc := 67) d_X1_begin_67 rfl ⟨hS, ((St.kp h64 (by decide) (by decide) (by decide)).trans ((Wa.b w57 rfl).trans ((Wa.b w49 rfl).trans ((Wa.b w41 rfl).trans ((Wa.b w33 rfl).trans ((Wa.b w25 rfl).trans ((Wa.b w10 rfl).trans w2.1))))))), rfl, by omega, f64_Rn⟩

def ws_X6_begin_48_27_47 : List (Int × Int) := [(48, 1), (48, 9), (48, 11), (48, 12), (48, 13), (48, 14), (48, 15), (48, 16), (48, 17), (56, 1), (63, 0), (63, 7)]
def as_X6_begin_48_27_47 : List Int := [49, 50, 52, 53, 54, 55, 57, 58, 59, 60, 61, 62, 69]
def q_X6_begin_48_27_47 (a3 : Int) (M0 M' : Mem) (r : Option PV) : Prop := St Tru ws_X6_begin_48_27_47 as_X6_begin_48_27_47 M0 M' ∧ rd M' 48 1 = 27 ∧ rd M' 56 1 = 27 ∧ r = none ∧ (rd M' 63 7 = 0) ∧ Rn M'
set_option maxRecDepth 100000 in
set_option maxHeartbeats 4000000 in
theorem sp_X6_begin_48_27_47 {l : Launch} {K : EC} {M0 : Mem} (hI : In Tru M0)  (a3 : Int) (ha3 : (-1) ≤ a3 ∧ a3 ≤ 2147483647)  : Tr l K 3 mX6_begin 0 [(0, (2, 48)), (1, (2, 27)), (2, (2, 47)), (3, (0, a3))] [] M0 (q_X6_begin_48_27_47 a3 M0) := by
  have hS : St Tru ws_X6_begin_48_27_47 as_X6_begin_48_27_47 M0 M0 := St.rf hI
  refine Tr.aload_n (pc := 0) (i := 0) d_X6_begin_0 rfl rfl ?_
  refine Tr.aload_n (pc := 1) (i := 1) d_X6_begin_1 rfl rfl ?_
  refine Tr.putfS (pc := 2) (P := St Tru ws_X6_begin_48_27_47 as_X6_begin_48_27_47 M0) d_X6_begin_2 f_6_46 (by decide) (by decide) (ty_48 hS.1.1) (st_48_1 hS (by decide) (by omega) trivial) (fun M2 hS w2 => ?_)
  refine Tr.aload_n (pc := 5) (i := 2) d_X6_begin_5 rfl rfl ?_
  refine Tr.iconst (pc := 6) d_X6_begin_6 (by decide) ?_
  refine Tr.aload_n (pc := 7) (i := 0) d_X6_begin_7 rfl rfl ?_
  refine Tr.getf (pc := 8) d_X6_begin_8 f_6_9 (by decide) (by decide) (ty_48 hS.1.1) ?_
  refine Tr.tp 49 (fx_48_2 hS.1.1) ?_
  refine Tr.iconst (pc := 11) d_X6_begin_11 (by decide) ?_
  refine Tr.iconst (pc := 12) d_X6_begin_12 (by decide) ?_
  refine Tr.acopyS (pc := 13) (x := 47) (y := 49) (P := St Tru ws_X6_begin_48_27_47 as_X6_begin_48_27_47 M0) d_X6_begin_13 ac_6_85 acw.1 acw.2.1 acw.2.2 (ty_47 hS.1.1) (ty_49 hS.1.1) (by omega) (by omega) (by omega) (by omega) (by omega) (Nat.le_of_ble_eq_true rfl) (sw_49 hS (by decide) rfl rfl rfl (fun z i hz => by rw [rd_cpy, if_neg (fun c => hz c.1)]) (fun i => by rw [rd_cpy]; split; exact And.intro (by have := ar_47 hS.1.2.1 (0 + (i - 0)); omega) (by have := ar_47 hS.1.2.1 (0 + (i - 0)); omega); exact ar_49 hS.1.2.1 i) trivial) (fun M13 hS w13 => ?_)
  refine Tr.aload_n (pc := 16) (i := 0) d_X6_begin_16 rfl rfl ?_
  refine Tr.getf (pc := 17) d_X6_begin_17 f_6_15 (by decide) (by decide) (ty_48 hS.1.1) ?_
  refine Tr.tp 50 (fx_48_3 hS.1.1) ?_
  refine Tr.iconst (pc := 20) d_X6_begin_20 (by decide) ?_
  refine Tr.callS (pc := 21) (as := [_, _]) d_X6_begin_21 s_6_91 ok_J7_fill_53178 rfl rfl (Nat.le_of_ble_eq_true rfl) (Nat.le_of_ble_eq_true rfl) ?_
  refine Tr.imp (sp_fill (N := 6) (ty_50 hS.1.1) (by decide)) ?_
  rintro _ _ ⟨rfl, rfl⟩
  refine Tr.nmA (P := St Tru ws_X6_begin_48_27_47 as_X6_begin_48_27_47 M0) (sf_50 (v := 0) 6 hS (by decide) (by omega) trivial) (fil_wa _ _ _ _) (fun M21 hS w21 => ?_)
  refine Tr.sc [] rfl ?_
  refine Tr.aload_n (pc := 24) (i := 0) d_X6_begin_24 rfl rfl ?_
  refine Tr.getf (pc := 25) d_X6_begin_25 f_6_21 (by decide) (by decide) (ty_48 hS.1.1) ?_
  refine Tr.tp 52 (fx_48_5 hS.1.1) ?_
  refine Tr.iconst (pc := 28) d_X6_begin_28 (by decide) ?_
  refine Tr.callS (pc := 29) (as := [_, _]) d_X6_begin_29 s_6_91 ok_J7_fill_53178 rfl rfl (Nat.le_of_ble_eq_true rfl) (Nat.le_of_ble_eq_true rfl) ?_
  refine Tr.imp (sp_fill (N := 8) (ty_52 hS.1.1) (by decide)) ?_
  rintro _ _ ⟨rfl, rfl⟩
  refine Tr.nmA (P := St Tru ws_X6_begin_48_27_47 as_X6_begin_48_27_47 M0) (sf_52 (v := (-1)) 8 hS (by decide) (by omega) trivial) (fil_wa _ _ _ _) (fun M29 hS w29 => ?_)
  refine Tr.sc [] rfl ?_
  refine Tr.aload_n (pc := 32) (i := 0) d_X6_begin_32 rfl rfl ?_
  refine Tr.getf (pc := 33) d_X6_begin_33 f_6_24 (by decide) (by decide) (ty_48 hS.1.1) ?_
  refine Tr.tp 53 (fx_48_6 hS.1.1) ?_
  refine Tr.iconst (pc := 36) d_X6_begin_36 (by decide) ?_
  refine Tr.callS (pc := 37) (as := [_, _]) d_X6_begin_37 s_6_91 ok_J7_fill_53178 rfl rfl (Nat.le_of_ble_eq_true rfl) (Nat.le_of_ble_eq_true rfl) ?_
  refine Tr.imp (sp_fill (N := 6) (ty_53 hS.1.1) (by decide)) ?_
  rintro _ _ ⟨rfl, rfl⟩
  refine Tr.nmA (P := St Tru ws_X6_begin_48_27_47 as_X6_begin_48_27_47 M0) (sf_53 (v := 0) 6 hS (by decide) (by omega) trivial) (fil_wa _ _ _ _) (fun M37 hS w37 => ?_)
  refine Tr.sc [] rfl ?_
  refine Tr.aload_n (pc := 40) (i := 0) d_X6_begin_40 rfl rfl ?_
  refine Tr.getf (pc := 41) d_X6_begin_41 f_6_27 (by decide) (by decide) (ty_48 hS.1.1) ?_
  refine Tr.tp 54 (fx_48_7 hS.1.1) ?_
  refine Tr.iconst (pc := 44) d_X6_begin_44 (by decide) ?_
  refine Tr.callS (pc := 45) (as := [_, _]) d_X6_begin_45 s_6_91 ok_J7_fill_53178 rfl rfl (Nat.le_of_ble_eq_true rfl) (Nat.le_of_ble_eq_true rfl) ?_
  refine Tr.imp (sp_fill (N := 6) (ty_54 hS.1.1) (by decide)) ?_
  rintro _ _ ⟨rfl, rfl⟩
  refine Tr.nmA (P := St Tru ws_X6_begin_48_27_47 as_X6_begin_48_27_47 M0) (sf_54 (v := 0) 6 hS (by decide) (by omega) trivial) (fil_wa _ _ _ _) (fun M45 hS w45 => ?_)
  refine Tr.sc [] rfl ?_
  refine Tr.aload_n (pc := 48) (i := 0) d_X6_begin_48 rfl rfl ?_
  refine Tr.getf (pc := 49) d_X6_begin_49 f_6_30 (by decide) (by decide) (ty_48 hS.1.1) ?_
  refine Tr.tp 55 (fx_48_8 hS.1.1) ?_
  refine Tr.iconst (pc := 52) d_X6_begin_52 (by decide) ?_
  refine Tr.callS (pc := 53) (as := [_, _]) d_X6_begin_53 s_6_91 ok_J7_fill_53178 rfl rfl (Nat.le_of_ble_eq_true rfl) (Nat.le_of_ble_eq_true rfl) ?_
  refine Tr.imp (sp_fill (N := 6) (ty_55 hS.1.1) (by decide)) ?_
  rintro _ _ ⟨rfl, rfl⟩
  refine Tr.nmA (P := St Tru ws_X6_begin_48_27_47 as_X6_begin_48_27_47 M0) (sf_55 (v := 0) 6 hS (by decide) (by omega) trivial) (fil_wa _ _ _ _) (fun M53 hS w53 => ?_)
  refine Tr.sc [] rfl ?_
  refine Tr.aload_n (pc := 56) (i := 0) d_X6_begin_56 rfl rfl ?_
  refine Tr.iconst (pc := 57) d_X6_begin_57 (by decide) ?_
  refine Tr.putfS (pc := 58) (P := St Tru ws_X6_begin_48_27_47 as_X6_begin_48_27_47 M0) d_X6_begin_58 f_6_68 (by decide) (by decide) (ty_48 hS.1.1) (st_48_9 hS (by decide) (by omega) trivial) (fun M58 hS w58 => ?_)
  refine Tr.aload_n (pc := 61) (i := 0) d_X6_begin_61 rfl rfl ?_
  refine Tr.iconst (pc := 62) d_X6_begin_62 (by decide) ?_
  refine Tr.putfS (pc := 63) (P := St Tru ws_X6_begin_48_27_47 as_X6_begin_48_27_47 M0) d_X6_begin_63 f_6_97 (by decide) (by decide) (ty_48 hS.1.1) (st_48_11 hS (by decide) (by omega) trivial) (fun M63 hS w63 => ?_)
  refine Tr.aload_n (pc := 66) (i := 0) d_X6_begin_66 rfl rfl ?_
  refine Tr.iconst (pc := 67) d_X6_begin_67 (by decide) ?_
  refine Tr.putfS (pc := 68) (P := St Tru ws_X6_begin_48_27_47 as_X6_begin_48_27_47 M0) d_X6_begin_68 f_6_100 (by decide) (by decide) (ty_48 hS.1.1) (st_48_12 hS (by decide) (by omega) trivial) (fun M68 hS w68 => ?_)
  refine Tr.aload_n (pc := 71) (i := 0) d_X6_begin_71 rfl rfl ?_
  refine Tr.iconst (pc := 72) d_X6_begin_72 (by decide) ?_
  refine Tr.putfS (pc := 73) (P := St Tru ws_X6_begin_48_27_47 as_X6_begin_48_27_47 M0) d_X6_begin_73 f_6_103 (by decide) (by decide) (ty_48 hS.1.1) (st_48_13 hS (by decide) (by omega) trivial) (fun M73 hS w73 => ?_)
  refine Tr.aload_n (pc := 76) (i := 0) d_X6_begin_76 rfl rfl ?_
  refine Tr.iconst (pc := 77) d_X6_begin_77 (by decide) ?_
  refine Tr.putfS (pc := 78) (P := St Tru ws_X6_begin_48_27_47 as_X6_begin_48_27_47 M0) d_X6_begin_78 f_6_62 (by decide) (by decide) (ty_48 hS.1.1) (st_48_14 hS (by decide) (by omega) trivial) (fun M78 hS w78 => ?_)
  refine Tr.aload_n (pc := 81) (i := 0) d_X6_begin_81 rfl rfl ?_
  refine Tr.iconst (pc := 82) d_X6_begin_82 (by decide) ?_
  refine Tr.putfS (pc := 83) (P := St Tru ws_X6_begin_48_27_47 as_X6_begin_48_27_47 M0) d_X6_begin_83 f_6_79 (by decide) (by decide) (ty_48 hS.1.1) (st_48_15 hS (by decide) (by omega) trivial) (fun M83 hS w83 => ?_)
  refine Tr.aload_n (pc := 86) (i := 0) d_X6_begin_86 rfl rfl ?_
  refine Tr.iload_n (pc := 87) (i := 3) d_X6_begin_87 rfl rfl ?_
  have J96 : ∀ (M : Mem) (q96_1 : Int), St Tru ws_X6_begin_48_27_47 as_X6_begin_48_27_47 M0 M → (0 ≤ q96_1 ∧ q96_1 ≤ 1) → rd M 48 1 = 27 → rd M 48 11 = 0 → rd M 48 12 = 0 → rd M 48 13 = 0 → rd M 48 14 = 0 → rd M 48 15 = (-1) → rd M 48 9 = 0 → Tr l K 3 mX6_begin 96 [(0, (2, 48)), (1, (2, 27)), (3, (0, a3))] [(0, q96_1), (2, 48)] M (q_X6_begin_48_27_47 a3 M0) := by
    intro M q96_1 hS bq96_1 k96_48_1 k96_48_11 k96_48_12 k96_48_13 k96_48_14 k96_48_15 k96_48_9
    refine Tr.putzS (pc := 96) (P := St Tru ws_X6_begin_48_27_47 as_X6_begin_48_27_47 M0) d_X6_begin_96 f_6_106 (by decide) (ty_48 hS.1.1) (by omega) (st_48_16 hS (by decide) (by omega) trivial) (fun M96 hS w96 => ?_)
    refine Tr.aload_n (pc := 99) (i := 0) d_X6_begin_99 rfl rfl ?_
    refine Tr.iload_n (pc := 100) (i := 3) d_X6_begin_100 rfl rfl ?_
    refine Tr.putfS (pc := 101) (P := St Tru ws_X6_begin_48_27_47 as_X6_begin_48_27_47 M0) d_X6_begin_101 f_6_110 (by decide) (by decide) (ty_48 hS.1.1) (st_48_17 hS (by decide) (by omega) trivial) (fun M101 hS w101 => ?_)
    refine Tr.aload_n (pc := 104) (i := 0) d_X6_begin_104 rfl rfl ?_
    refine Tr.getf (pc := 105) d_X6_begin_105 f_6_38 (by decide) (by decide) (ty_48 hS.1.1) ?_
    refine Tr.tp 56 (fx_48_0 hS.1.1) ?_
    refine Tr.aload_n (pc := 108) (i := 1) d_X6_begin_108 rfl rfl ?_
    refine Tr.callV (pc := 109) (as := [_]) d_X6_begin_109 s_6_113 ok_X1_begin rfl rfl (Nat.le_of_ble_eq_true rfl) (Nat.le_of_ble_eq_true rfl) (by decide) (ty_56 hS.1.1) ?_
    refine Tr.imp (Tr.deep (by decide) (sp_X1_begin_56_27 hS.1 )) ?_
    rintro M109 _ ⟨h109, o109_56_1, rfl, z109_0, f109_Rn⟩
    have hS := St.tr hS h109 (by decide) (by decide)
    obtain ⟨s109_63_7, es109_63_7⟩ : ∃ v, rd M109 63 7 = v := ⟨_, rfl⟩
    have bs109_63_7 : (-2147483648) ≤ s109_63_7 ∧ s109_63_7 ≤ 2147483647 := by rw [← es109_63_7]; exact ir_63_7 hS.1.2.1
    have hS := St.rn hS f109_Rn
    refine Tr.sc [] rfl ?_
    have kr_63_7 : rd M109 63 7 = s109_63_7 := es109_63_7
    have hS := hS.wk
    exact Tr.vret (pc := 112) d_X6_begin_112 rfl ⟨hS, ((St.kp h109 (by decide) (by decide) (by decide)).trans ((Wr.b w101 rfl).trans ((Wr.b w96 rfl).trans k96_48_1))), o109_56_1, rfl, by omega, f109_Rn⟩
  refine Tr.if_lt (pc := 88) (tgt := 95) d_X6_begin_88 rfl (fun c88 => ?_) (fun c88 => ?_)
  · refine Tr.iconst (pc := 95) d_X6_begin_95 (by decide) ?_
    refine Tr.pick [0, 1, 3] (ls2 := [(0, (2, 48)), (1, (2, 27)), (3, (0, a3))]) rfl ?_
    exact J96 _ _ hS (by omega) ((Wr.b w83 rfl).trans ((Wr.b w78 rfl).trans ((Wr.b w73 rfl).trans ((Wr.b w68 rfl).trans ((Wr.b w63 rfl).trans ((Wr.b w58 rfl).trans ((Wa.b w53 rfl).trans ((Wa.b w45 rfl).trans ((Wa.b w37 rfl).trans ((Wa.b w29 rfl).trans ((Wa.b w21 rfl).trans ((Wa.b w13 rfl).trans w2.1)))))))))))) ((Wr.b w83 rfl).trans ((Wr.b w78 rfl).trans ((Wr.b w73 rfl).trans ((Wr.b w68 rfl).trans w63.1)))) ((Wr.b w83 rfl).trans ((Wr.b w78 rfl).trans ((Wr.b w73 rfl).trans w68.1))) ((Wr.b w83 rfl).trans ((Wr.b w78 rfl).trans w73.1)) ((Wr.b w83 rfl).trans w78.1) w83.1 ((Wr.b w83 rfl).trans ((Wr.b w78 rfl).trans ((Wr.b w73 rfl).trans ((Wr.b w68 rfl).trans ((Wr.b w63 rfl).trans w58.1)))))
  · refine Tr.iconst (pc := 91) d_X6_begin_91 (by decide) ?_
    refine Tr.goto (pc := 92) (tgt := 96) d_X6_begin_92 rfl ?_
    refine Tr.pick [0, 1, 3] (ls2 := [(0, (2, 48)), (1, (2, 27)), (3, (0, a3))]) rfl ?_
    exact J96 _ _ hS (by omega) ((Wr.b w83 rfl).trans ((Wr.b w78 rfl).trans ((Wr.b w73 rfl).trans ((Wr.b w68 rfl).trans ((Wr.b w63 rfl).trans ((Wr.b w58 rfl).trans ((Wa.b w53 rfl).trans ((Wa.b w45 rfl).trans ((Wa.b w37 rfl).trans ((Wa.b w29 rfl).trans ((Wa.b w21 rfl).trans ((Wa.b w13 rfl).trans w2.1)))))))))))) ((Wr.b w83 rfl).trans ((Wr.b w78 rfl).trans ((Wr.b w73 rfl).trans ((Wr.b w68 rfl).trans w63.1)))) ((Wr.b w83 rfl).trans ((Wr.b w78 rfl).trans ((Wr.b w73 rfl).trans w68.1))) ((Wr.b w83 rfl).trans ((Wr.b w78 rfl).trans w73.1)) ((Wr.b w83 rfl).trans w78.1) w83.1 ((Wr.b w83 rfl).trans ((Wr.b w78 rfl).trans ((Wr.b w73 rfl).trans ((Wr.b w68 rfl).trans ((Wr.b w63 rfl).trans w58.1)))))

def ws_X6_sipsAt_48_w3 : List (Int × Int) := []
def as_X6_sipsAt_48_w3 : List Int := []
def q_X6_sipsAt_48_w3 (M0 M' : Mem) (r : Option PV) : Prop := St Tru ws_X6_sipsAt_48_w3 as_X6_sipsAt_48_w3 M0 M' ∧ ∃ v : Int, r = some (0, v) ∧ (-2147483648) ≤ v ∧ v ≤ 2147483647
set_option maxRecDepth 100000 in
set_option maxHeartbeats 4000000 in
theorem sp_X6_sipsAt_48_w3 {l : Launch} {K : EC} {M0 : Mem} (hI : In Tru M0) (en_48_1 : rd M0 48 1 = 27) (a1 : Int) (ha1 : (-2147483648) ≤ a1 ∧ a1 ≤ 2147483647) (a2 : Int) (ha2 : (-1) ≤ a2 ∧ a2 ≤ (-1)) (a3 : Int) (ha3 : 0 ≤ a3 ∧ a3 ≤ 0)  : Tr l K 0 mX6_sipsAt 0 [(0, (2, 48)), (1, (0, a1)), (2, (0, a2)), (3, (0, a3))] [] M0 (q_X6_sipsAt_48_w3 M0) := by
  have hS : St Tru ws_X6_sipsAt_48_w3 as_X6_sipsAt_48_w3 M0 M0 := St.rf hI
  refine Tr.aload_n (pc := 0) (i := 0) d_X6_sipsAt_0 rfl rfl ?_
  refine Tr.getf (pc := 1) d_X6_sipsAt_1 f_6_46 (by decide) (by decide) (ty_48 hS.1.1) ?_
  refine Tr.tp 27 ((St.kp hS (by decide) (by decide) (by decide)).trans en_48_1) ?_
  refine Tr.getf (pc := 4) d_X6_sipsAt_4 f_6_135 (by decide) (by decide) (ty_27 hS.1.1) ?_
  refine Tr.gen (P := fun v => (-1) ≤ v ∧ v ≤ 999) (ir_27_0 hS.1.2.1) (fun r4 er4 br4 => ?_)
  refine Tr.istore (pc := 7) (i := 4) (ls2 := [(4, (0, r4)), (0, (2, 48)), (1, (0, a1)), (2, (0, a2)), (3, (0, a3))]) d_X6_sipsAt_7 (by decide) rfl ?_
  refine Tr.iconst (pc := 9) d_X6_sipsAt_9 (by decide) ?_
  refine Tr.istore (pc := 10) (i := 5) (ls2 := [(5, (0, 0)), (4, (0, r4)), (0, (2, 48)), (1, (0, a1)), (2, (0, a2)), (3, (0, a3))]) d_X6_sipsAt_10 (by decide) rfl ?_
  have J12 : ∀ (n12 : Nat) (M : Mem) (p12_4 p12_5 : Int), St Tru ws_X6_sipsAt_48_w3 as_X6_sipsAt_48_w3 M0 M → ((-2147483648) ≤ p12_4 ∧ p12_4 ≤ 2147483647) → (0 ≤ p12_5 ∧ p12_5 ≤ 6) → rd M 27 0 = r4 → (6 - p12_5).toNat < n12 → Tr l K 0 mX6_sipsAt 12 [(0, (2, 48)), (1, (0, a1)), (2, (0, a2)), (3, (0, a3)), (4, (0, p12_4)), (5, (0, p12_5))] [] M (q_X6_sipsAt_48_w3 M0) := by
    intro n12
    induction n12 with
    | zero => intro M p12_4 p12_5 hS bp12_4 bp12_5 k12_27_0 hm12; exact absurd hm12 (Nat.not_lt_zero _)
    | succ n12 J12 =>
      intro M p12_4 p12_5 hS bp12_4 bp12_5 k12_27_0 hm12
      refine Tr.iload (pc := 12) (i := 5) d_X6_sipsAt_12 rfl ?_
      refine Tr.aload_n (pc := 14) (i := 0) d_X6_sipsAt_14 rfl rfl ?_
      refine Tr.getf (pc := 15) d_X6_sipsAt_15 f_6_46 (by decide) (by decide) (ty_48 hS.1.1) ?_
      refine Tr.tp 27 ((St.kp hS (by decide) (by decide) (by decide)).trans en_48_1) ?_
      refine Tr.getf (pc := 18) d_X6_sipsAt_18 f_6_116 (by decide) (by decide) (ty_27 hS.1.1) ?_
      refine Tr.tp 28 (fx_27_4 hS.1.1) ?_
      refine Tr.iconst (pc := 21) d_X6_sipsAt_21 (by decide) ?_
      refine Tr.iald (pc := 22) d_X6_sipsAt_22 (ty_28 hS.1.1) (by omega) (by omega) ?_
      refine Tr.gen (P := fun v => 0 ≤ v ∧ v ≤ 6) (ir_28_0 hS.1.2.1) (fun r22 er22 br22 => ?_)
      refine Tr.icmp_ge (pc := 23) (tgt := 91) d_X6_sipsAt_23 rfl (fun c23 => ?_) (fun c23 => ?_)
      · refine Tr.iload (pc := 91) (i := 4) d_X6_sipsAt_91 rfl ?_
        exact Tr.iret (pc := 93) d_X6_sipsAt_93 rfl ⟨hS, _, rfl, by omega, by omega⟩
      · refine Tr.aload_n (pc := 26) (i := 0) d_X6_sipsAt_26 rfl rfl ?_
        refine Tr.getf (pc := 27) d_X6_sipsAt_27 f_6_24 (by decide) (by decide) (ty_48 hS.1.1) ?_
        refine Tr.tp 53 (fx_48_6 hS.1.1) ?_
        refine Tr.iload (pc := 30) (i := 5) d_X6_sipsAt_30 rfl ?_
        refine Tr.iald (pc := 32) d_X6_sipsAt_32 (ty_53 hS.1.1) (by omega) (by omega) ?_
        refine Tr.gen (P := fun v => 0 ≤ v ∧ v ≤ 1) (ar_53 hS.1.2.1 _) (fun r32 er32 br32 => ?_)
        refine Tr.iconst (pc := 33) d_X6_sipsAt_33 (by decide) ?_
        have J53 : ∀ (M : Mem) (q53_0 : Int), St Tru ws_X6_sipsAt_48_w3 as_X6_sipsAt_48_w3 M0 M → (0 ≤ q53_0 ∧ q53_0 ≤ 2) → rd M 27 0 = r4 → rd M 28 0 = r22 → rd M 53 p12_5 = r32 → Tr l K 0 mX6_sipsAt 53 [(0, (2, 48)), (1, (0, a1)), (2, (0, a2)), (3, (0, a3)), (4, (0, p12_4)), (5, (0, p12_5))] [(0, q53_0)] M (q_X6_sipsAt_48_w3 M0) := by
          intro M q53_0 hS bq53_0 k53_27_0 k53_28_0 k53_53_p12_510
          refine Tr.istore (pc := 53) (i := 6) (ls2 := [(6, (0, q53_0)), (0, (2, 48)), (1, (0, a1)), (2, (0, a2)), (3, (0, a3)), (4, (0, p12_4)), (5, (0, p12_5))]) d_X6_sipsAt_53 (by decide) rfl ?_
          refine Tr.iload (pc := 55) (i := 4) d_X6_sipsAt_55 rfl ?_
          refine Tr.aload_n (pc := 57) (i := 0) d_X6_sipsAt_57 rfl rfl ?_
          refine Tr.getf (pc := 58) d_X6_sipsAt_58 f_6_46 (by decide) (by decide) (ty_48 hS.1.1) ?_
          refine Tr.tp 27 ((St.kp hS (by decide) (by decide) (by decide)).trans en_48_1) ?_
          refine Tr.getf (pc := 61) d_X6_sipsAt_61 f_6_189 (by decide) (by decide) (ty_27 hS.1.1) ?_
          refine Tr.tp 29 (fx_27_5 hS.1.1) ?_
          refine Tr.iload (pc := 64) (i := 5) d_X6_sipsAt_64 rfl ?_
          refine Tr.iconst (pc := 66) d_X6_sipsAt_66 (by decide) ?_
          refine Tr.imul (pc := 67) d_X6_sipsAt_67 ?_
          refine Tr.tp (4 * p12_5) ((w32_id (by omega)).trans (by omega)) ?_
          refine Tr.iload (pc := 68) (i := 5) d_X6_sipsAt_68 rfl ?_
          refine Tr.iload_n (pc := 70) (i := 2) d_X6_sipsAt_70 rfl rfl ?_
          refine Tr.tp (-1) (by omega) ?_
          refine Tr.icmp_ne (pc := 71) (tgt := 78) d_X6_sipsAt_71 rfl (fun _ => ?_) (fun hc => absurd hc (by omega))
          refine Tr.iload (pc := 78) (i := 6) d_X6_sipsAt_78 rfl ?_
          refine Tr.iadd (pc := 80) d_X6_sipsAt_80 ?_
          refine Tr.tp (4 * p12_5 + q53_0) ((w32_id (by omega)).trans (by omega)) ?_
          refine Tr.iald (pc := 81) d_X6_sipsAt_81 (ty_29 hS.1.1) (by omega) (by omega) ?_
          refine Tr.gen (P := fun v => (-1) ≤ v ∧ v ≤ 999) (ar_29 hS.1.2.1 _) (fun r81 er81 br81 => ?_)
          refine Tr.iadd (pc := 82) d_X6_sipsAt_82 ?_
          refine Tr.gen (P := fun v => (-2147483648) ≤ v ∧ v ≤ 2147483647) (w32_b _) (fun r82 er82 br82 => ?_)
          refine Tr.istore (pc := 83) (i := 4) (ls2 := [(4, (0, r82)), (6, (0, q53_0)), (0, (2, 48)), (1, (0, a1)), (2, (0, a2)), (3, (0, a3)), (5, (0, p12_5))]) d_X6_sipsAt_83 (by decide) rfl ?_
          refine Tr.iincV (pc := 85) (n2 := (p12_5 + 1)) (ls2 := [(5, (0, (p12_5 + 1))), (4, (0, r82)), (6, (0, q53_0)), (0, (2, 48)), (1, (0, a1)), (2, (0, a2)), (3, (0, a3))]) d_X6_sipsAt_85 rfl (by decide) ((w32_id (by omega)).trans (by omega)) rfl ?_
          refine Tr.goto (pc := 88) (tgt := 12) d_X6_sipsAt_88 rfl ?_
          refine Tr.pick [3, 4, 5, 6, 1, 0] (ls2 := [(0, (2, 48)), (1, (0, a1)), (2, (0, a2)), (3, (0, a3)), (4, (0, r82)), (5, (0, (p12_5 + 1)))]) rfl ?_
          exact J12 _ _ _ hS (by omega) (by omega) k53_27_0 (by omega)
        have J48 : ∀ (M : Mem), St Tru ws_X6_sipsAt_48_w3 as_X6_sipsAt_48_w3 M0 M → rd M 27 0 = r4 → rd M 28 0 = r22 → rd M 53 p12_5 = r32 → Tr l K 0 mX6_sipsAt 48 [(0, (2, 48)), (1, (0, a1)), (2, (0, a2)), (3, (0, a3)), (4, (0, p12_4)), (5, (0, p12_5))] [] M (q_X6_sipsAt_48_w3 M0) := by
          intro M  hS  k48_27_0 k48_28_0 k48_53_p12_510
          refine Tr.iconst (pc := 48) d_X6_sipsAt_48 (by decide) ?_
          refine Tr.goto (pc := 49) (tgt := 53) d_X6_sipsAt_49 rfl ?_
          refine Tr.pick [0, 1, 2, 3, 4, 5] (ls2 := [(0, (2, 48)), (1, (0, a1)), (2, (0, a2)), (3, (0, a3)), (4, (0, p12_4)), (5, (0, p12_5))]) rfl ?_
          exact J53 _ _ hS (by omega) k48_27_0 k48_28_0 k48_53_p12_510
        refine Tr.icmp_eq (pc := 34) (tgt := 48) d_X6_sipsAt_34 rfl (fun c34 => ?_) (fun c34 => ?_)
        · refine Tr.pick [0, 1, 2, 3, 4, 5] (ls2 := [(0, (2, 48)), (1, (0, a1)), (2, (0, a2)), (3, (0, a3)), (4, (0, p12_4)), (5, (0, p12_5))]) rfl ?_
          exact J48 _ hS k12_27_0 er22 er32
        · refine Tr.iload_n (pc := 37) (i := 1) d_X6_sipsAt_37 rfl rfl ?_
          refine Tr.aload_n (pc := 38) (i := 0) d_X6_sipsAt_38 rfl rfl ?_
          refine Tr.getf (pc := 39) d_X6_sipsAt_39 f_6_27 (by decide) (by decide) (ty_48 hS.1.1) ?_
          refine Tr.tp 54 (fx_48_7 hS.1.1) ?_
          refine Tr.iload (pc := 42) (i := 5) d_X6_sipsAt_42 rfl ?_
          refine Tr.iald (pc := 44) d_X6_sipsAt_44 (ty_54 hS.1.1) (by omega) (by omega) ?_
          refine Tr.gen (P := fun v => (-2147483648) ≤ v ∧ v ≤ 2147483647) (ar_54 hS.1.2.1 _) (fun r44 er44 br44 => ?_)
          refine Tr.icmp_ge (pc := 45) (tgt := 52) d_X6_sipsAt_45 rfl (fun c45 => ?_) (fun c45 => ?_)
          · refine Tr.iconst (pc := 52) d_X6_sipsAt_52 (by decide) ?_
            refine Tr.pick [0, 1, 2, 3, 4, 5] (ls2 := [(0, (2, 48)), (1, (0, a1)), (2, (0, a2)), (3, (0, a3)), (4, (0, p12_4)), (5, (0, p12_5))]) rfl ?_
            exact J53 _ _ hS (by omega) k12_27_0 er22 er32
          · refine Tr.pick [0, 1, 2, 3, 4, 5] (ls2 := [(0, (2, 48)), (1, (0, a1)), (2, (0, a2)), (3, (0, a3)), (4, (0, p12_4)), (5, (0, p12_5))]) rfl ?_
            exact J48 _ hS k12_27_0 er22 er32
  refine Tr.pick [2, 3, 4, 5, 1, 0] (ls2 := [(0, (2, 48)), (1, (0, a1)), (2, (0, a2)), (3, (0, a3)), (4, (0, r4)), (5, (0, 0))]) rfl ?_
  exact J12 _ _ _ _ hS (by omega) (by omega) er4 (Nat.lt_succ_self _)

def ws_X6_afforded_48_w5 : List (Int × Int) := [(48, 17)]
def as_X6_afforded_48_w5 : List Int := []
def q_X6_afforded_48_w5 (M0 M' : Mem) (r : Option PV) : Prop := St Tru ws_X6_afforded_48_w5 as_X6_afforded_48_w5 M0 M' ∧ ∃ v : Int, r = some (0, v) ∧ (-2147483648) ≤ v ∧ v ≤ 1
set_option maxRecDepth 100000 in
set_option maxHeartbeats 4000000 in
theorem sp_X6_afforded_48_w5 {l : Launch} {K : EC} {M0 : Mem} (hI : In Tru M0) (en_48_1 : rd M0 48 1 = 27) (a1 : Int) (ha1 : (-2147483648) ≤ a1 ∧ a1 ≤ 1) (a2 : Int) (ha2 : (-1) ≤ a2 ∧ a2 ≤ (-1)) (a3 : Int) (ha3 : 0 ≤ a3 ∧ a3 ≤ 0)  : Tr l K 1 mX6_afforded 0 [(0, (2, 48)), (1, (0, a1)), (2, (0, a2)), (3, (0, a3))] [] M0 (q_X6_afforded_48_w5 M0) := by
  have hS : St Tru ws_X6_afforded_48_w5 as_X6_afforded_48_w5 M0 M0 := St.rf hI
  refine Tr.iconst (pc := 0) d_X6_afforded_0 (by decide) ?_
  refine Tr.istore (pc := 1) (i := 4) (ls2 := [(4, (0, 0)), (0, (2, 48)), (1, (0, a1)), (2, (0, a2)), (3, (0, a3))]) d_X6_afforded_1 (by decide) rfl ?_
  have J3 : ∀ (n3 : Nat) (M : Mem) (p3_4 : Int), St Tru ws_X6_afforded_48_w5 as_X6_afforded_48_w5 M0 M → (0 ≤ p3_4 ∧ p3_4 ≤ 1) → (1 - p3_4).toNat < n3 → Tr l K 1 mX6_afforded 3 [(0, (2, 48)), (1, (0, a1)), (2, (0, a2)), (3, (0, a3)), (4, (0, p3_4))] [] M (q_X6_afforded_48_w5 M0) := by
    intro n3
    induction n3 with
    | zero => intro M p3_4 hS bp3_4  hm3; exact absurd hm3 (Nat.not_lt_zero _)
    | succ n3 J3 =>
      intro M p3_4 hS bp3_4  hm3
      refine Tr.iload (pc := 3) (i := 4) d_X6_afforded_3 rfl ?_
      refine Tr.iload_n (pc := 5) (i := 1) d_X6_afforded_5 rfl rfl ?_
      refine Tr.icmp_ge (pc := 6) (tgt := 53) d_X6_afforded_6 rfl (fun c6 => ?_) (fun c6 => ?_)
      · refine Tr.iload_n (pc := 53) (i := 1) d_X6_afforded_53 rfl rfl ?_
        exact Tr.iret (pc := 54) d_X6_afforded_54 rfl ⟨hS, _, rfl, by omega, by omega⟩
      · refine Tr.aload_n (pc := 9) (i := 0) d_X6_afforded_9 rfl rfl ?_
        refine Tr.aload_n (pc := 10) (i := 0) d_X6_afforded_10 rfl rfl ?_
        refine Tr.getf (pc := 11) d_X6_afforded_11 f_6_68 (by decide) (by decide) (ty_48 hS.1.1) ?_
        refine Tr.gen (P := fun v => (-2147483648) ≤ v ∧ v ≤ 2147483647) (ir_48_9 hS.1.2.1) (fun r11 er11 br11 => ?_)
        refine Tr.iload (pc := 14) (i := 4) d_X6_afforded_14 rfl ?_
        refine Tr.iadd (pc := 16) d_X6_afforded_16 ?_
        refine Tr.tp (p3_4 + r11) ((w32_id (by omega)).trans (by omega)) ?_
        refine Tr.iload_n (pc := 17) (i := 2) d_X6_afforded_17 rfl rfl ?_
        refine Tr.tp (-1) (by omega) ?_
        refine Tr.iload_n (pc := 18) (i := 3) d_X6_afforded_18 rfl rfl ?_
        refine Tr.tp 0 (by omega) ?_
        refine Tr.callV (pc := 19) (as := [_, _, _]) d_X6_afforded_19 s_6_186 ok_X6_sipsAt rfl rfl (Nat.le_of_ble_eq_true rfl) (Nat.le_of_ble_eq_true rfl) (by decide) (ty_48 hS.1.1) ?_
        refine Tr.imp (Tr.deep (by decide) (sp_X6_sipsAt_48_w3 hS.1 ((St.kp hS (by decide) (by decide) (by decide)).trans en_48_1) (p3_4 + r11) (by omega) (-1) (by omega) 0 (by omega))) ?_
        rintro M19 _ ⟨h19, r19, rfl, lr19, ur19⟩
        have hS := St.tr hS h19 (by decide) (by decide)
        refine Tr.sc [(0, r19)] rfl ?_
        refine Tr.istore (pc := 22) (i := 5) (ls2 := [(5, (0, r19)), (0, (2, 48)), (1, (0, a1)), (2, (0, a2)), (3, (0, a3)), (4, (0, p3_4))]) d_X6_afforded_22 (by decide) rfl ?_
        refine Tr.iload (pc := 24) (i := 5) d_X6_afforded_24 rfl ?_
        refine Tr.aload_n (pc := 26) (i := 0) d_X6_afforded_26 rfl rfl ?_
        refine Tr.getf (pc := 27) d_X6_afforded_27 f_6_110 (by decide) (by decide) (ty_48 hS.1.1) ?_
        refine Tr.gen (P := fun v => (-2147483648) ≤ v ∧ v ≤ 2147483647) (ir_48_17 hS.1.2.1) (fun r27 er27 br27 => ?_)
        refine Tr.icmp_le (pc := 30) (tgt := 36) d_X6_afforded_30 rfl (fun c30 => ?_) (fun c30 => ?_)
        · refine Tr.aload_n (pc := 36) (i := 0) d_X6_afforded_36 rfl rfl ?_
          refine Tr.dup (pc := 37) d_X6_afforded_37 ne21 ?_
          refine Tr.getf (pc := 38) d_X6_afforded_38 f_6_110 (by decide) (by decide) (ty_48 hS.1.1) ?_
          refine Tr.tp r27 er27 ?_
          refine Tr.iload (pc := 41) (i := 5) d_X6_afforded_41 rfl ?_
          refine Tr.isub (pc := 43) d_X6_afforded_43 ?_
          refine Tr.gen (P := fun v => (-2147483648) ≤ v ∧ v ≤ 2147483647) (w32_b _) (fun r43 er43 br43 => ?_)
          refine Tr.putfS (pc := 44) (P := St Tru ws_X6_afforded_48_w5 as_X6_afforded_48_w5 M0) d_X6_afforded_44 f_6_110 (by decide) (by decide) (ty_48 hS.1.1) (st_48_17 hS (by decide) (by omega) trivial) (fun M44 hS w44 => ?_)
          refine Tr.iincV (pc := 47) (n2 := (p3_4 + 1)) (ls2 := [(4, (0, (p3_4 + 1))), (5, (0, r19)), (0, (2, 48)), (1, (0, a1)), (2, (0, a2)), (3, (0, a3))]) d_X6_afforded_47 rfl (by decide) ((w32_id (by omega)).trans (by omega)) rfl ?_
          refine Tr.goto (pc := 50) (tgt := 3) d_X6_afforded_50 rfl ?_
          refine Tr.pick [2, 3, 4, 5, 0] (ls2 := [(0, (2, 48)), (1, (0, a1)), (2, (0, a2)), (3, (0, a3)), (4, (0, (p3_4 + 1)))]) rfl ?_
          exact J3 _ _ hS (by omega) (by omega)
        · refine Tr.iload (pc := 33) (i := 4) d_X6_afforded_33 rfl ?_
          exact Tr.iret (pc := 35) d_X6_afforded_35 rfl ⟨hS, _, rfl, by omega, by omega⟩
  refine Tr.pick [1, 2, 3, 4, 0] (ls2 := [(0, (2, 48)), (1, (0, a1)), (2, (0, a2)), (3, (0, a3)), (4, (0, 0))]) rfl ?_
  exact J3 _ _ _ hS (by omega) (Nat.lt_succ_self _)

def ws_X6_pass_48_w5 : List (Int × Int) := [(48, 9), (48, 14), (48, 17)]
def as_X6_pass_48_w5 : List Int := []
def q_X6_pass_48_w5 (M0 M' : Mem) (r : Option PV) : Prop := St Tru ws_X6_pass_48_w5 as_X6_pass_48_w5 M0 M' ∧ ∃ v : Int, r = some (0, v) ∧ (-2147483648) ≤ v ∧ v ≤ 1
set_option maxRecDepth 100000 in
set_option maxHeartbeats 4000000 in
theorem sp_X6_pass_48_w5 {l : Launch} {K : EC} {M0 : Mem} (hI : In Tru M0) (en_48_1 : rd M0 48 1 = 27) (a1 : Int) (ha1 : 1 ≤ a1 ∧ a1 ≤ 1) (a2 : Int) (ha2 : (-1) ≤ a2 ∧ a2 ≤ (-1)) (a3 : Int) (ha3 : 0 ≤ a3 ∧ a3 ≤ 0)  : Tr l K 2 mX6_pass 0 [(0, (2, 48)), (1, (0, a1)), (2, (0, a2)), (3, (0, a3))] [] M0 (q_X6_pass_48_w5 M0) := by
  have hS : St Tru ws_X6_pass_48_w5 as_X6_pass_48_w5 M0 M0 := St.rf hI
  refine Tr.iload_n (pc := 0) (i := 1) d_X6_pass_0 rfl rfl ?_
  refine Tr.tp 1 (by omega) ?_
  refine Tr.sipush (pc := 1) d_X6_pass_1 rfl (by decide) ?_
  refine Tr.aload_n (pc := 4) (i := 0) d_X6_pass_4 rfl rfl ?_
  refine Tr.getf (pc := 5) d_X6_pass_5 f_6_68 (by decide) (by decide) (ty_48 hS.1.1) ?_
  refine Tr.gen (P := fun v => (-2147483648) ≤ v ∧ v ≤ 2147483647) (ir_48_9 hS.1.2.1) (fun r5 er5 br5 => ?_)
  refine Tr.isub (pc := 8) d_X6_pass_8 ?_
  refine Tr.gen (P := fun v => (-2147483648) ≤ v ∧ v ≤ 2147483647) (w32_b _) (fun r8 er8 br8 => ?_)
  refine Tr.mmin (pc := 9) d_X6_pass_9 ml_6_158 mw_mmin (Nat.le_of_ble_eq_true rfl) ?_
  refine Tr.gen (P := fun v => (v = 1 ∧ 1 ≤ r8) ∨ (v = r8 ∧ r8 ≤ 1)) (f_min_p _ _) (fun r9 er9 br9 => ?_)
  refine Tr.istore (pc := 12) (i := 4) (ls2 := [(4, (0, r9)), (0, (2, 48)), (1, (0, a1)), (2, (0, a2)), (3, (0, a3))]) d_X6_pass_12 (by decide) rfl ?_
  refine Tr.aload_n (pc := 14) (i := 0) d_X6_pass_14 rfl rfl ?_
  refine Tr.getz (pc := 15) d_X6_pass_15 f_6_106 (by decide) (ty_48 hS.1.1) ?_
  refine Tr.gen (P := fun v => 0 ≤ v ∧ v ≤ 1) (ir_48_16 hS.1.2.1) (fun r15 er15 br15 => ?_)
  have J34 : ∀ (M : Mem) (q34_0 : Int), St Tru ws_X6_pass_48_w5 as_X6_pass_48_w5 M0 M → ((-2147483648) ≤ q34_0 ∧ q34_0 ≤ 1) → rd M 48 16 = r15 → rd M 48 9 = r5 → Tr l K 2 mX6_pass 34 [(0, (2, 48)), (1, (0, a1)), (4, (0, r9))] [(0, q34_0)] M (q_X6_pass_48_w5 M0) := by
    intro M q34_0 hS bq34_0 k34_48_16 k34_48_9
    refine Tr.istore (pc := 34) (i := 5) (ls2 := [(5, (0, q34_0)), (0, (2, 48)), (1, (0, a1)), (4, (0, r9))]) d_X6_pass_34 (by decide) rfl ?_
    refine Tr.aload_n (pc := 36) (i := 0) d_X6_pass_36 rfl rfl ?_
    refine Tr.dup (pc := 37) d_X6_pass_37 ne21 ?_
    refine Tr.getf (pc := 38) d_X6_pass_38 f_6_68 (by decide) (by decide) (ty_48 hS.1.1) ?_
    refine Tr.tp r5 k34_48_9 ?_
    refine Tr.iload (pc := 41) (i := 5) d_X6_pass_41 rfl ?_
    refine Tr.iadd (pc := 43) d_X6_pass_43 ?_
    refine Tr.gen (P := fun v => (-2147483648) ≤ v ∧ v ≤ 2147483647) (w32_b _) (fun r43 er43 br43 => ?_)
    refine Tr.putfS (pc := 44) (P := St Tru ws_X6_pass_48_w5 as_X6_pass_48_w5 M0) d_X6_pass_44 f_6_68 (by decide) (by decide) (ty_48 hS.1.1) (st_48_9 hS (by decide) (by omega) trivial) (fun M44 hS w44 => ?_)
    refine Tr.iload (pc := 47) (i := 5) d_X6_pass_47 rfl ?_
    refine Tr.iload_n (pc := 49) (i := 1) d_X6_pass_49 rfl rfl ?_
    refine Tr.tp 1 (by omega) ?_
    refine Tr.icmp_ge (pc := 50) (tgt := 69) d_X6_pass_50 rfl (fun c50 => ?_) (fun c50 => ?_)
    · refine Tr.iload (pc := 69) (i := 5) d_X6_pass_69 rfl ?_
      refine Tr.tp 1 (by omega) ?_
      exact Tr.iret (pc := 71) d_X6_pass_71 rfl ⟨hS, _, rfl, by omega, by omega⟩
    · refine Tr.aload_n (pc := 53) (i := 0) d_X6_pass_53 rfl rfl ?_
      refine Tr.iload (pc := 54) (i := 5) d_X6_pass_54 rfl ?_
      refine Tr.iload (pc := 56) (i := 4) d_X6_pass_56 rfl ?_
      refine Tr.icmp_ne (pc := 58) (tgt := 65) d_X6_pass_58 rfl (fun c58 => ?_) (fun c58 => ?_)
      · refine Tr.iconst (pc := 65) d_X6_pass_65 (by decide) ?_
        refine Tr.putfS (pc := 66) (P := St Tru ws_X6_pass_48_w5 as_X6_pass_48_w5 M0) d_X6_pass_66 f_6_62 (by decide) (by decide) (ty_48 hS.1.1) (st_48_14 hS (by decide) (by omega) trivial) (fun M66 hS w66 => ?_)
        refine Tr.iload (pc := 69) (i := 5) d_X6_pass_69 rfl ?_
        exact Tr.iret (pc := 71) d_X6_pass_71 rfl ⟨hS, _, rfl, by omega, by omega⟩
      · refine Tr.iconst (pc := 61) d_X6_pass_61 (by decide) ?_
        refine Tr.goto (pc := 62) (tgt := 66) d_X6_pass_62 rfl ?_
        refine Tr.putfS (pc := 66) (P := St Tru ws_X6_pass_48_w5 as_X6_pass_48_w5 M0) d_X6_pass_66 f_6_62 (by decide) (by decide) (ty_48 hS.1.1) (st_48_14 hS (by decide) (by omega) trivial) (fun M66 hS w66 => ?_)
        refine Tr.iload (pc := 69) (i := 5) d_X6_pass_69 rfl ?_
        exact Tr.iret (pc := 71) d_X6_pass_71 rfl ⟨hS, _, rfl, by omega, by omega⟩
  refine Tr.if_eq (pc := 18) (tgt := 32) d_X6_pass_18 rfl (fun c18 => ?_) (fun c18 => ?_)
  · refine Tr.iload (pc := 32) (i := 4) d_X6_pass_32 rfl ?_
    refine Tr.pick [1, 2, 0] (ls2 := [(0, (2, 48)), (1, (0, a1)), (4, (0, r9))]) rfl ?_
    exact J34 _ _ hS (by omega) er15 er5
  · refine Tr.aload_n (pc := 21) (i := 0) d_X6_pass_21 rfl rfl ?_
    refine Tr.iload (pc := 22) (i := 4) d_X6_pass_22 rfl ?_
    refine Tr.iload_n (pc := 24) (i := 2) d_X6_pass_24 rfl rfl ?_
    refine Tr.tp (-1) (by omega) ?_
    refine Tr.iload_n (pc := 25) (i := 3) d_X6_pass_25 rfl rfl ?_
    refine Tr.tp 0 (by omega) ?_
    refine Tr.callV (pc := 26) (as := [_, _, _]) d_X6_pass_26 s_6_183 ok_X6_afforded rfl rfl (Nat.le_of_ble_eq_true rfl) (Nat.le_of_ble_eq_true rfl) (by decide) (ty_48 hS.1.1) ?_
    refine Tr.imp (Tr.deep (by decide) (sp_X6_afforded_48_w5 hS.1 ((St.kp hS (by decide) (by decide) (by decide)).trans en_48_1) r9 (by omega) (-1) (by omega) 0 (by omega))) ?_
    rintro M26 _ ⟨h26, r26, rfl, lr26, ur26⟩
    have hS := St.tr hS h26 (by decide) (by decide)
    refine Tr.sc [(0, r26)] rfl ?_
    refine Tr.goto (pc := 29) (tgt := 34) d_X6_pass_29 rfl ?_
    refine Tr.pick [1, 2, 0] (ls2 := [(0, (2, 48)), (1, (0, a1)), (4, (0, r9))]) rfl ?_
    exact J34 _ _ hS (by omega) ((St.kp h26 (by decide) (by decide) (by decide)).trans er15) ((St.kp h26 (by decide) (by decide) (by decide)).trans er5)

def ws_X6_afforded_48_w6 : List (Int × Int) := [(48, 17)]
def as_X6_afforded_48_w6 : List Int := []
def q_X6_afforded_48_w6 (M0 M' : Mem) (r : Option PV) : Prop := St Tru ws_X6_afforded_48_w6 as_X6_afforded_48_w6 M0 M' ∧ ∃ v : Int, r = some (0, v) ∧ (-2147483648) ≤ v ∧ v ≤ 20
set_option maxRecDepth 100000 in
set_option maxHeartbeats 4000000 in
theorem sp_X6_afforded_48_w6 {l : Launch} {K : EC} {M0 : Mem} (hI : In Tru M0) (en_48_1 : rd M0 48 1 = 27) (a1 : Int) (ha1 : (-2147483648) ≤ a1 ∧ a1 ≤ 20) (a2 : Int) (ha2 : (-1) ≤ a2 ∧ a2 ≤ (-1)) (a3 : Int) (ha3 : 0 ≤ a3 ∧ a3 ≤ 0)  : Tr l K 1 mX6_afforded 0 [(0, (2, 48)), (1, (0, a1)), (2, (0, a2)), (3, (0, a3))] [] M0 (q_X6_afforded_48_w6 M0) := by
  have hS : St Tru ws_X6_afforded_48_w6 as_X6_afforded_48_w6 M0 M0 := St.rf hI
  refine Tr.iconst (pc := 0) d_X6_afforded_0 (by decide) ?_
  refine Tr.istore (pc := 1) (i := 4) (ls2 := [(4, (0, 0)), (0, (2, 48)), (1, (0, a1)), (2, (0, a2)), (3, (0, a3))]) d_X6_afforded_1 (by decide) rfl ?_
  have J3 : ∀ (n3 : Nat) (M : Mem) (p3_4 : Int), St Tru ws_X6_afforded_48_w6 as_X6_afforded_48_w6 M0 M → (0 ≤ p3_4 ∧ p3_4 ≤ 20) → (20 - p3_4).toNat < n3 → Tr l K 1 mX6_afforded 3 [(0, (2, 48)), (1, (0, a1)), (2, (0, a2)), (3, (0, a3)), (4, (0, p3_4))] [] M (q_X6_afforded_48_w6 M0) := by
    intro n3
    induction n3 with
    | zero => intro M p3_4 hS bp3_4  hm3; exact absurd hm3 (Nat.not_lt_zero _)
    | succ n3 J3 =>
      intro M p3_4 hS bp3_4  hm3
      refine Tr.iload (pc := 3) (i := 4) d_X6_afforded_3 rfl ?_
      refine Tr.iload_n (pc := 5) (i := 1) d_X6_afforded_5 rfl rfl ?_
      refine Tr.icmp_ge (pc := 6) (tgt := 53) d_X6_afforded_6 rfl (fun c6 => ?_) (fun c6 => ?_)
      · refine Tr.iload_n (pc := 53) (i := 1) d_X6_afforded_53 rfl rfl ?_
        exact Tr.iret (pc := 54) d_X6_afforded_54 rfl ⟨hS, _, rfl, by omega, by omega⟩
      · refine Tr.aload_n (pc := 9) (i := 0) d_X6_afforded_9 rfl rfl ?_
        refine Tr.aload_n (pc := 10) (i := 0) d_X6_afforded_10 rfl rfl ?_
        refine Tr.getf (pc := 11) d_X6_afforded_11 f_6_68 (by decide) (by decide) (ty_48 hS.1.1) ?_
        refine Tr.gen (P := fun v => (-2147483648) ≤ v ∧ v ≤ 2147483647) (ir_48_9 hS.1.2.1) (fun r11 er11 br11 => ?_)
        refine Tr.iload (pc := 14) (i := 4) d_X6_afforded_14 rfl ?_
        refine Tr.iadd (pc := 16) d_X6_afforded_16 ?_
        refine Tr.gen (P := fun v => (-2147483648) ≤ v ∧ v ≤ 2147483647) (w32_b _) (fun r16 er16 br16 => ?_)
        refine Tr.iload_n (pc := 17) (i := 2) d_X6_afforded_17 rfl rfl ?_
        refine Tr.tp (-1) (by omega) ?_
        refine Tr.iload_n (pc := 18) (i := 3) d_X6_afforded_18 rfl rfl ?_
        refine Tr.tp 0 (by omega) ?_
        refine Tr.callV (pc := 19) (as := [_, _, _]) d_X6_afforded_19 s_6_186 ok_X6_sipsAt rfl rfl (Nat.le_of_ble_eq_true rfl) (Nat.le_of_ble_eq_true rfl) (by decide) (ty_48 hS.1.1) ?_
        refine Tr.imp (Tr.deep (by decide) (sp_X6_sipsAt_48_w3 hS.1 ((St.kp hS (by decide) (by decide) (by decide)).trans en_48_1) r16 (by omega) (-1) (by omega) 0 (by omega))) ?_
        rintro M19 _ ⟨h19, r19, rfl, lr19, ur19⟩
        have hS := St.tr hS h19 (by decide) (by decide)
        refine Tr.sc [(0, r19)] rfl ?_
        refine Tr.istore (pc := 22) (i := 5) (ls2 := [(5, (0, r19)), (0, (2, 48)), (1, (0, a1)), (2, (0, a2)), (3, (0, a3)), (4, (0, p3_4))]) d_X6_afforded_22 (by decide) rfl ?_
        refine Tr.iload (pc := 24) (i := 5) d_X6_afforded_24 rfl ?_
        refine Tr.aload_n (pc := 26) (i := 0) d_X6_afforded_26 rfl rfl ?_
        refine Tr.getf (pc := 27) d_X6_afforded_27 f_6_110 (by decide) (by decide) (ty_48 hS.1.1) ?_
        refine Tr.gen (P := fun v => (-2147483648) ≤ v ∧ v ≤ 2147483647) (ir_48_17 hS.1.2.1) (fun r27 er27 br27 => ?_)
        refine Tr.icmp_le (pc := 30) (tgt := 36) d_X6_afforded_30 rfl (fun c30 => ?_) (fun c30 => ?_)
        · refine Tr.aload_n (pc := 36) (i := 0) d_X6_afforded_36 rfl rfl ?_
          refine Tr.dup (pc := 37) d_X6_afforded_37 ne21 ?_
          refine Tr.getf (pc := 38) d_X6_afforded_38 f_6_110 (by decide) (by decide) (ty_48 hS.1.1) ?_
          refine Tr.tp r27 er27 ?_
          refine Tr.iload (pc := 41) (i := 5) d_X6_afforded_41 rfl ?_
          refine Tr.isub (pc := 43) d_X6_afforded_43 ?_
          refine Tr.gen (P := fun v => (-2147483648) ≤ v ∧ v ≤ 2147483647) (w32_b _) (fun r43 er43 br43 => ?_)
          refine Tr.putfS (pc := 44) (P := St Tru ws_X6_afforded_48_w6 as_X6_afforded_48_w6 M0) d_X6_afforded_44 f_6_110 (by decide) (by decide) (ty_48 hS.1.1) (st_48_17 hS (by decide) (by omega) trivial) (fun M44 hS w44 => ?_)
          refine Tr.iincV (pc := 47) (n2 := (p3_4 + 1)) (ls2 := [(4, (0, (p3_4 + 1))), (5, (0, r19)), (0, (2, 48)), (1, (0, a1)), (2, (0, a2)), (3, (0, a3))]) d_X6_afforded_47 rfl (by decide) ((w32_id (by omega)).trans (by omega)) rfl ?_
          refine Tr.goto (pc := 50) (tgt := 3) d_X6_afforded_50 rfl ?_
          refine Tr.pick [2, 3, 4, 5, 0] (ls2 := [(0, (2, 48)), (1, (0, a1)), (2, (0, a2)), (3, (0, a3)), (4, (0, (p3_4 + 1)))]) rfl ?_
          exact J3 _ _ hS (by omega) (by omega)
        · refine Tr.iload (pc := 33) (i := 4) d_X6_afforded_33 rfl ?_
          exact Tr.iret (pc := 35) d_X6_afforded_35 rfl ⟨hS, _, rfl, by omega, by omega⟩
  refine Tr.pick [1, 2, 3, 4, 0] (ls2 := [(0, (2, 48)), (1, (0, a1)), (2, (0, a2)), (3, (0, a3)), (4, (0, 0))]) rfl ?_
  exact J3 _ _ _ hS (by omega) (Nat.lt_succ_self _)
