def ws_X1_payHeart_56_w1 : List (Int × Int) := []
def as_X1_payHeart_56_w1 : List Int := [60]
def q_X1_payHeart_56_w1 (M0 M' : Mem) (r : Option PV) : Prop := St Tru ws_X1_payHeart_56_w1 as_X1_payHeart_56_w1 M0 M' ∧ r = none
set_option maxRecDepth 100000 in
set_option maxHeartbeats 4000000 in
theorem sp_X1_payHeart_56_w1 {l : Launch} {K : EC} {M0 : Mem} (hI : In Tru M0) (en_56_1 : rd M0 56 1 = 7) (a1 : Int) (ha1 : 0 ≤ a1 ∧ a1 ≤ 59) (a2 : Int) (ha2 : (-2147483648) ≤ a2 ∧ a2 ≤ 2147483647)  : Tr l K 0 mX1_payHeart 0 [(0, (2, 56)), (1, (0, a1)), (2, (0, a2))] [] M0 (q_X1_payHeart_56_w1 M0) := by
  have hS : St Tru ws_X1_payHeart_56_w1 as_X1_payHeart_56_w1 M0 M0 := St.rf hI
  refine Tr.aload_n (pc := 0) (i := 0) d_X1_payHeart_0 rfl rfl ?_
  refine Tr.getz (pc := 1) d_X1_payHeart_1 f_1_37 (by decide) (ty_56 hS.1.1) ?_
  refine Tr.tp 1 (fx_56_0 hS.1.1) ?_
  refine Tr.if_eq (pc := 4) (tgt := 25) d_X1_payHeart_4 rfl (fun hc => absurd hc (by omega)) (fun _ => ?_)
  refine Tr.aload_n (pc := 7) (i := 0) d_X1_payHeart_7 rfl rfl ?_
  refine Tr.getf (pc := 8) d_X1_payHeart_8 f_1_21 (by decide) (by decide) (ty_56 hS.1.1) ?_
  refine Tr.tp 60 (fx_56_5 hS.1.1) ?_
  refine Tr.iload_n (pc := 11) (i := 1) d_X1_payHeart_11 rfl rfl ?_
  refine Tr.dup2 (pc := 12) d_X1_payHeart_12 ne01 ne21 ?_
  refine Tr.iald (pc := 13) d_X1_payHeart_13 (ty_60 hS.1.1) (by omega) (by omega) ?_
  refine Tr.gen (P := fun v => (-2147483648) ≤ v ∧ v ≤ 2147483647) (ar_60 hS.1.2.1 _) (fun r13 er13 br13 => ?_)
  refine Tr.iload_n (pc := 14) (i := 2) d_X1_payHeart_14 rfl rfl ?_
  refine Tr.aload_n (pc := 15) (i := 0) d_X1_payHeart_15 rfl rfl ?_
  refine Tr.getf (pc := 16) d_X1_payHeart_16 f_1_41 (by decide) (by decide) (ty_56 hS.1.1) ?_
  refine Tr.tp 7 ((St.kp hS (by decide) (by decide) (by decide)).trans en_56_1) ?_
  refine Tr.getf (pc := 19) d_X1_payHeart_19 f_1_57 (by decide) (by decide) (ty_7 hS.1.1) ?_
  refine Tr.gen (P := fun v => (-1) ≤ v ∧ v ≤ 999) (ir_7_0 hS.1.2.1) (fun r19 er19 br19 => ?_)
  refine Tr.imul (pc := 22) d_X1_payHeart_22 ?_
  refine Tr.gen (P := fun v => (-2147483648) ≤ v ∧ v ≤ 2147483647) (w32_b _) (fun r22 er22 br22 => ?_)
  refine Tr.iadd (pc := 23) d_X1_payHeart_23 ?_
  refine Tr.gen (P := fun v => (-2147483648) ≤ v ∧ v ≤ 2147483647) (w32_b _) (fun r23 er23 br23 => ?_)
  refine Tr.iastS (pc := 24) (P := St Tru ws_X1_payHeart_56_w1 as_X1_payHeart_56_w1 M0) d_X1_payHeart_24 (ty_60 hS.1.1) (by omega) (by omega) (sa_60 hS (by decide) (by omega) trivial) (fun M24 hS w24 => ?_)
  exact Tr.vret (pc := 25) d_X1_payHeart_25 rfl ⟨hS, rfl⟩

def ws_X6_go_48_7_47 : List (Int × Int) := [(48, 1), (48, 9), (48, 10), (48, 11), (48, 12), (48, 13), (48, 14), (48, 15), (48, 16), (48, 17), (56, 1), (63, 0), (63, 1), (63, 2), (63, 3), (63, 4), (63, 5), (63, 7), (63, 8), (63, 9), (63, 10), (63, 11)]
def as_X6_go_48_7_47 : List Int := [49, 50, 51, 52, 53, 54, 55, 57, 58, 59, 60, 61, 62, 69, 191]
def q_X6_go_48_7_47 (M0 M' : Mem) (r : Option PV) : Prop := St Tru ws_X6_go_48_7_47 as_X6_go_48_7_47 M0 M' ∧ rd M' 48 1 = 7 ∧ rd M' 56 1 = 7 ∧ r = none
set_option maxRecDepth 100000 in
set_option maxHeartbeats 4000000 in
theorem sp_X6_go_48_7_47 {l : Launch} {K : EC} {M0 : Mem} (hI : In Tru M0)  (a3 : Int) (ha3 : (-1) ≤ a3 ∧ a3 ≤ 2147483647)  (hF_Y15 : Yn15 M0) : Tr l K 5 mX6_go 0 [(0, (2, 48)), (1, (2, 7)), (2, (2, 47)), (3, (0, a3))] [] M0 (q_X6_go_48_7_47 M0) := by
  have hS : St Tru ws_X6_go_48_7_47 as_X6_go_48_7_47 M0 M0 := St.rf hI
  obtain ⟨g63_7, eg63_7⟩ : ∃ v, rd M0 63 7 = v := ⟨_, rfl⟩
  have bg63_7 : (-2147483648) ≤ g63_7 ∧ g63_7 ≤ 2147483647 := by rw [← eg63_7]; exact ir_63_7 hI.2.1
  obtain ⟨g15_0, eg15_0⟩ : ∃ v, rd M0 15 0 = v := ⟨_, rfl⟩
  have bg15_0 : 0 ≤ g15_0 ∧ g15_0 ≤ 60 := by rw [← eg15_0]; exact ir_15_0 hI.2.1
  refine Tr.aload_n (pc := 0) (i := 0) d_X6_go_0 rfl rfl ?_
  refine Tr.aload_n (pc := 1) (i := 1) d_X6_go_1 rfl rfl ?_
  refine Tr.aload_n (pc := 2) (i := 2) d_X6_go_2 rfl rfl ?_
  refine Tr.iload_n (pc := 3) (i := 3) d_X6_go_3 rfl rfl ?_
  refine Tr.callV (pc := 4) (as := [_, _, _]) d_X6_go_4 s_6_42 ok_X6_begin rfl rfl (Nat.le_of_ble_eq_true rfl) (Nat.le_of_ble_eq_true rfl) (by decide) (ty_48 hS.1.1) ?_
  refine Tr.imp (Tr.deep (by decide) (sp_X6_begin_48_7_47 hS.1 a3 (by omega))) ?_
  rintro M4 _ ⟨h4, o4_48_1, o4_56_1, rfl, z4_0, f4_Rn⟩
  have hS := St.tr hS h4 (by decide) (by decide)
  obtain ⟨s4_63_7, es4_63_7⟩ : ∃ v, rd M4 63 7 = v := ⟨_, rfl⟩
  have bs4_63_7 : (-2147483648) ≤ s4_63_7 ∧ s4_63_7 ≤ 2147483647 := by rw [← es4_63_7]; exact ir_63_7 hS.1.2.1
  have hS := St.rn hS f4_Rn
  refine Tr.sc [] rfl ?_
  refine Tr.iconst (pc := 7) d_X6_go_7 (by decide) ?_
  refine Tr.istore (pc := 8) (i := 4) (ls2 := [(4, (0, 0)), (0, (2, 48)), (1, (2, 7)), (2, (2, 47)), (3, (0, a3))]) d_X6_go_8 (by decide) rfl ?_
  refine Tr.iconst (pc := 10) d_X6_go_10 (by decide) ?_
  refine Tr.istore (pc := 11) (i := 5) (ls2 := [(5, (0, 0)), (4, (0, 0)), (0, (2, 48)), (1, (2, 7)), (2, (2, 47)), (3, (0, a3))]) d_X6_go_11 (by decide) rfl ?_
  have J13 : ∀ (n13 : Nat) (M : Mem) (p13_4 p13_5 u13_63_7 : Int), St Rn ws_X6_go_48_7_47 as_X6_go_48_7_47 M0 M → (0 ≤ p13_4 ∧ p13_4 ≤ 2147483647) → (0 ≤ p13_5 ∧ p13_5 ≤ 2001) → ((-2147483648) ≤ u13_63_7 ∧ u13_63_7 ≤ 2147483647) → rd M 15 0 = g15_0 → rd M 48 1 = 7 → rd M 56 1 = 7 → rd M 63 7 = u13_63_7 → (u13_63_7 ≤ p13_5) → (2001 - p13_5).toNat < n13 → Tr l K 5 mX6_go 13 [(0, (2, 48)), (4, (0, p13_4)), (5, (0, p13_5))] [] M (q_X6_go_48_7_47 M0) := by
    intro n13
    induction n13 with
    | zero => intro M p13_4 p13_5 u13_63_7 hS bp13_4 bp13_5 bu13_63_7 k13_15_0 k13_48_1 k13_56_1 k13_63_7 t13_0 hm13; exact absurd hm13 (Nat.not_lt_zero _)
    | succ n13 J13 =>
      intro M p13_4 p13_5 u13_63_7 hS bp13_4 bp13_5 bu13_63_7 k13_15_0 k13_48_1 k13_56_1 k13_63_7 t13_0 hm13
      refine Tr.iload (pc := 13) (i := 5) d_X6_go_13 rfl ?_
      refine Tr.sipush (pc := 15) d_X6_go_15 rfl (by decide) ?_
      have J103 : ∀ (M : Mem), St Rn ws_X6_go_48_7_47 as_X6_go_48_7_47 M0 M → rd M 15 0 = g15_0 → rd M 48 1 = 7 → rd M 56 1 = 7 → rd M 63 7 = u13_63_7 → Tr l K 5 mX6_go 103 [(0, (2, 48))] [] M (q_X6_go_48_7_47 M0) := by
        intro M  hS  k103_15_0 k103_48_1 k103_56_1 k103_63_7
        refine Tr.aload_n (pc := 103) (i := 0) d_X6_go_103 rfl rfl ?_
        refine Tr.callV (pc := 104) (as := []) d_X6_go_104 s_6_82 ok_X6_finish rfl rfl (Nat.le_of_ble_eq_true rfl) (Nat.le_of_ble_eq_true rfl) (by decide) (ty_48 hS.1.1) ?_
        refine Tr.imp (Tr.deep (by decide) (sp_X6_finish_48 hS.1 k103_48_1 k103_56_1)) ?_
        rintro M104 _ ⟨h104, rfl⟩
        have hS := St.tr hS h104 (by decide) (by decide)
        refine Tr.sc [] rfl ?_
        have hS := hS.wk
        exact Tr.vret (pc := 107) d_X6_go_107 rfl ⟨hS, ((St.kp h104 (by decide) (by decide) (by decide)).trans k103_48_1), ((St.kp h104 (by decide) (by decide) (by decide)).trans k103_56_1), rfl⟩
      refine Tr.icmp_gt (pc := 18) (tgt := 103) d_X6_go_18 rfl (fun c18 => ?_) (fun c18 => ?_)
      · refine Tr.pick [0] (ls2 := [(0, (2, 48))]) rfl ?_
        exact J103 _ hS k13_15_0 k13_48_1 k13_56_1 k13_63_7
      · refine Tr.iload (pc := 21) (i := 4) d_X6_go_21 rfl ?_
        refine Tr.aload_n (pc := 23) (i := 0) d_X6_go_23 rfl rfl ?_
        refine Tr.getf (pc := 24) d_X6_go_24 f_6_46 (by decide) (by decide) (ty_48 hS.1.1) ?_
        refine Tr.tp 7 k13_48_1 ?_
        refine Tr.getf (pc := 27) d_X6_go_27 f_6_50 (by decide) (by decide) (ty_7 hS.1.1) ?_
        refine Tr.tp 15 (fx_7_11 hS.1.1) ?_
        refine Tr.getf (pc := 30) d_X6_go_30 f_6_56 (by decide) (by decide) (ty_15 hS.1.1) ?_
        refine Tr.tp g15_0 k13_15_0 ?_
        refine Tr.icmp_ge (pc := 33) (tgt := 103) d_X6_go_33 rfl (fun c33 => ?_) (fun c33 => ?_)
        · refine Tr.pick [0] (ls2 := [(0, (2, 48))]) rfl ?_
          exact J103 _ hS k13_15_0 k13_48_1 k13_56_1 k13_63_7
        · refine Tr.aload_n (pc := 36) (i := 0) d_X6_go_36 rfl rfl ?_
          refine Tr.getf (pc := 37) d_X6_go_37 f_6_62 (by decide) (by decide) (ty_48 hS.1.1) ?_
          refine Tr.gen (P := fun v => (-2147483648) ≤ v ∧ v ≤ 2147483647) (ir_48_14 hS.1.2.1) (fun r37 er37 br37 => ?_)
          refine Tr.if_ne (pc := 40) (tgt := 103) d_X6_go_40 rfl (fun c40 => ?_) (fun c40 => ?_)
          · refine Tr.pick [0] (ls2 := [(0, (2, 48))]) rfl ?_
            exact J103 _ hS k13_15_0 k13_48_1 k13_56_1 k13_63_7
          · refine Tr.aload_n (pc := 43) (i := 0) d_X6_go_43 rfl rfl ?_
            refine Tr.getf (pc := 44) d_X6_go_44 f_6_38 (by decide) (by decide) (ty_48 hS.1.1) ?_
            refine Tr.tp 56 (fx_48_0 hS.1.1) ?_
            refine Tr.callV (pc := 47) (as := []) d_X6_go_47 s_6_65 ok_X1_makeRoom rfl rfl (Nat.le_of_ble_eq_true rfl) (Nat.le_of_ble_eq_true rfl) (by decide) (ty_56 hS.1.1) ?_
            have kb47_63_7 : rd M 63 7 = u13_63_7 := k13_63_7
            refine Tr.imp (Tr.deep (by decide) (sp_X1_makeRoom_56 hS.1.wk (by omega))) ?_
            rintro M47 _ ⟨h47, rfl⟩
            have h47 := St.rn h47 (Rn.of hS.1.2.2.2.2 (fun _ => (St.ka h47 (by decide) (by decide) (by decide))) (St.kp h47 (by decide) (by decide) (by decide)))
            have hS := St.tr hS h47 (by decide) (by decide)
            refine Tr.sc [] rfl ?_
            refine Tr.aload_n (pc := 50) (i := 0) d_X6_go_50 rfl rfl ?_
            refine Tr.getf (pc := 51) d_X6_go_51 f_6_68 (by decide) (by decide) (ty_48 hS.1.1) ?_
            refine Tr.gen (P := fun v => (-2147483648) ≤ v ∧ v ≤ 2147483647) (ir_48_9 hS.1.2.1) (fun r51 er51 br51 => ?_)
            refine Tr.istore (pc := 54) (i := 6) (ls2 := [(6, (0, r51)), (0, (2, 48)), (4, (0, p13_4)), (5, (0, p13_5))]) d_X6_go_54 (by decide) rfl ?_
            refine Tr.aload_n (pc := 56) (i := 0) d_X6_go_56 rfl rfl ?_
            refine Tr.iload (pc := 57) (i := 4) d_X6_go_57 rfl ?_
            refine Tr.callV (pc := 59) (as := [_]) d_X6_go_59 s_6_71 ok_X6_step rfl rfl (Nat.le_of_ble_eq_true rfl) (Nat.le_of_ble_eq_true rfl) (by decide) (ty_48 hS.1.1) ?_
            have kb59_15_0 : rd M47 15 0 = g15_0 := ((St.kp h47 (by decide) (by decide) (by decide)).trans k13_15_0)
            have kb59_63_7 : rd M47 63 7 = u13_63_7 := ((St.kp h47 (by decide) (by decide) (by decide)).trans k13_63_7)
            refine Tr.imp (Tr.deep (by decide) (sp_X6_step_48_w1 hS.1 ((St.kp h47 (by decide) (by decide) (by decide)).trans k13_48_1) ((St.kp h47 (by decide) (by decide) (by decide)).trans k13_56_1) p13_4 (by omega) (by omega) (Yn15.of hF_Y15 (fun j => (St.ka hS (by decide) (by decide) (by decide))) (fun j => (St.ka hS (by decide) (by decide) (by decide))) (St.kp hS (by decide) (by decide) (by decide))))) ?_
            rintro M59 _ ⟨h59, r59, rfl, lr59, ur59, z59_0⟩
            have hS := St.tr hS h59 (by decide) (by decide)
            obtain ⟨s59_63_7, es59_63_7⟩ : ∃ v, rd M59 63 7 = v := ⟨_, rfl⟩
            have bs59_63_7 : (-2147483648) ≤ s59_63_7 ∧ s59_63_7 ≤ 2147483647 := by rw [← es59_63_7]; exact ir_63_7 hS.1.2.1
            refine Tr.sc [(0, r59)] rfl ?_
            refine Tr.istore (pc := 62) (i := 7) (ls2 := [(7, (0, r59)), (6, (0, r51)), (0, (2, 48)), (4, (0, p13_4)), (5, (0, p13_5))]) d_X6_go_62 (by decide) rfl ?_
            refine Tr.aload_n (pc := 64) (i := 0) d_X6_go_64 rfl rfl ?_
            refine Tr.getf (pc := 65) d_X6_go_65 f_6_38 (by decide) (by decide) (ty_48 hS.1.1) ?_
            refine Tr.tp 56 (fx_48_0 hS.1.1) ?_
            refine Tr.iload (pc := 68) (i := 4) d_X6_go_68 rfl ?_
            refine Tr.aload_n (pc := 70) (i := 0) d_X6_go_70 rfl rfl ?_
            refine Tr.getf (pc := 71) d_X6_go_71 f_6_68 (by decide) (by decide) (ty_48 hS.1.1) ?_
            refine Tr.gen (P := fun v => (-2147483648) ≤ v ∧ v ≤ 2147483647) (ir_48_9 hS.1.2.1) (fun r71 er71 br71 => ?_)
            refine Tr.iload (pc := 74) (i := 6) d_X6_go_74 rfl ?_
            refine Tr.isub (pc := 76) d_X6_go_76 ?_
            refine Tr.gen (P := fun v => (-2147483648) ≤ v ∧ v ≤ 2147483647) (w32_b _) (fun r76 er76 br76 => ?_)
            refine Tr.callV (pc := 77) (as := [_, _]) d_X6_go_77 s_6_75 ok_X1_payHeart rfl rfl (Nat.le_of_ble_eq_true rfl) (Nat.le_of_ble_eq_true rfl) (by decide) (ty_56 hS.1.1) ?_
            refine Tr.imp (Tr.deep (by decide) (sp_X1_payHeart_56_w1 hS.1.wk ((St.kp h59 (by decide) (by decide) (by decide)).trans ((St.kp h47 (by decide) (by decide) (by decide)).trans k13_56_1)) p13_4 (by omega) r76 (by omega))) ?_
            rintro M77 _ ⟨h77, rfl⟩
            have h77 := St.rn h77 (Rn.of hS.1.2.2.2.2 (fun _ => (St.ka h77 (by decide) (by decide) (by decide))) (St.kp h77 (by decide) (by decide) (by decide)))
            have hS := St.tr hS h77 (by decide) (by decide)
            refine Tr.sc [] rfl ?_
            refine Tr.aload_n (pc := 80) (i := 0) d_X6_go_80 rfl rfl ?_
            refine Tr.getf (pc := 81) d_X6_go_81 f_6_62 (by decide) (by decide) (ty_48 hS.1.1) ?_
            refine Tr.gen (P := fun v => (-2147483648) ≤ v ∧ v ≤ 2147483647) (ir_48_14 hS.1.2.1) (fun r81 er81 br81 => ?_)
            have J93 : ∀ (M : Mem), St Rn ws_X6_go_48_7_47 as_X6_go_48_7_47 M0 M → rd M 15 0 = g15_0 → rd M 48 1 = 7 → rd M 48 14 = r81 → rd M 48 9 = r71 → rd M 56 1 = 7 → rd M 63 7 = s59_63_7 → Tr l K 5 mX6_go 93 [(0, (2, 48)), (5, (0, p13_5)), (7, (0, r59))] [] M (q_X6_go_48_7_47 M0) := by
              intro M  hS  k93_15_0 k93_48_1 k93_48_14 k93_48_9 k93_56_1 k93_63_7
              refine Tr.iload (pc := 93) (i := 7) d_X6_go_93 rfl ?_
              refine Tr.istore (pc := 95) (i := 4) (ls2 := [(4, (0, r59)), (0, (2, 48)), (5, (0, p13_5)), (7, (0, r59))]) d_X6_go_95 (by decide) rfl ?_
              refine Tr.iincV (pc := 97) (n2 := (p13_5 + 1)) (ls2 := [(5, (0, (p13_5 + 1))), (4, (0, r59)), (0, (2, 48)), (7, (0, r59))]) d_X6_go_97 rfl (by decide) ((w32_id (by omega)).trans (by omega)) rfl ?_
              refine Tr.goto (pc := 100) (tgt := 13) d_X6_go_100 rfl ?_
              refine Tr.pick [2, 1, 0] (ls2 := [(0, (2, 48)), (4, (0, r59)), (5, (0, (p13_5 + 1)))]) rfl ?_
              exact J13 _ _ _ _ hS (by omega) (by omega) (by omega) k93_15_0 k93_48_1 k93_56_1 k93_63_7 (by omega) (by omega)
            refine Tr.if_eq (pc := 84) (tgt := 93) d_X6_go_84 rfl (fun c84 => ?_) (fun c84 => ?_)
            · refine Tr.pick [2, 4, 0] (ls2 := [(0, (2, 48)), (5, (0, p13_5)), (7, (0, r59))]) rfl ?_
              exact J93 _ hS ((St.kp h77 (by decide) (by decide) (by decide)).trans ((St.kp h59 (by decide) (by decide) (by decide)).trans ((St.kp h47 (by decide) (by decide) (by decide)).trans k13_15_0))) ((St.kp h77 (by decide) (by decide) (by decide)).trans ((St.kp h59 (by decide) (by decide) (by decide)).trans ((St.kp h47 (by decide) (by decide) (by decide)).trans k13_48_1))) er81 ((St.kp h77 (by decide) (by decide) (by decide)).trans er71) ((St.kp h77 (by decide) (by decide) (by decide)).trans ((St.kp h59 (by decide) (by decide) (by decide)).trans ((St.kp h47 (by decide) (by decide) (by decide)).trans k13_56_1))) ((St.kp h77 (by decide) (by decide) (by decide)).trans es59_63_7)
            · refine Tr.aload_n (pc := 87) (i := 0) d_X6_go_87 rfl rfl ?_
              refine Tr.iload (pc := 88) (i := 4) d_X6_go_88 rfl ?_
              refine Tr.putfS (pc := 90) (P := St Rn ws_X6_go_48_7_47 as_X6_go_48_7_47 M0) d_X6_go_90 f_6_79 (by decide) (by decide) (ty_48 hS.1.1) (st_48_15 hS (by decide) (by omega) (Rn.of hS.1.2.2.2.2 (fun _ => rd_wb _ rfl) (rd_wb _ rfl))) (fun M90 hS w90 => ?_)
              refine Tr.pick [2, 4, 0] (ls2 := [(0, (2, 48)), (5, (0, p13_5)), (7, (0, r59))]) rfl ?_
              exact J93 _ hS ((Wr.b w90 rfl).trans ((St.kp h77 (by decide) (by decide) (by decide)).trans ((St.kp h59 (by decide) (by decide) (by decide)).trans ((St.kp h47 (by decide) (by decide) (by decide)).trans k13_15_0)))) ((Wr.b w90 rfl).trans ((St.kp h77 (by decide) (by decide) (by decide)).trans ((St.kp h59 (by decide) (by decide) (by decide)).trans ((St.kp h47 (by decide) (by decide) (by decide)).trans k13_48_1)))) ((Wr.b w90 rfl).trans er81) ((Wr.b w90 rfl).trans ((St.kp h77 (by decide) (by decide) (by decide)).trans er71)) ((Wr.b w90 rfl).trans ((St.kp h77 (by decide) (by decide) (by decide)).trans ((St.kp h59 (by decide) (by decide) (by decide)).trans ((St.kp h47 (by decide) (by decide) (by decide)).trans k13_56_1)))) ((Wr.b w90 rfl).trans ((St.kp h77 (by decide) (by decide) (by decide)).trans es59_63_7))
  refine Tr.pick [2, 1, 0] (ls2 := [(0, (2, 48)), (4, (0, 0)), (5, (0, 0))]) rfl ?_
  exact J13 _ _ _ _ _ hS (by omega) (by omega) (by omega) ((St.kp h4 (by decide) (by decide) (by decide)).trans eg15_0) o4_48_1 o4_56_1 es4_63_7 (by omega) (Nat.lt_succ_self _)

def ws_X9_clear_100 : List (Int × Int) := [(100, 3)]
def as_X9_clear_100 : List Int := []
def q_X9_clear_100 (M0 M' : Mem) (r : Option PV) : Prop := St Tru ws_X9_clear_100 as_X9_clear_100 M0 M' ∧ r = none ∧ (rd M' 100 3 = -1)
set_option maxRecDepth 100000 in
set_option maxHeartbeats 4000000 in
theorem sp_X9_clear_100 {l : Launch} {K : EC} {M0 : Mem} (hI : In Tru M0)    : Tr l K 0 mX9_clear 0 [(0, (2, 100))] [] M0 (q_X9_clear_100 M0) := by
  have hS : St Tru ws_X9_clear_100 as_X9_clear_100 M0 M0 := St.rf hI
  refine Tr.aload_n (pc := 0) (i := 0) d_X9_clear_0 rfl rfl ?_
  refine Tr.iconst (pc := 1) d_X9_clear_1 (by decide) ?_
  refine Tr.putfS (pc := 2) (P := St Tru ws_X9_clear_100 as_X9_clear_100 M0) d_X9_clear_2 f_9_19 (by decide) (by decide) (ty_100 hS.1.1) (st_100_3 hS (by decide) (by omega) trivial) (fun M2 hS w2 => ?_)
  have kr_100_3 : rd M2 100 3 = (-1) := w2.1
  exact Tr.vret (pc := 5) d_X9_clear_5 rfl ⟨hS, rfl, by omega⟩

def ws_X11_run_0 : List (Int × Int) := [(0, 9), (48, 1), (48, 9), (48, 10), (48, 11), (48, 12), (48, 13), (48, 14), (48, 15), (48, 16), (48, 17), (56, 1), (63, 0), (63, 1), (63, 2), (63, 3), (63, 4), (63, 5), (63, 7), (63, 8), (63, 9), (63, 10), (63, 11), (100, 3)]
def as_X11_run_0 : List Int := [49, 50, 51, 52, 53, 54, 55, 57, 58, 59, 60, 61, 62, 69, 191]
def q_X11_run_0 (a1 : Int) (M0 M' : Mem) (r : Option PV) : Prop := St Tru ws_X11_run_0 as_X11_run_0 M0 M' ∧ ∃ v : Int, r = some (0, v) ∧ (-2147483648) ≤ v ∧ v ≤ 2147483647 ∧ ((rd M' 0 9 = 1 ∧ rd M' 56 1 = 7 ∧ rd M' 100 3 = -1) ∨ M' = M0)
set_option maxRecDepth 100000 in
set_option maxHeartbeats 4000000 in
theorem sp_X11_run_0 {l : Launch} {K : EC} {M0 : Mem} (hI : In Tru M0) (en_0_4 : rd M0 0 4 = 7) (a1 : Int) (ha1 : (-2147483648) ≤ a1 ∧ a1 ≤ 2147483647)  (hF_Y15 : Yn15 M0) : Tr l K 6 mX11_run 0 [(0, (2, 0)), (1, (0, a1))] [] M0 (q_X11_run_0 a1 M0) := by
  have hS : St Tru ws_X11_run_0 as_X11_run_0 M0 M0 := St.rf hI
  refine Tr.iload_n (pc := 0) (i := 1) d_X11_run_0 rfl rfl ?_
  refine Tr.iconst (pc := 1) d_X11_run_1 (by decide) ?_
  refine Tr.icmp_ge (pc := 2) (tgt := 8) d_X11_run_2 rfl (fun c2 => ?_) (fun c2 => ?_)
  · refine Tr.aload_n (pc := 8) (i := 0) d_X11_run_8 rfl rfl ?_
    refine Tr.getf (pc := 9) d_X11_run_9 f_11_46 (by decide) (by decide) (ty_0 hS.1.1) ?_
    refine Tr.tp 48 (fx_0_7 hS.1.1) ?_
    refine Tr.aload_n (pc := 12) (i := 0) d_X11_run_12 rfl rfl ?_
    refine Tr.getf (pc := 13) d_X11_run_13 f_11_30 (by decide) (by decide) (ty_0 hS.1.1) ?_
    refine Tr.tp 7 ((St.kp hS (by decide) (by decide) (by decide)).trans en_0_4) ?_
    refine Tr.aload_n (pc := 16) (i := 0) d_X11_run_16 rfl rfl ?_
    refine Tr.getf (pc := 17) d_X11_run_17 f_11_37 (by decide) (by decide) (ty_0 hS.1.1) ?_
    refine Tr.tp 47 (fx_0_6 hS.1.1) ?_
    refine Tr.iload_n (pc := 20) (i := 1) d_X11_run_20 rfl rfl ?_
    refine Tr.callV (pc := 21) (as := [_, _, _]) d_X11_run_21 s_11_144 ok_X6_go rfl rfl (Nat.le_of_ble_eq_true rfl) (Nat.le_of_ble_eq_true rfl) (by decide) (ty_48 hS.1.1) ?_
    refine Tr.imp (Tr.deep (by decide) (sp_X6_go_48_7_47 hS.1 a1 (by omega) (Yn15.of hF_Y15 (fun j => (St.ka hS (by decide) (by decide) (by decide))) (fun j => (St.ka hS (by decide) (by decide) (by decide))) (St.kp hS (by decide) (by decide) (by decide))))) ?_
    rintro M21 _ ⟨h21, o21_48_1, o21_56_1, rfl⟩
    have hS := St.tr hS h21 (by decide) (by decide)
    refine Tr.sc [] rfl ?_
    refine Tr.aload_n (pc := 24) (i := 0) d_X11_run_24 rfl rfl ?_
    refine Tr.getf (pc := 25) d_X11_run_25 f_11_56 (by decide) (by decide) (ty_0 hS.1.1) ?_
    refine Tr.tp 100 (fx_0_10 hS.1.1) ?_
    refine Tr.callV (pc := 28) (as := []) d_X11_run_28 s_11_148 ok_X9_clear rfl rfl (Nat.le_of_ble_eq_true rfl) (Nat.le_of_ble_eq_true rfl) (by decide) (ty_100 hS.1.1) ?_
    refine Tr.imp (Tr.deep (by decide) (sp_X9_clear_100 hS.1 )) ?_
    rintro M28 _ ⟨h28, rfl, z28_0⟩
    have hS := St.tr hS h28 (by decide) (by decide)
    obtain ⟨s28_100_3, es28_100_3⟩ : ∃ v, rd M28 100 3 = v := ⟨_, rfl⟩
    have bs28_100_3 : (-2147483648) ≤ s28_100_3 ∧ s28_100_3 ≤ 2147483647 := by rw [← es28_100_3]; exact ir_100_3 hS.1.2.1
    refine Tr.sc [] rfl ?_
    refine Tr.aload_n (pc := 31) (i := 0) d_X11_run_31 rfl rfl ?_
    refine Tr.iconst (pc := 32) d_X11_run_32 (by decide) ?_
    refine Tr.putzS (pc := 33) (P := St Tru ws_X11_run_0 as_X11_run_0 M0) d_X11_run_33 f_11_109 (by decide) (ty_0 hS.1.1) (by omega) (st_0_9 hS (by decide) (by omega) trivial) (fun M33 hS w33 => ?_)
    refine Tr.aload_n (pc := 36) (i := 0) d_X11_run_36 rfl rfl ?_
    refine Tr.getf (pc := 37) d_X11_run_37 f_11_46 (by decide) (by decide) (ty_0 hS.1.1) ?_
    refine Tr.tp 48 (fx_0_7 hS.1.1) ?_
    refine Tr.getf (pc := 40) d_X11_run_40 f_11_149 (by decide) (by decide) (ty_48 hS.1.1) ?_
    refine Tr.gen (P := fun v => (-2147483648) ≤ v ∧ v ≤ 2147483647) (ir_48_14 hS.1.2.1) (fun r40 er40 br40 => ?_)
    have kz_0_9 : rd M33 0 9 = 1 := w33.1
    have kz_56_1 : rd M33 56 1 = 7 := ((Wr.b w33 rfl).trans ((St.kp h28 (by decide) (by decide) (by decide)).trans o21_56_1))
    have kz_100_3 : rd M33 100 3 = s28_100_3 := ((Wr.b w33 rfl).trans es28_100_3)
    exact Tr.iret (pc := 43) d_X11_run_43 rfl ⟨hS, _, rfl, by omega, by omega, Or.inl ⟨by omega, by omega, by omega⟩⟩
  · refine Tr.bipush (pc := 5) d_X11_run_5 rfl (by decide) ?_
    exact Tr.iret (pc := 7) d_X11_run_7 rfl ⟨hS, _, rfl, by omega, by omega, Or.inr rfl⟩

def ws_X7_isLetter : List (Int × Int) := []
def as_X7_isLetter : List Int := []
def q_X7_isLetter (M0 M' : Mem) (r : Option PV) : Prop := St Tru ws_X7_isLetter as_X7_isLetter M0 M' ∧ ∃ v : Int, r = some (0, v) ∧ 0 ≤ v ∧ v ≤ 1
set_option maxRecDepth 100000 in
set_option maxHeartbeats 4000000 in
theorem sp_X7_isLetter {l : Launch} {K : EC} {M0 : Mem} (hI : In Tru M0)  (a0 : Int) (ha0 : (-1000) ≤ a0 ∧ a0 ≤ 161)  : Tr l K 0 mX7_isLetter 0 [(0, (0, a0))] [] M0 (q_X7_isLetter M0) := by
  have hS : St Tru ws_X7_isLetter as_X7_isLetter M0 M0 := St.rf hI
  refine Tr.iload_n (pc := 0) (i := 0) d_X7_isLetter_0 rfl rfl ?_
  refine Tr.bipush (pc := 1) d_X7_isLetter_1 rfl (by decide) ?_
  refine Tr.icmp_lt (pc := 3) (tgt := 16) d_X7_isLetter_3 rfl (fun c3 => ?_) (fun c3 => ?_)
  · refine Tr.iconst (pc := 16) d_X7_isLetter_16 (by decide) ?_
    exact Tr.zret (pc := 17) d_X7_isLetter_17 rfl (by omega) ⟨hS, _, rfl, by omega, by omega⟩
  · refine Tr.iload_n (pc := 6) (i := 0) d_X7_isLetter_6 rfl rfl ?_
    refine Tr.bipush (pc := 7) d_X7_isLetter_7 rfl (by decide) ?_
    refine Tr.icmp_gt (pc := 9) (tgt := 16) d_X7_isLetter_9 rfl (fun c9 => ?_) (fun c9 => ?_)
    · refine Tr.iconst (pc := 16) d_X7_isLetter_16 (by decide) ?_
      exact Tr.zret (pc := 17) d_X7_isLetter_17 rfl (by omega) ⟨hS, _, rfl, by omega, by omega⟩
    · refine Tr.iconst (pc := 12) d_X7_isLetter_12 (by decide) ?_
      refine Tr.goto (pc := 13) (tgt := 17) d_X7_isLetter_13 rfl ?_
      exact Tr.zret (pc := 17) d_X7_isLetter_17 rfl (by omega) ⟨hS, _, rfl, by omega, by omega⟩

def ws_X7_isDigit : List (Int × Int) := []
def as_X7_isDigit : List Int := []
def q_X7_isDigit (M0 M' : Mem) (r : Option PV) : Prop := St Tru ws_X7_isDigit as_X7_isDigit M0 M' ∧ ∃ v : Int, r = some (0, v) ∧ 0 ≤ v ∧ v ≤ 1
set_option maxRecDepth 100000 in
set_option maxHeartbeats 4000000 in
theorem sp_X7_isDigit {l : Launch} {K : EC} {M0 : Mem} (hI : In Tru M0)  (a0 : Int) (ha0 : (-1000) ≤ a0 ∧ a0 ≤ 161)  : Tr l K 0 mX7_isDigit 0 [(0, (0, a0))] [] M0 (q_X7_isDigit M0) := by
  have hS : St Tru ws_X7_isDigit as_X7_isDigit M0 M0 := St.rf hI
  refine Tr.iload_n (pc := 0) (i := 0) d_X7_isDigit_0 rfl rfl ?_
  refine Tr.bipush (pc := 1) d_X7_isDigit_1 rfl (by decide) ?_
  refine Tr.icmp_lt (pc := 3) (tgt := 16) d_X7_isDigit_3 rfl (fun c3 => ?_) (fun c3 => ?_)
  · refine Tr.iconst (pc := 16) d_X7_isDigit_16 (by decide) ?_
    exact Tr.zret (pc := 17) d_X7_isDigit_17 rfl (by omega) ⟨hS, _, rfl, by omega, by omega⟩
  · refine Tr.iload_n (pc := 6) (i := 0) d_X7_isDigit_6 rfl rfl ?_
    refine Tr.bipush (pc := 7) d_X7_isDigit_7 rfl (by decide) ?_
    refine Tr.icmp_gt (pc := 9) (tgt := 16) d_X7_isDigit_9 rfl (fun c9 => ?_) (fun c9 => ?_)
    · refine Tr.iconst (pc := 16) d_X7_isDigit_16 (by decide) ?_
      exact Tr.zret (pc := 17) d_X7_isDigit_17 rfl (by omega) ⟨hS, _, rfl, by omega, by omega⟩
    · refine Tr.iconst (pc := 12) d_X7_isDigit_12 (by decide) ?_
      refine Tr.goto (pc := 13) (tgt := 17) d_X7_isDigit_13 rfl ?_
      exact Tr.zret (pc := 17) d_X7_isDigit_17 rfl (by omega) ⟨hS, _, rfl, by omega, by omega⟩

def ws_J1_canEncode_9a6ad : List (Int × Int) := []
def as_J1_canEncode_9a6ad : List Int := []
def q_J1_canEncode_9a6ad (M0 M' : Mem) (r : Option PV) : Prop := St Tru ws_J1_canEncode_9a6ad as_J1_canEncode_9a6ad M0 M' ∧ ∃ v : Int, r = some (0, v) ∧ 1 ≤ v ∧ v ≤ 1
set_option maxRecDepth 100000 in
set_option maxHeartbeats 4000000 in
theorem sp_J1_canEncode_9a6ad {l : Launch} {K : EC} {M0 : Mem} (hI : In Tru M0)  (a0 : Int) (ha0 : 1 ≤ a0 ∧ a0 ≤ 161)  : Tr l K 0 mJ1_canEncode_9a6ad 0 [(0, (0, a0))] [] M0 (q_J1_canEncode_9a6ad M0) := by
  have hS : St Tru ws_J1_canEncode_9a6ad as_J1_canEncode_9a6ad M0 M0 := St.rf hI
  refine Tr.iload_n (pc := 0) (i := 0) d_J1_canEncode_9a6ad_0 rfl rfl ?_
  refine Tr.if_lt (pc := 1) (tgt := 15) d_J1_canEncode_9a6ad_1 rfl (fun hc => absurd hc (by omega)) (fun _ => ?_)
  refine Tr.iload_n (pc := 4) (i := 0) d_J1_canEncode_9a6ad_4 rfl rfl ?_
  refine Tr.sipush (pc := 5) d_J1_canEncode_9a6ad_5 rfl (by decide) ?_
  refine Tr.icmp_gt (pc := 8) (tgt := 15) d_J1_canEncode_9a6ad_8 rfl (fun hc => absurd hc (by omega)) (fun _ => ?_)
  refine Tr.iconst (pc := 11) d_J1_canEncode_9a6ad_11 (by decide) ?_
  refine Tr.goto (pc := 12) (tgt := 16) d_J1_canEncode_9a6ad_12 rfl ?_
  exact Tr.zret (pc := 16) d_J1_canEncode_9a6ad_16 rfl (by omega) ⟨hS, _, rfl, by omega, by omega⟩

def ws_X7_add_2 : List (Int × Int) := [(2, 3)]
def as_X7_add_2 : List Int := [3, 4, 5]
def q_X7_add_2 (M0 M' : Mem) (r : Option PV) : Prop := St Tru ws_X7_add_2 as_X7_add_2 M0 M' ∧ ∃ v : Int, r = some (0, v) ∧ 1 ≤ v ∧ v ≤ 900
set_option maxRecDepth 100000 in
set_option maxHeartbeats 4000000 in
theorem sp_X7_add_2 {l : Launch} {K : EC} {M0 : Mem} (hI : In Tru M0)  (a1 : Int) (ha1 : 5 ≤ a1 ∧ a1 ≤ 5) (a2 : Int) (ha2 : 0 ≤ a2 ∧ a2 ≤ 899) (a3 : Int) (ha3 : 1 ≤ a3 ∧ a3 ≤ 161) (a4 : Int) (ha4 : 1 ≤ a4 ∧ a4 ≤ 900)  : Tr l K 0 mX7_add 0 [(0, (2, 2)), (1, (0, a1)), (2, (0, a2)), (3, (0, a3)), (4, (0, a4))] [] M0 (q_X7_add_2 M0) := by
  have hS : St Tru ws_X7_add_2 as_X7_add_2 M0 M0 := St.rf hI
  refine Tr.aload_n (pc := 0) (i := 0) d_X7_add_0 rfl rfl ?_
  refine Tr.getf (pc := 1) d_X7_add_1 f_7_29 (by decide) (by decide) (ty_2 hS.1.1) ?_
  refine Tr.gen (P := fun v => 0 ≤ v ∧ v ≤ 901) (ir_2_3 hS.1.2.1) (fun r1 er1 br1 => ?_)
  refine Tr.aload_n (pc := 4) (i := 0) d_X7_add_4 rfl rfl ?_
  refine Tr.getf (pc := 5) d_X7_add_5 f_7_9 (by decide) (by decide) (ty_2 hS.1.1) ?_
  refine Tr.tp 3 (fx_2_0 hS.1.1) ?_
  refine Tr.alen (pc := 8) d_X7_add_8 (ty_3 hS.1.1) (by decide) (by decide) ?_
  refine Tr.tp 901 rfl ?_
  refine Tr.icmp_ge (pc := 9) (tgt := 52) d_X7_add_9 rfl (fun c9 => ?_) (fun c9 => ?_)
  · refine Tr.iload (pc := 52) (i := 4) d_X7_add_52 rfl ?_
    exact Tr.iret (pc := 54) d_X7_add_54 rfl ⟨hS, _, rfl, by omega, by omega⟩
  · refine Tr.aload_n (pc := 12) (i := 0) d_X7_add_12 rfl rfl ?_
    refine Tr.getf (pc := 13) d_X7_add_13 f_7_9 (by decide) (by decide) (ty_2 hS.1.1) ?_
    refine Tr.tp 3 (fx_2_0 hS.1.1) ?_
    refine Tr.aload_n (pc := 16) (i := 0) d_X7_add_16 rfl rfl ?_
    refine Tr.getf (pc := 17) d_X7_add_17 f_7_29 (by decide) (by decide) (ty_2 hS.1.1) ?_
    refine Tr.tp r1 er1 ?_
    refine Tr.iload_n (pc := 20) (i := 1) d_X7_add_20 rfl rfl ?_
    refine Tr.tp 5 (by omega) ?_
    refine Tr.iastS (pc := 21) (P := St Tru ws_X7_add_2 as_X7_add_2 M0) d_X7_add_21 (ty_3 hS.1.1) (by omega) (by omega) (sa_3 hS (by decide) (by omega) trivial) (fun M21 hS w21 => ?_)
    refine Tr.aload_n (pc := 22) (i := 0) d_X7_add_22 rfl rfl ?_
    refine Tr.getf (pc := 23) d_X7_add_23 f_7_15 (by decide) (by decide) (ty_2 hS.1.1) ?_
    refine Tr.tp 4 (fx_2_1 hS.1.1) ?_
    refine Tr.aload_n (pc := 26) (i := 0) d_X7_add_26 rfl rfl ?_
    refine Tr.getf (pc := 27) d_X7_add_27 f_7_29 (by decide) (by decide) (ty_2 hS.1.1) ?_
    refine Tr.tp r1 ((Wr.b w21 rfl).trans er1) ?_
    refine Tr.iload_n (pc := 30) (i := 2) d_X7_add_30 rfl rfl ?_
    refine Tr.iastS (pc := 31) (P := St Tru ws_X7_add_2 as_X7_add_2 M0) d_X7_add_31 (ty_4 hS.1.1) (by omega) (by omega) (sa_4 hS (by decide) (by omega) trivial) (fun M31 hS w31 => ?_)
    refine Tr.aload_n (pc := 32) (i := 0) d_X7_add_32 rfl rfl ?_
    refine Tr.getf (pc := 33) d_X7_add_33 f_7_18 (by decide) (by decide) (ty_2 hS.1.1) ?_
    refine Tr.tp 5 (fx_2_2 hS.1.1) ?_
    refine Tr.aload_n (pc := 36) (i := 0) d_X7_add_36 rfl rfl ?_
    refine Tr.getf (pc := 37) d_X7_add_37 f_7_29 (by decide) (by decide) (ty_2 hS.1.1) ?_
    refine Tr.tp r1 ((Wr.b w31 rfl).trans ((Wr.b w21 rfl).trans er1)) ?_
    refine Tr.iload_n (pc := 40) (i := 3) d_X7_add_40 rfl rfl ?_
    refine Tr.iastS (pc := 41) (P := St Tru ws_X7_add_2 as_X7_add_2 M0) d_X7_add_41 (ty_5 hS.1.1) (by omega) (by omega) (sa_5 hS (by decide) (by omega) trivial) (fun M41 hS w41 => ?_)
    refine Tr.aload_n (pc := 42) (i := 0) d_X7_add_42 rfl rfl ?_
    refine Tr.dup (pc := 43) d_X7_add_43 ne21 ?_
    refine Tr.getf (pc := 44) d_X7_add_44 f_7_29 (by decide) (by decide) (ty_2 hS.1.1) ?_
    refine Tr.tp r1 ((Wr.b w41 rfl).trans ((Wr.b w31 rfl).trans ((Wr.b w21 rfl).trans er1))) ?_
    refine Tr.iconst (pc := 47) d_X7_add_47 (by decide) ?_
    refine Tr.iadd (pc := 48) d_X7_add_48 ?_
    refine Tr.tp (r1 + 1) ((w32_id (by omega)).trans (by omega)) ?_
    refine Tr.putfS (pc := 49) (P := St Tru ws_X7_add_2 as_X7_add_2 M0) d_X7_add_49 f_7_29 (by decide) (by decide) (ty_2 hS.1.1) (st_2_3 hS (by decide) (by omega) trivial) (fun M49 hS w49 => ?_)
    refine Tr.iload (pc := 52) (i := 4) d_X7_add_52 rfl ?_
    exact Tr.iret (pc := 54) d_X7_add_54 rfl ⟨hS, _, rfl, by omega, by omega⟩

def ws_X7_add_2_w1 : List (Int × Int) := [(2, 3)]
def as_X7_add_2_w1 : List Int := [3, 4, 5]
def q_X7_add_2_w1 (M0 M' : Mem) (r : Option PV) : Prop := St Tru ws_X7_add_2_w1 as_X7_add_2_w1 M0 M' ∧ ∃ v : Int, r = some (0, v) ∧ (-1) ≤ v ∧ v ≤ (-1)
set_option maxRecDepth 100000 in
set_option maxHeartbeats 4000000 in
theorem sp_X7_add_2_w1 {l : Launch} {K : EC} {M0 : Mem} (hI : In Tru M0)  (a1 : Int) (ha1 : 0 ≤ a1 ∧ a1 ≤ 0) (a2 : Int) (ha2 : 0 ≤ a2 ∧ a2 ≤ 900) (a3 : Int) (ha3 : 0 ≤ a3 ∧ a3 ≤ 0) (a4 : Int) (ha4 : (-1) ≤ a4 ∧ a4 ≤ (-1))  : Tr l K 0 mX7_add 0 [(0, (2, 2)), (1, (0, a1)), (2, (0, a2)), (3, (0, a3)), (4, (0, a4))] [] M0 (q_X7_add_2_w1 M0) := by
  have hS : St Tru ws_X7_add_2_w1 as_X7_add_2_w1 M0 M0 := St.rf hI
  refine Tr.aload_n (pc := 0) (i := 0) d_X7_add_0 rfl rfl ?_
  refine Tr.getf (pc := 1) d_X7_add_1 f_7_29 (by decide) (by decide) (ty_2 hS.1.1) ?_
  refine Tr.gen (P := fun v => 0 ≤ v ∧ v ≤ 901) (ir_2_3 hS.1.2.1) (fun r1 er1 br1 => ?_)
  refine Tr.aload_n (pc := 4) (i := 0) d_X7_add_4 rfl rfl ?_
  refine Tr.getf (pc := 5) d_X7_add_5 f_7_9 (by decide) (by decide) (ty_2 hS.1.1) ?_
  refine Tr.tp 3 (fx_2_0 hS.1.1) ?_
  refine Tr.alen (pc := 8) d_X7_add_8 (ty_3 hS.1.1) (by decide) (by decide) ?_
  refine Tr.tp 901 rfl ?_
  refine Tr.icmp_ge (pc := 9) (tgt := 52) d_X7_add_9 rfl (fun c9 => ?_) (fun c9 => ?_)
  · refine Tr.iload (pc := 52) (i := 4) d_X7_add_52 rfl ?_
    refine Tr.tp (-1) (by omega) ?_
    exact Tr.iret (pc := 54) d_X7_add_54 rfl ⟨hS, _, rfl, by omega, by omega⟩
  · refine Tr.aload_n (pc := 12) (i := 0) d_X7_add_12 rfl rfl ?_
    refine Tr.getf (pc := 13) d_X7_add_13 f_7_9 (by decide) (by decide) (ty_2 hS.1.1) ?_
    refine Tr.tp 3 (fx_2_0 hS.1.1) ?_
    refine Tr.aload_n (pc := 16) (i := 0) d_X7_add_16 rfl rfl ?_
    refine Tr.getf (pc := 17) d_X7_add_17 f_7_29 (by decide) (by decide) (ty_2 hS.1.1) ?_
    refine Tr.tp r1 er1 ?_
    refine Tr.iload_n (pc := 20) (i := 1) d_X7_add_20 rfl rfl ?_
    refine Tr.tp 0 (by omega) ?_
    refine Tr.iastS (pc := 21) (P := St Tru ws_X7_add_2_w1 as_X7_add_2_w1 M0) d_X7_add_21 (ty_3 hS.1.1) (by omega) (by omega) (sa_3 hS (by decide) (by omega) trivial) (fun M21 hS w21 => ?_)
    refine Tr.aload_n (pc := 22) (i := 0) d_X7_add_22 rfl rfl ?_
    refine Tr.getf (pc := 23) d_X7_add_23 f_7_15 (by decide) (by decide) (ty_2 hS.1.1) ?_
    refine Tr.tp 4 (fx_2_1 hS.1.1) ?_
    refine Tr.aload_n (pc := 26) (i := 0) d_X7_add_26 rfl rfl ?_
    refine Tr.getf (pc := 27) d_X7_add_27 f_7_29 (by decide) (by decide) (ty_2 hS.1.1) ?_
    refine Tr.tp r1 ((Wr.b w21 rfl).trans er1) ?_
    refine Tr.iload_n (pc := 30) (i := 2) d_X7_add_30 rfl rfl ?_
    refine Tr.iastS (pc := 31) (P := St Tru ws_X7_add_2_w1 as_X7_add_2_w1 M0) d_X7_add_31 (ty_4 hS.1.1) (by omega) (by omega) (sa_4 hS (by decide) (by omega) trivial) (fun M31 hS w31 => ?_)
    refine Tr.aload_n (pc := 32) (i := 0) d_X7_add_32 rfl rfl ?_
    refine Tr.getf (pc := 33) d_X7_add_33 f_7_18 (by decide) (by decide) (ty_2 hS.1.1) ?_
    refine Tr.tp 5 (fx_2_2 hS.1.1) ?_
    refine Tr.aload_n (pc := 36) (i := 0) d_X7_add_36 rfl rfl ?_
    refine Tr.getf (pc := 37) d_X7_add_37 f_7_29 (by decide) (by decide) (ty_2 hS.1.1) ?_
    refine Tr.tp r1 ((Wr.b w31 rfl).trans ((Wr.b w21 rfl).trans er1)) ?_
    refine Tr.iload_n (pc := 40) (i := 3) d_X7_add_40 rfl rfl ?_
    refine Tr.tp 0 (by omega) ?_
    refine Tr.iastS (pc := 41) (P := St Tru ws_X7_add_2_w1 as_X7_add_2_w1 M0) d_X7_add_41 (ty_5 hS.1.1) (by omega) (by omega) (sa_5 hS (by decide) (by omega) trivial) (fun M41 hS w41 => ?_)
    refine Tr.aload_n (pc := 42) (i := 0) d_X7_add_42 rfl rfl ?_
    refine Tr.dup (pc := 43) d_X7_add_43 ne21 ?_
    refine Tr.getf (pc := 44) d_X7_add_44 f_7_29 (by decide) (by decide) (ty_2 hS.1.1) ?_
    refine Tr.tp r1 ((Wr.b w41 rfl).trans ((Wr.b w31 rfl).trans ((Wr.b w21 rfl).trans er1))) ?_
    refine Tr.iconst (pc := 47) d_X7_add_47 (by decide) ?_
    refine Tr.iadd (pc := 48) d_X7_add_48 ?_
    refine Tr.tp (r1 + 1) ((w32_id (by omega)).trans (by omega)) ?_
    refine Tr.putfS (pc := 49) (P := St Tru ws_X7_add_2_w1 as_X7_add_2_w1 M0) d_X7_add_49 f_7_29 (by decide) (by decide) (ty_2 hS.1.1) (st_2_3 hS (by decide) (by omega) trivial) (fun M49 hS w49 => ?_)
    refine Tr.iload (pc := 52) (i := 4) d_X7_add_52 rfl ?_
    refine Tr.tp (-1) (by omega) ?_
    exact Tr.iret (pc := 54) d_X7_add_54 rfl ⟨hS, _, rfl, by omega, by omega⟩

def ws_X7_add_2_w2 : List (Int × Int) := [(2, 3)]
def as_X7_add_2_w2 : List Int := [3, 4, 5]
def q_X7_add_2_w2 (M0 M' : Mem) (r : Option PV) : Prop := St Tru ws_X7_add_2_w2 as_X7_add_2_w2 M0 M' ∧ ∃ v : Int, r = some (0, v) ∧ (-1) ≤ v ∧ v ≤ (-1)
set_option maxRecDepth 100000 in
set_option maxHeartbeats 4000000 in
theorem sp_X7_add_2_w2 {l : Launch} {K : EC} {M0 : Mem} (hI : In Tru M0)  (a1 : Int) (ha1 : 1 ≤ a1 ∧ a1 ≤ 1) (a2 : Int) (ha2 : 0 ≤ a2 ∧ a2 ≤ 899) (a3 : Int) (ha3 : 0 ≤ a3 ∧ a3 ≤ 0) (a4 : Int) (ha4 : (-1) ≤ a4 ∧ a4 ≤ (-1))  : Tr l K 0 mX7_add 0 [(0, (2, 2)), (1, (0, a1)), (2, (0, a2)), (3, (0, a3)), (4, (0, a4))] [] M0 (q_X7_add_2_w2 M0) := by
  have hS : St Tru ws_X7_add_2_w2 as_X7_add_2_w2 M0 M0 := St.rf hI
  refine Tr.aload_n (pc := 0) (i := 0) d_X7_add_0 rfl rfl ?_
  refine Tr.getf (pc := 1) d_X7_add_1 f_7_29 (by decide) (by decide) (ty_2 hS.1.1) ?_
  refine Tr.gen (P := fun v => 0 ≤ v ∧ v ≤ 901) (ir_2_3 hS.1.2.1) (fun r1 er1 br1 => ?_)
  refine Tr.aload_n (pc := 4) (i := 0) d_X7_add_4 rfl rfl ?_
  refine Tr.getf (pc := 5) d_X7_add_5 f_7_9 (by decide) (by decide) (ty_2 hS.1.1) ?_
  refine Tr.tp 3 (fx_2_0 hS.1.1) ?_
  refine Tr.alen (pc := 8) d_X7_add_8 (ty_3 hS.1.1) (by decide) (by decide) ?_
  refine Tr.tp 901 rfl ?_
  refine Tr.icmp_ge (pc := 9) (tgt := 52) d_X7_add_9 rfl (fun c9 => ?_) (fun c9 => ?_)
  · refine Tr.iload (pc := 52) (i := 4) d_X7_add_52 rfl ?_
    refine Tr.tp (-1) (by omega) ?_
    exact Tr.iret (pc := 54) d_X7_add_54 rfl ⟨hS, _, rfl, by omega, by omega⟩
  · refine Tr.aload_n (pc := 12) (i := 0) d_X7_add_12 rfl rfl ?_
    refine Tr.getf (pc := 13) d_X7_add_13 f_7_9 (by decide) (by decide) (ty_2 hS.1.1) ?_
    refine Tr.tp 3 (fx_2_0 hS.1.1) ?_
    refine Tr.aload_n (pc := 16) (i := 0) d_X7_add_16 rfl rfl ?_
    refine Tr.getf (pc := 17) d_X7_add_17 f_7_29 (by decide) (by decide) (ty_2 hS.1.1) ?_
    refine Tr.tp r1 er1 ?_
    refine Tr.iload_n (pc := 20) (i := 1) d_X7_add_20 rfl rfl ?_
    refine Tr.tp 1 (by omega) ?_
    refine Tr.iastS (pc := 21) (P := St Tru ws_X7_add_2_w2 as_X7_add_2_w2 M0) d_X7_add_21 (ty_3 hS.1.1) (by omega) (by omega) (sa_3 hS (by decide) (by omega) trivial) (fun M21 hS w21 => ?_)
    refine Tr.aload_n (pc := 22) (i := 0) d_X7_add_22 rfl rfl ?_
    refine Tr.getf (pc := 23) d_X7_add_23 f_7_15 (by decide) (by decide) (ty_2 hS.1.1) ?_
    refine Tr.tp 4 (fx_2_1 hS.1.1) ?_
    refine Tr.aload_n (pc := 26) (i := 0) d_X7_add_26 rfl rfl ?_
    refine Tr.getf (pc := 27) d_X7_add_27 f_7_29 (by decide) (by decide) (ty_2 hS.1.1) ?_
    refine Tr.tp r1 ((Wr.b w21 rfl).trans er1) ?_
    refine Tr.iload_n (pc := 30) (i := 2) d_X7_add_30 rfl rfl ?_
    refine Tr.iastS (pc := 31) (P := St Tru ws_X7_add_2_w2 as_X7_add_2_w2 M0) d_X7_add_31 (ty_4 hS.1.1) (by omega) (by omega) (sa_4 hS (by decide) (by omega) trivial) (fun M31 hS w31 => ?_)
    refine Tr.aload_n (pc := 32) (i := 0) d_X7_add_32 rfl rfl ?_
    refine Tr.getf (pc := 33) d_X7_add_33 f_7_18 (by decide) (by decide) (ty_2 hS.1.1) ?_
    refine Tr.tp 5 (fx_2_2 hS.1.1) ?_
    refine Tr.aload_n (pc := 36) (i := 0) d_X7_add_36 rfl rfl ?_
    refine Tr.getf (pc := 37) d_X7_add_37 f_7_29 (by decide) (by decide) (ty_2 hS.1.1) ?_
    refine Tr.tp r1 ((Wr.b w31 rfl).trans ((Wr.b w21 rfl).trans er1)) ?_
    refine Tr.iload_n (pc := 40) (i := 3) d_X7_add_40 rfl rfl ?_
    refine Tr.tp 0 (by omega) ?_
    refine Tr.iastS (pc := 41) (P := St Tru ws_X7_add_2_w2 as_X7_add_2_w2 M0) d_X7_add_41 (ty_5 hS.1.1) (by omega) (by omega) (sa_5 hS (by decide) (by omega) trivial) (fun M41 hS w41 => ?_)
    refine Tr.aload_n (pc := 42) (i := 0) d_X7_add_42 rfl rfl ?_
    refine Tr.dup (pc := 43) d_X7_add_43 ne21 ?_
    refine Tr.getf (pc := 44) d_X7_add_44 f_7_29 (by decide) (by decide) (ty_2 hS.1.1) ?_
    refine Tr.tp r1 ((Wr.b w41 rfl).trans ((Wr.b w31 rfl).trans ((Wr.b w21 rfl).trans er1))) ?_
    refine Tr.iconst (pc := 47) d_X7_add_47 (by decide) ?_
    refine Tr.iadd (pc := 48) d_X7_add_48 ?_
    refine Tr.tp (r1 + 1) ((w32_id (by omega)).trans (by omega)) ?_
    refine Tr.putfS (pc := 49) (P := St Tru ws_X7_add_2_w2 as_X7_add_2_w2 M0) d_X7_add_49 f_7_29 (by decide) (by decide) (ty_2 hS.1.1) (st_2_3 hS (by decide) (by omega) trivial) (fun M49 hS w49 => ?_)
    refine Tr.iload (pc := 52) (i := 4) d_X7_add_52 rfl ?_
    refine Tr.tp (-1) (by omega) ?_
    exact Tr.iret (pc := 54) d_X7_add_54 rfl ⟨hS, _, rfl, by omega, by omega⟩

def ws_X7_add_2_w3 : List (Int × Int) := [(2, 3)]
def as_X7_add_2_w3 : List Int := [3, 4, 5]
def q_X7_add_2_w3 (M0 M' : Mem) (r : Option PV) : Prop := St Tru ws_X7_add_2_w3 as_X7_add_2_w3 M0 M' ∧ ∃ v : Int, r = some (0, v) ∧ 0 ≤ v ∧ v ≤ 900
set_option maxRecDepth 100000 in
set_option maxHeartbeats 4000000 in
theorem sp_X7_add_2_w3 {l : Launch} {K : EC} {M0 : Mem} (hI : In Tru M0)  (a1 : Int) (ha1 : 3 ≤ a1 ∧ a1 ≤ 5) (a2 : Int) (ha2 : 0 ≤ a2 ∧ a2 ≤ 899) (a3 : Int) (ha3 : (-2147483648) ≤ a3 ∧ a3 ≤ 2147483647) (a4 : Int) (ha4 : 0 ≤ a4 ∧ a4 ≤ 900)  : Tr l K 0 mX7_add 0 [(0, (2, 2)), (1, (0, a1)), (2, (0, a2)), (3, (0, a3)), (4, (0, a4))] [] M0 (q_X7_add_2_w3 M0) := by
  have hS : St Tru ws_X7_add_2_w3 as_X7_add_2_w3 M0 M0 := St.rf hI
  refine Tr.aload_n (pc := 0) (i := 0) d_X7_add_0 rfl rfl ?_
  refine Tr.getf (pc := 1) d_X7_add_1 f_7_29 (by decide) (by decide) (ty_2 hS.1.1) ?_
  refine Tr.gen (P := fun v => 0 ≤ v ∧ v ≤ 901) (ir_2_3 hS.1.2.1) (fun r1 er1 br1 => ?_)
  refine Tr.aload_n (pc := 4) (i := 0) d_X7_add_4 rfl rfl ?_
  refine Tr.getf (pc := 5) d_X7_add_5 f_7_9 (by decide) (by decide) (ty_2 hS.1.1) ?_
  refine Tr.tp 3 (fx_2_0 hS.1.1) ?_
  refine Tr.alen (pc := 8) d_X7_add_8 (ty_3 hS.1.1) (by decide) (by decide) ?_
  refine Tr.tp 901 rfl ?_
  refine Tr.icmp_ge (pc := 9) (tgt := 52) d_X7_add_9 rfl (fun c9 => ?_) (fun c9 => ?_)
  · refine Tr.iload (pc := 52) (i := 4) d_X7_add_52 rfl ?_
    exact Tr.iret (pc := 54) d_X7_add_54 rfl ⟨hS, _, rfl, by omega, by omega⟩
  · refine Tr.aload_n (pc := 12) (i := 0) d_X7_add_12 rfl rfl ?_
    refine Tr.getf (pc := 13) d_X7_add_13 f_7_9 (by decide) (by decide) (ty_2 hS.1.1) ?_
    refine Tr.tp 3 (fx_2_0 hS.1.1) ?_
    refine Tr.aload_n (pc := 16) (i := 0) d_X7_add_16 rfl rfl ?_
    refine Tr.getf (pc := 17) d_X7_add_17 f_7_29 (by decide) (by decide) (ty_2 hS.1.1) ?_
    refine Tr.tp r1 er1 ?_
    refine Tr.iload_n (pc := 20) (i := 1) d_X7_add_20 rfl rfl ?_
    refine Tr.iastS (pc := 21) (P := St Tru ws_X7_add_2_w3 as_X7_add_2_w3 M0) d_X7_add_21 (ty_3 hS.1.1) (by omega) (by omega) (sa_3 hS (by decide) (by omega) trivial) (fun M21 hS w21 => ?_)
    refine Tr.aload_n (pc := 22) (i := 0) d_X7_add_22 rfl rfl ?_
    refine Tr.getf (pc := 23) d_X7_add_23 f_7_15 (by decide) (by decide) (ty_2 hS.1.1) ?_
    refine Tr.tp 4 (fx_2_1 hS.1.1) ?_
    refine Tr.aload_n (pc := 26) (i := 0) d_X7_add_26 rfl rfl ?_
    refine Tr.getf (pc := 27) d_X7_add_27 f_7_29 (by decide) (by decide) (ty_2 hS.1.1) ?_
    refine Tr.tp r1 ((Wr.b w21 rfl).trans er1) ?_
    refine Tr.iload_n (pc := 30) (i := 2) d_X7_add_30 rfl rfl ?_
    refine Tr.iastS (pc := 31) (P := St Tru ws_X7_add_2_w3 as_X7_add_2_w3 M0) d_X7_add_31 (ty_4 hS.1.1) (by omega) (by omega) (sa_4 hS (by decide) (by omega) trivial) (fun M31 hS w31 => ?_)
    refine Tr.aload_n (pc := 32) (i := 0) d_X7_add_32 rfl rfl ?_
    refine Tr.getf (pc := 33) d_X7_add_33 f_7_18 (by decide) (by decide) (ty_2 hS.1.1) ?_
    refine Tr.tp 5 (fx_2_2 hS.1.1) ?_
    refine Tr.aload_n (pc := 36) (i := 0) d_X7_add_36 rfl rfl ?_
    refine Tr.getf (pc := 37) d_X7_add_37 f_7_29 (by decide) (by decide) (ty_2 hS.1.1) ?_
    refine Tr.tp r1 ((Wr.b w31 rfl).trans ((Wr.b w21 rfl).trans er1)) ?_
    refine Tr.iload_n (pc := 40) (i := 3) d_X7_add_40 rfl rfl ?_
    refine Tr.iastS (pc := 41) (P := St Tru ws_X7_add_2_w3 as_X7_add_2_w3 M0) d_X7_add_41 (ty_5 hS.1.1) (by omega) (by omega) (sa_5 hS (by decide) (by omega) trivial) (fun M41 hS w41 => ?_)
    refine Tr.aload_n (pc := 42) (i := 0) d_X7_add_42 rfl rfl ?_
    refine Tr.dup (pc := 43) d_X7_add_43 ne21 ?_
    refine Tr.getf (pc := 44) d_X7_add_44 f_7_29 (by decide) (by decide) (ty_2 hS.1.1) ?_
    refine Tr.tp r1 ((Wr.b w41 rfl).trans ((Wr.b w31 rfl).trans ((Wr.b w21 rfl).trans er1))) ?_
    refine Tr.iconst (pc := 47) d_X7_add_47 (by decide) ?_
    refine Tr.iadd (pc := 48) d_X7_add_48 ?_
    refine Tr.tp (r1 + 1) ((w32_id (by omega)).trans (by omega)) ?_
    refine Tr.putfS (pc := 49) (P := St Tru ws_X7_add_2_w3 as_X7_add_2_w3 M0) d_X7_add_49 f_7_29 (by decide) (by decide) (ty_2 hS.1.1) (st_2_3 hS (by decide) (by omega) trivial) (fun M49 hS w49 => ?_)
    refine Tr.iload (pc := 52) (i := 4) d_X7_add_52 rfl ?_
    exact Tr.iret (pc := 54) d_X7_add_54 rfl ⟨hS, _, rfl, by omega, by omega⟩

def ws_X7_takeNumber_2 : List (Int × Int) := [(2, 3)]
def as_X7_takeNumber_2 : List Int := [3, 4, 5]
def q_X7_takeNumber_2 (M0 M' : Mem) (r : Option PV) : Prop := St Tru ws_X7_takeNumber_2 as_X7_takeNumber_2 M0 M' ∧ ∃ v : Int, r = some (0, v) ∧ (-1) ≤ v ∧ v ≤ 900
set_option maxRecDepth 100000 in
set_option maxHeartbeats 4000000 in
theorem sp_X7_takeNumber_2 {l : Launch} {K : EC} {M0 : Mem} (hI : In Tru M0) (en_2_4 : rd M0 2 4 = 1) (a1 : Int) (ha1 : 0 ≤ a1 ∧ a1 ≤ 899)  : Tr l K 1 mX7_takeNumber 0 [(0, (2, 2)), (1, (0, a1))] [] M0 (q_X7_takeNumber_2 M0) := by
  have hS : St Tru ws_X7_takeNumber_2 as_X7_takeNumber_2 M0 M0 := St.rf hI
  refine Tr.iload_n (pc := 0) (i := 1) d_X7_takeNumber_0 rfl rfl ?_
  refine Tr.istore_n (pc := 1) (i := 2) (ls2 := [(2, (0, a1)), (0, (2, 2)), (1, (0, a1))]) d_X7_takeNumber_1 rfl (by decide) rfl ?_
  refine Tr.iconst (pc := 2) d_X7_takeNumber_2 (by decide) ?_
  refine Tr.istore_n (pc := 3) (i := 3) (ls2 := [(3, (0, 0)), (2, (0, a1)), (0, (2, 2)), (1, (0, a1))]) d_X7_takeNumber_3 rfl (by decide) rfl ?_
  have J4 : ∀ (n4 : Nat) (M : Mem) (p4_2 p4_3 : Int), St Tru ws_X7_takeNumber_2 as_X7_takeNumber_2 M0 M → (0 ≤ p4_2 ∧ p4_2 ≤ 900) → ((-2147483648) ≤ p4_3 ∧ p4_3 ≤ 2147483647) → (900 - p4_2).toNat < n4 → Tr l K 1 mX7_takeNumber 4 [(0, (2, 2)), (1, (0, a1)), (2, (0, p4_2)), (3, (0, p4_3))] [] M (q_X7_takeNumber_2 M0) := by
    intro n4
    induction n4 with
    | zero => intro M p4_2 p4_3 hS bp4_2 bp4_3  hm4; exact absurd hm4 (Nat.not_lt_zero _)
    | succ n4 J4 =>
      intro M p4_2 p4_3 hS bp4_2 bp4_3  hm4
      refine Tr.iload_n (pc := 4) (i := 2) d_X7_takeNumber_4 rfl rfl ?_
      refine Tr.aload_n (pc := 5) (i := 0) d_X7_takeNumber_5 rfl rfl ?_
      refine Tr.getf (pc := 6) d_X7_takeNumber_6 f_7_25 (by decide) (by decide) (ty_2 hS.1.1) ?_
      refine Tr.gen (P := fun v => 0 ≤ v ∧ v ≤ 900) (ir_2_5 hS.1.2.1) (fun r6 er6 br6 => ?_)
      have J52 : ∀ (M : Mem), St Tru ws_X7_takeNumber_2 as_X7_takeNumber_2 M0 M → rd M 2 5 = r6 → Tr l K 1 mX7_takeNumber 52 [(0, (2, 2)), (1, (0, a1)), (2, (0, p4_2)), (3, (0, p4_3))] [] M (q_X7_takeNumber_2 M0) := by
        intro M  hS  k52_2_5
        refine Tr.iload_n (pc := 52) (i := 2) d_X7_takeNumber_52 rfl rfl ?_
        refine Tr.iload_n (pc := 53) (i := 1) d_X7_takeNumber_53 rfl rfl ?_
        refine Tr.isub (pc := 54) d_X7_takeNumber_54 ?_
        refine Tr.tp (-a1 + p4_2) ((w32_id (by omega)).trans (by omega)) ?_
        refine Tr.iconst (pc := 55) d_X7_takeNumber_55 (by decide) ?_
        refine Tr.icmp_le (pc := 56) (tgt := 70) d_X7_takeNumber_56 rfl (fun c56 => ?_) (fun c56 => ?_)
        · refine Tr.aload_n (pc := 70) (i := 0) d_X7_takeNumber_70 rfl rfl ?_
          refine Tr.iconst (pc := 71) d_X7_takeNumber_71 (by decide) ?_
          refine Tr.iload_n (pc := 72) (i := 1) d_X7_takeNumber_72 rfl rfl ?_
          refine Tr.iload_n (pc := 73) (i := 3) d_X7_takeNumber_73 rfl rfl ?_
          refine Tr.iload_n (pc := 74) (i := 2) d_X7_takeNumber_74 rfl rfl ?_
          refine Tr.callV (pc := 75) (as := [_, _, _, _]) d_X7_takeNumber_75 s_7_40 ok_X7_add rfl rfl (Nat.le_of_ble_eq_true rfl) (Nat.le_of_ble_eq_true rfl) (by decide) (ty_2 hS.1.1) ?_
          refine Tr.imp (Tr.deep (by decide) (sp_X7_add_2_w3 hS.1 4 (by omega) a1 (by omega) p4_3 (by omega) p4_2 (by omega))) ?_
          rintro M75 _ ⟨h75, r75, rfl, lr75, ur75⟩
          have hS := St.tr hS h75 (by decide) (by decide)
          refine Tr.sc [(0, r75)] rfl ?_
          exact Tr.iret (pc := 78) d_X7_takeNumber_78 rfl ⟨hS, _, rfl, by omega, by omega⟩
        · refine Tr.aload_n (pc := 59) (i := 0) d_X7_takeNumber_59 rfl rfl ?_
          refine Tr.iconst (pc := 60) d_X7_takeNumber_60 (by decide) ?_
          refine Tr.iload_n (pc := 61) (i := 1) d_X7_takeNumber_61 rfl rfl ?_
          refine Tr.iconst (pc := 62) d_X7_takeNumber_62 (by decide) ?_
          refine Tr.iadd (pc := 63) d_X7_takeNumber_63 ?_
          refine Tr.tp (a1 + 4) ((w32_id (by omega)).trans (by omega)) ?_
          refine Tr.iconst (pc := 64) d_X7_takeNumber_64 (by decide) ?_
          refine Tr.iconst (pc := 65) d_X7_takeNumber_65 (by decide) ?_
          refine Tr.callV (pc := 66) (as := [_, _, _, _]) d_X7_takeNumber_66 s_7_40 ok_X7_add rfl rfl (Nat.le_of_ble_eq_true rfl) (Nat.le_of_ble_eq_true rfl) (by decide) (ty_2 hS.1.1) ?_
          refine Tr.imp (Tr.deep (by decide) (sp_X7_add_2_w2 hS.1 1 (by omega) (a1 + 4) (by omega) 0 (by omega) (-1) (by omega))) ?_
          rintro M66 _ ⟨h66, r66, rfl, lr66, ur66⟩
          have hS := St.tr hS h66 (by decide) (by decide)
          refine Tr.sc [(0, r66)] rfl ?_
          exact Tr.iret (pc := 69) d_X7_takeNumber_69 rfl ⟨hS, _, rfl, by omega, by omega⟩
      refine Tr.icmp_ge (pc := 9) (tgt := 52) d_X7_takeNumber_9 rfl (fun c9 => ?_) (fun c9 => ?_)
      · refine Tr.pick [0, 1, 2, 3] (ls2 := [(0, (2, 2)), (1, (0, a1)), (2, (0, p4_2)), (3, (0, p4_3))]) rfl ?_
        exact J52 _ hS er6
      · refine Tr.iload_n (pc := 12) (i := 2) d_X7_takeNumber_12 rfl rfl ?_
        refine Tr.iload_n (pc := 13) (i := 1) d_X7_takeNumber_13 rfl rfl ?_
        refine Tr.iconst (pc := 14) d_X7_takeNumber_14 (by decide) ?_
        refine Tr.iadd (pc := 15) d_X7_takeNumber_15 ?_
        refine Tr.tp (a1 + 4) ((w32_id (by omega)).trans (by omega)) ?_
        refine Tr.icmp_gt (pc := 16) (tgt := 52) d_X7_takeNumber_16 rfl (fun c16 => ?_) (fun c16 => ?_)
        · refine Tr.pick [0, 1, 2, 3] (ls2 := [(0, (2, 2)), (1, (0, a1)), (2, (0, p4_2)), (3, (0, p4_3))]) rfl ?_
          exact J52 _ hS er6
        · refine Tr.aload_n (pc := 19) (i := 0) d_X7_takeNumber_19 rfl rfl ?_
          refine Tr.getf (pc := 20) d_X7_takeNumber_20 f_7_21 (by decide) (by decide) (ty_2 hS.1.1) ?_
          refine Tr.tp 1 ((St.kp hS (by decide) (by decide) (by decide)).trans en_2_4) ?_
          refine Tr.iload_n (pc := 23) (i := 2) d_X7_takeNumber_23 rfl rfl ?_
          refine Tr.bald (pc := 24) d_X7_takeNumber_24 (ty_1 hS.1.1) (by omega) (by omega) ?_
          refine Tr.gen (P := fun v => (-128) ≤ v ∧ v ≤ 127) (ar_1 hS.1.2.1 _) (fun r24 er24 br24 => ?_)
          refine Tr.callS (pc := 25) (as := [_]) d_X7_takeNumber_25 s_7_48 ok_X7_isDigit rfl rfl (Nat.le_of_ble_eq_true rfl) (Nat.le_of_ble_eq_true rfl) ?_
          refine Tr.imp (Tr.deep (by decide) (sp_X7_isDigit hS.1 r24 (by omega))) ?_
          rintro M25 _ ⟨h25, r25, rfl, lr25, ur25⟩
          have hS := St.tr hS h25 (by decide) (by decide)
          refine Tr.sc [(0, r25)] rfl ?_
          refine Tr.if_eq (pc := 28) (tgt := 52) d_X7_takeNumber_28 rfl (fun c28 => ?_) (fun c28 => ?_)
          · refine Tr.pick [0, 1, 2, 3] (ls2 := [(0, (2, 2)), (1, (0, a1)), (2, (0, p4_2)), (3, (0, p4_3))]) rfl ?_
            exact J52 _ hS ((St.kp h25 (by decide) (by decide) (by decide)).trans er6)
          · refine Tr.iload_n (pc := 31) (i := 3) d_X7_takeNumber_31 rfl rfl ?_
            refine Tr.bipush (pc := 32) d_X7_takeNumber_32 rfl (by decide) ?_
            refine Tr.imul (pc := 34) d_X7_takeNumber_34 ?_
            refine Tr.gen (P := fun v => (-2147483648) ≤ v ∧ v ≤ 2147483647) (w32_b _) (fun r34 er34 br34 => ?_)
            refine Tr.aload_n (pc := 35) (i := 0) d_X7_takeNumber_35 rfl rfl ?_
            refine Tr.getf (pc := 36) d_X7_takeNumber_36 f_7_21 (by decide) (by decide) (ty_2 hS.1.1) ?_
            refine Tr.tp 1 ((St.kp hS (by decide) (by decide) (by decide)).trans en_2_4) ?_
            refine Tr.iload_n (pc := 39) (i := 2) d_X7_takeNumber_39 rfl rfl ?_
            refine Tr.bald (pc := 40) d_X7_takeNumber_40 (ty_1 hS.1.1) (by omega) (by omega) ?_
            refine Tr.tp r24 ((St.ka h25 (by decide) (by decide) (by decide)).trans er24) ?_
            refine Tr.iadd (pc := 41) d_X7_takeNumber_41 ?_
            refine Tr.gen (P := fun v => (-2147483648) ≤ v ∧ v ≤ 2147483647) (w32_b _) (fun r41 er41 br41 => ?_)
            refine Tr.bipush (pc := 42) d_X7_takeNumber_42 rfl (by decide) ?_
            refine Tr.isub (pc := 44) d_X7_takeNumber_44 ?_
            refine Tr.gen (P := fun v => (-2147483648) ≤ v ∧ v ≤ 2147483647) (w32_b _) (fun r44 er44 br44 => ?_)
            refine Tr.istore_n (pc := 45) (i := 3) (ls2 := [(3, (0, r44)), (0, (2, 2)), (1, (0, a1)), (2, (0, p4_2))]) d_X7_takeNumber_45 rfl (by decide) rfl ?_
            refine Tr.iincV (pc := 46) (n2 := (p4_2 + 1)) (ls2 := [(2, (0, (p4_2 + 1))), (3, (0, r44)), (0, (2, 2)), (1, (0, a1))]) d_X7_takeNumber_46 rfl (by decide) ((w32_id (by omega)).trans (by omega)) rfl ?_
            refine Tr.goto (pc := 49) (tgt := 4) d_X7_takeNumber_49 rfl ?_
            refine Tr.pick [2, 3, 0, 1] (ls2 := [(0, (2, 2)), (1, (0, a1)), (2, (0, (p4_2 + 1))), (3, (0, r44))]) rfl ?_
            exact J4 _ _ _ hS (by omega) (by omega) (by omega)
  refine Tr.pick [2, 3, 1, 0] (ls2 := [(0, (2, 2)), (1, (0, a1)), (2, (0, a1)), (3, (0, 0))]) rfl ?_
  exact J4 _ _ _ _ hS (by omega) (by omega) (Nat.lt_succ_self _)

def ws_J3_checkIndex_8e157_xq : List (Int × Int) := []
def as_J3_checkIndex_8e157_xq : List Int := []
def q_J3_checkIndex_8e157_xq (M0 M' : Mem) (r : Option PV) : Prop := St Tru ws_J3_checkIndex_8e157_xq as_J3_checkIndex_8e157_xq M0 M' ∧ ∃ v : Int, r = some (0, v) ∧ 0 ≤ v ∧ v ≤ 161
set_option maxRecDepth 100000 in
set_option maxHeartbeats 4000000 in
theorem sp_J3_checkIndex_8e157_xq {l : Launch} {K : EC} {M0 : Mem} {xq : Int} (hI : In Tru M0)  (a0 : Int) (ha0 : 0 ≤ a0 ∧ a0 ≤ 161) (a1 : Int) (ha1 : 162 ≤ a1 ∧ a1 ≤ 162)  : Tr l K 0 mJ3_checkIndex_8e157 0 [(0, (0, a0)), (1, (0, a1)), (2, (2, xq))] [] M0 (q_J3_checkIndex_8e157_xq M0) := by
  have hS : St Tru ws_J3_checkIndex_8e157_xq as_J3_checkIndex_8e157_xq M0 M0 := St.rf hI
  refine Tr.iload_n (pc := 0) (i := 0) d_J3_checkIndex_8e157_0 rfl rfl ?_
  refine Tr.if_lt (pc := 1) (tgt := 9) d_J3_checkIndex_8e157_1 rfl (fun hc => absurd hc (by omega)) (fun _ => ?_)
  refine Tr.iload_n (pc := 4) (i := 0) d_J3_checkIndex_8e157_4 rfl rfl ?_
  refine Tr.iload_n (pc := 5) (i := 1) d_J3_checkIndex_8e157_5 rfl rfl ?_
  refine Tr.tp 162 (by omega) ?_
  refine Tr.icmp_lt (pc := 6) (tgt := 16) d_J3_checkIndex_8e157_6 rfl (fun _ => ?_) (fun hc => absurd (by omega) hc)
  refine Tr.iload_n (pc := 16) (i := 0) d_J3_checkIndex_8e157_16 rfl rfl ?_
  exact Tr.iret (pc := 17) d_J3_checkIndex_8e157_17 rfl ⟨hS, _, rfl, by omega, by omega⟩

def ws_X7_add_2_w4 : List (Int × Int) := [(2, 3)]
def as_X7_add_2_w4 : List Int := [3, 4, 5]
def q_X7_add_2_w4 (M0 M' : Mem) (r : Option PV) : Prop := St Tru ws_X7_add_2_w4 as_X7_add_2_w4 M0 M' ∧ ∃ v : Int, r = some (0, v) ∧ 0 ≤ v ∧ v ≤ 900
set_option maxRecDepth 100000 in
set_option maxHeartbeats 4000000 in
theorem sp_X7_add_2_w4 {l : Launch} {K : EC} {M0 : Mem} (hI : In Tru M0)  (a1 : Int) (ha1 : 2 ≤ a1 ∧ a1 ≤ 2) (a2 : Int) (ha2 : 0 ≤ a2 ∧ a2 ≤ 899) (a3 : Int) (ha3 : 0 ≤ a3 ∧ a3 ≤ 50) (a4 : Int) (ha4 : 0 ≤ a4 ∧ a4 ≤ 900)  : Tr l K 0 mX7_add 0 [(0, (2, 2)), (1, (0, a1)), (2, (0, a2)), (3, (0, a3)), (4, (0, a4))] [] M0 (q_X7_add_2_w4 M0) := by
  have hS : St Tru ws_X7_add_2_w4 as_X7_add_2_w4 M0 M0 := St.rf hI
  refine Tr.aload_n (pc := 0) (i := 0) d_X7_add_0 rfl rfl ?_
  refine Tr.getf (pc := 1) d_X7_add_1 f_7_29 (by decide) (by decide) (ty_2 hS.1.1) ?_
  refine Tr.gen (P := fun v => 0 ≤ v ∧ v ≤ 901) (ir_2_3 hS.1.2.1) (fun r1 er1 br1 => ?_)
  refine Tr.aload_n (pc := 4) (i := 0) d_X7_add_4 rfl rfl ?_
  refine Tr.getf (pc := 5) d_X7_add_5 f_7_9 (by decide) (by decide) (ty_2 hS.1.1) ?_
  refine Tr.tp 3 (fx_2_0 hS.1.1) ?_
  refine Tr.alen (pc := 8) d_X7_add_8 (ty_3 hS.1.1) (by decide) (by decide) ?_
  refine Tr.tp 901 rfl ?_
  refine Tr.icmp_ge (pc := 9) (tgt := 52) d_X7_add_9 rfl (fun c9 => ?_) (fun c9 => ?_)
  · refine Tr.iload (pc := 52) (i := 4) d_X7_add_52 rfl ?_
    exact Tr.iret (pc := 54) d_X7_add_54 rfl ⟨hS, _, rfl, by omega, by omega⟩
  · refine Tr.aload_n (pc := 12) (i := 0) d_X7_add_12 rfl rfl ?_
    refine Tr.getf (pc := 13) d_X7_add_13 f_7_9 (by decide) (by decide) (ty_2 hS.1.1) ?_
    refine Tr.tp 3 (fx_2_0 hS.1.1) ?_
    refine Tr.aload_n (pc := 16) (i := 0) d_X7_add_16 rfl rfl ?_
    refine Tr.getf (pc := 17) d_X7_add_17 f_7_29 (by decide) (by decide) (ty_2 hS.1.1) ?_
    refine Tr.tp r1 er1 ?_
    refine Tr.iload_n (pc := 20) (i := 1) d_X7_add_20 rfl rfl ?_
    refine Tr.tp 2 (by omega) ?_
    refine Tr.iastS (pc := 21) (P := St Tru ws_X7_add_2_w4 as_X7_add_2_w4 M0) d_X7_add_21 (ty_3 hS.1.1) (by omega) (by omega) (sa_3 hS (by decide) (by omega) trivial) (fun M21 hS w21 => ?_)
    refine Tr.aload_n (pc := 22) (i := 0) d_X7_add_22 rfl rfl ?_
    refine Tr.getf (pc := 23) d_X7_add_23 f_7_15 (by decide) (by decide) (ty_2 hS.1.1) ?_
    refine Tr.tp 4 (fx_2_1 hS.1.1) ?_
    refine Tr.aload_n (pc := 26) (i := 0) d_X7_add_26 rfl rfl ?_
    refine Tr.getf (pc := 27) d_X7_add_27 f_7_29 (by decide) (by decide) (ty_2 hS.1.1) ?_
    refine Tr.tp r1 ((Wr.b w21 rfl).trans er1) ?_
    refine Tr.iload_n (pc := 30) (i := 2) d_X7_add_30 rfl rfl ?_
    refine Tr.iastS (pc := 31) (P := St Tru ws_X7_add_2_w4 as_X7_add_2_w4 M0) d_X7_add_31 (ty_4 hS.1.1) (by omega) (by omega) (sa_4 hS (by decide) (by omega) trivial) (fun M31 hS w31 => ?_)
    refine Tr.aload_n (pc := 32) (i := 0) d_X7_add_32 rfl rfl ?_
    refine Tr.getf (pc := 33) d_X7_add_33 f_7_18 (by decide) (by decide) (ty_2 hS.1.1) ?_
    refine Tr.tp 5 (fx_2_2 hS.1.1) ?_
    refine Tr.aload_n (pc := 36) (i := 0) d_X7_add_36 rfl rfl ?_
    refine Tr.getf (pc := 37) d_X7_add_37 f_7_29 (by decide) (by decide) (ty_2 hS.1.1) ?_
    refine Tr.tp r1 ((Wr.b w31 rfl).trans ((Wr.b w21 rfl).trans er1)) ?_
    refine Tr.iload_n (pc := 40) (i := 3) d_X7_add_40 rfl rfl ?_
    refine Tr.iastS (pc := 41) (P := St Tru ws_X7_add_2_w4 as_X7_add_2_w4 M0) d_X7_add_41 (ty_5 hS.1.1) (by omega) (by omega) (sa_5 hS (by decide) (by omega) trivial) (fun M41 hS w41 => ?_)
    refine Tr.aload_n (pc := 42) (i := 0) d_X7_add_42 rfl rfl ?_
    refine Tr.dup (pc := 43) d_X7_add_43 ne21 ?_
    refine Tr.getf (pc := 44) d_X7_add_44 f_7_29 (by decide) (by decide) (ty_2 hS.1.1) ?_
    refine Tr.tp r1 ((Wr.b w41 rfl).trans ((Wr.b w31 rfl).trans ((Wr.b w21 rfl).trans er1))) ?_
    refine Tr.iconst (pc := 47) d_X7_add_47 (by decide) ?_
    refine Tr.iadd (pc := 48) d_X7_add_48 ?_
    refine Tr.tp (r1 + 1) ((w32_id (by omega)).trans (by omega)) ?_
    refine Tr.putfS (pc := 49) (P := St Tru ws_X7_add_2_w4 as_X7_add_2_w4 M0) d_X7_add_49 f_7_29 (by decide) (by decide) (ty_2 hS.1.1) (st_2_3 hS (by decide) (by omega) trivial) (fun M49 hS w49 => ?_)
    refine Tr.iload (pc := 52) (i := 4) d_X7_add_52 rfl ?_
    exact Tr.iret (pc := 54) d_X7_add_54 rfl ⟨hS, _, rfl, by omega, by omega⟩

def ws_X7_skipBlanks_2_w1 : List (Int × Int) := []
def as_X7_skipBlanks_2_w1 : List Int := []
def q_X7_skipBlanks_2_w1 (M0 M' : Mem) (r : Option PV) : Prop := St Tru ws_X7_skipBlanks_2_w1 as_X7_skipBlanks_2_w1 M0 M' ∧ ∃ v : Int, r = some (0, v) ∧ 0 ≤ v ∧ v ≤ 900
set_option maxRecDepth 100000 in
set_option maxHeartbeats 4000000 in
theorem sp_X7_skipBlanks_2_w1 {l : Launch} {K : EC} {M0 : Mem} (hI : In Tru M0) (en_2_4 : rd M0 2 4 = 1) (a1 : Int) (ha1 : 0 ≤ a1 ∧ a1 ≤ 900)  : Tr l K 0 mX7_skipBlanks 0 [(0, (2, 2)), (1, (0, a1))] [] M0 (q_X7_skipBlanks_2_w1 M0) := by
  have hS : St Tru ws_X7_skipBlanks_2_w1 as_X7_skipBlanks_2_w1 M0 M0 := St.rf hI
  refine Tr.iload_n (pc := 0) (i := 1) d_X7_skipBlanks_0 rfl rfl ?_
  refine Tr.istore_n (pc := 1) (i := 2) (ls2 := [(2, (0, a1)), (0, (2, 2)), (1, (0, a1))]) d_X7_skipBlanks_1 rfl (by decide) rfl ?_
  have J2 : ∀ (n2 : Nat) (M : Mem) (p2_2 : Int), St Tru ws_X7_skipBlanks_2_w1 as_X7_skipBlanks_2_w1 M0 M → (0 ≤ p2_2 ∧ p2_2 ≤ 900) → (900 - p2_2).toNat < n2 → Tr l K 0 mX7_skipBlanks 2 [(0, (2, 2)), (2, (0, p2_2))] [] M (q_X7_skipBlanks_2_w1 M0) := by
    intro n2
    induction n2 with
    | zero => intro M p2_2 hS bp2_2  hm2; exact absurd hm2 (Nat.not_lt_zero _)
    | succ n2 J2 =>
      intro M p2_2 hS bp2_2  hm2
      refine Tr.iload_n (pc := 2) (i := 2) d_X7_skipBlanks_2 rfl rfl ?_
      refine Tr.aload_n (pc := 3) (i := 0) d_X7_skipBlanks_3 rfl rfl ?_
      refine Tr.getf (pc := 4) d_X7_skipBlanks_4 f_7_25 (by decide) (by decide) (ty_2 hS.1.1) ?_
      refine Tr.gen (P := fun v => 0 ≤ v ∧ v ≤ 900) (ir_2_5 hS.1.2.1) (fun r4 er4 br4 => ?_)
      refine Tr.icmp_ge (pc := 7) (tgt := 38) d_X7_skipBlanks_7 rfl (fun c7 => ?_) (fun c7 => ?_)
      · refine Tr.iload_n (pc := 38) (i := 2) d_X7_skipBlanks_38 rfl rfl ?_
        exact Tr.iret (pc := 39) d_X7_skipBlanks_39 rfl ⟨hS, _, rfl, by omega, by omega⟩
      · refine Tr.aload_n (pc := 10) (i := 0) d_X7_skipBlanks_10 rfl rfl ?_
        refine Tr.getf (pc := 11) d_X7_skipBlanks_11 f_7_21 (by decide) (by decide) (ty_2 hS.1.1) ?_
        refine Tr.tp 1 ((St.kp hS (by decide) (by decide) (by decide)).trans en_2_4) ?_
        refine Tr.iload_n (pc := 14) (i := 2) d_X7_skipBlanks_14 rfl rfl ?_
        refine Tr.bald (pc := 15) d_X7_skipBlanks_15 (ty_1 hS.1.1) (by omega) (by omega) ?_
        refine Tr.gen (P := fun v => (-128) ≤ v ∧ v ≤ 127) (ar_1 hS.1.2.1 _) (fun r15 er15 br15 => ?_)
        refine Tr.bipush (pc := 16) d_X7_skipBlanks_16 rfl (by decide) ?_
        have J32 : ∀ (M : Mem), St Tru ws_X7_skipBlanks_2_w1 as_X7_skipBlanks_2_w1 M0 M → (10 ≤ r15 ∧ r15 ≤ 32) → rd M 1 p2_2 = r15 → rd M 2 5 = r4 → Tr l K 0 mX7_skipBlanks 32 [(0, (2, 2)), (2, (0, p2_2))] [] M (q_X7_skipBlanks_2_w1 M0) := by
          intro M  hS z32r15 k32_1_p2_210 k32_2_5
          refine Tr.iincV (pc := 32) (n2 := (p2_2 + 1)) (ls2 := [(2, (0, (p2_2 + 1))), (0, (2, 2))]) d_X7_skipBlanks_32 rfl (by decide) ((w32_id (by omega)).trans (by omega)) rfl ?_
          refine Tr.goto (pc := 35) (tgt := 2) d_X7_skipBlanks_35 rfl ?_
          refine Tr.pick [1, 0] (ls2 := [(0, (2, 2)), (2, (0, (p2_2 + 1)))]) rfl ?_
          exact J2 _ _ hS (by omega) (by omega)
        refine Tr.icmp_eq (pc := 18) (tgt := 32) d_X7_skipBlanks_18 rfl (fun c18 => ?_) (fun c18 => ?_)
        · refine Tr.pick [0, 1] (ls2 := [(0, (2, 2)), (2, (0, p2_2))]) rfl ?_
          exact J32 _ hS (by omega) er15 er4
        · refine Tr.aload_n (pc := 21) (i := 0) d_X7_skipBlanks_21 rfl rfl ?_
          refine Tr.getf (pc := 22) d_X7_skipBlanks_22 f_7_21 (by decide) (by decide) (ty_2 hS.1.1) ?_
          refine Tr.tp 1 ((St.kp hS (by decide) (by decide) (by decide)).trans en_2_4) ?_
          refine Tr.iload_n (pc := 25) (i := 2) d_X7_skipBlanks_25 rfl rfl ?_
          refine Tr.bald (pc := 26) d_X7_skipBlanks_26 (ty_1 hS.1.1) (by omega) (by omega) ?_
          refine Tr.tp r15 er15 ?_
          refine Tr.bipush (pc := 27) d_X7_skipBlanks_27 rfl (by decide) ?_
          refine Tr.icmp_ne (pc := 29) (tgt := 38) d_X7_skipBlanks_29 rfl (fun c29 => ?_) (fun c29 => ?_)
          · refine Tr.iload_n (pc := 38) (i := 2) d_X7_skipBlanks_38 rfl rfl ?_
            exact Tr.iret (pc := 39) d_X7_skipBlanks_39 rfl ⟨hS, _, rfl, by omega, by omega⟩
          · refine Tr.pick [0, 1] (ls2 := [(0, (2, 2)), (2, (0, p2_2))]) rfl ?_
            exact J32 _ hS (by omega) er15 er4
  refine Tr.pick [1, 0] (ls2 := [(0, (2, 2)), (2, (0, a1))]) rfl ?_
  exact J2 _ _ _ hS (by omega) (Nat.lt_succ_self _)

def ws_X4_clear_35 : List (Int × Int) := [(35, 0), (35, 11)]
def as_X4_clear_35 : List Int := []
def q_X4_clear_35 (M0 M' : Mem) (r : Option PV) : Prop := St Tru ws_X4_clear_35 as_X4_clear_35 M0 M' ∧ r = none
set_option maxRecDepth 100000 in
set_option maxHeartbeats 4000000 in
theorem sp_X4_clear_35 {l : Launch} {K : EC} {M0 : Mem} (hI : In Tru M0)    : Tr l K 0 mX4_clear 0 [(0, (2, 35))] [] M0 (q_X4_clear_35 M0) := by
  have hS : St Tru ws_X4_clear_35 as_X4_clear_35 M0 M0 := St.rf hI
  refine Tr.aload_n (pc := 0) (i := 0) d_X4_clear_0 rfl rfl ?_
  refine Tr.iconst (pc := 1) d_X4_clear_1 (by decide) ?_
  refine Tr.putfS (pc := 2) (P := St Tru ws_X4_clear_35 as_X4_clear_35 M0) d_X4_clear_2 f_4_45 (by decide) (by decide) (ty_35 hS.1.1) (st_35_0 hS (by decide) (by omega) trivial) (fun M2 hS w2 => ?_)
  refine Tr.aload_n (pc := 5) (i := 0) d_X4_clear_5 rfl rfl ?_
  refine Tr.iconst (pc := 6) d_X4_clear_6 (by decide) ?_
  refine Tr.putfS (pc := 7) (P := St Tru ws_X4_clear_35 as_X4_clear_35 M0) d_X4_clear_7 f_4_49 (by decide) (by decide) (ty_35 hS.1.1) (st_35_11 hS (by decide) (by omega) trivial) (fun M7 hS w7 => ?_)
  exact Tr.vret (pc := 10) d_X4_clear_10 rfl ⟨hS, rfl⟩
