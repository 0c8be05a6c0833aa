def ws_X1_payHeart_56_w3 : List (Int × Int) := []
def as_X1_payHeart_56_w3 : List Int := [60]
def q_X1_payHeart_56_w3 (M0 M' : Mem) (r : Option PV) : Prop := St Tru ws_X1_payHeart_56_w3 as_X1_payHeart_56_w3 M0 M' ∧ r = none
set_option maxRecDepth 100000 in
set_option maxHeartbeats 4000000 in
theorem sp_X1_payHeart_56_w3 {l : Launch} {K : EC} {M0 : Mem} (hI : In Tru M0) (en_56_1 : rd M0 56 1 = 27) (a1 : Int) (ha1 : 0 ≤ a1 ∧ a1 ≤ 59) (a2 : Int) (ha2 : (-2147483648) ≤ a2 ∧ a2 ≤ 2147483647)  : Tr l K 0 mX1_payHeart 0 [(0, (2, 56)), (1, (0, a1)), (2, (0, a2))] [] M0 (q_X1_payHeart_56_w3 M0) := by
  have hS : St Tru ws_X1_payHeart_56_w3 as_X1_payHeart_56_w3 M0 M0 := St.rf hI
  refine Tr.aload_n (pc := 0) (i := 0) d_X1_payHeart_0 rfl rfl ?_
  refine Tr.getz (pc := 1) d_X1_payHeart_1 f_1_37 (by decide) (ty_56 hS.1.1) ?_
  refine Tr.tp 1 (fx_56_0 hS.1.1) ?_
  refine Tr.if_eq (pc := 4) (tgt := 25) d_X1_payHeart_4 rfl (fun hc => absurd hc (by omega)) (fun _ => ?_)
  refine Tr.aload_n (pc := 7) (i := 0) d_X1_payHeart_7 rfl rfl ?_
  refine Tr.getf (pc := 8) d_X1_payHeart_8 f_1_21 (by decide) (by decide) (ty_56 hS.1.1) ?_
  refine Tr.tp 60 (fx_56_5 hS.1.1) ?_
  refine Tr.iload_n (pc := 11) (i := 1) d_X1_payHeart_11 rfl rfl ?_
  refine Tr.dup2 (pc := 12) d_X1_payHeart_12 ne01 ne21 ?_
  refine Tr.iald (pc := 13) d_X1_payHeart_13 (ty_60 hS.1.1) (by omega) (by omega) ?_
  refine Tr.gen (P := fun v => (-2147483648) ≤ v ∧ v ≤ 2147483647) (ar_60 hS.1.2.1 _) (fun r13 er13 br13 => ?_)
  refine Tr.iload_n (pc := 14) (i := 2) d_X1_payHeart_14 rfl rfl ?_
  refine Tr.aload_n (pc := 15) (i := 0) d_X1_payHeart_15 rfl rfl ?_
  refine Tr.getf (pc := 16) d_X1_payHeart_16 f_1_41 (by decide) (by decide) (ty_56 hS.1.1) ?_
  refine Tr.tp 27 ((St.kp hS (by decide) (by decide) (by decide)).trans en_56_1) ?_
  refine Tr.getf (pc := 19) d_X1_payHeart_19 f_1_57 (by decide) (by decide) (ty_27 hS.1.1) ?_
  refine Tr.gen (P := fun v => (-1) ≤ v ∧ v ≤ 999) (ir_27_0 hS.1.2.1) (fun r19 er19 br19 => ?_)
  refine Tr.imul (pc := 22) d_X1_payHeart_22 ?_
  refine Tr.gen (P := fun v => (-2147483648) ≤ v ∧ v ≤ 2147483647) (w32_b _) (fun r22 er22 br22 => ?_)
  refine Tr.iadd (pc := 23) d_X1_payHeart_23 ?_
  refine Tr.gen (P := fun v => (-2147483648) ≤ v ∧ v ≤ 2147483647) (w32_b _) (fun r23 er23 br23 => ?_)
  refine Tr.iastS (pc := 24) (P := St Tru ws_X1_payHeart_56_w3 as_X1_payHeart_56_w3 M0) d_X1_payHeart_24 (ty_60 hS.1.1) (by omega) (by omega) (sa_60 hS (by decide) (by omega) trivial) (fun M24 hS w24 => ?_)
  exact Tr.vret (pc := 25) d_X1_payHeart_25 rfl ⟨hS, rfl⟩

def ws_X6_go_48_27_47 : List (Int × Int) := [(48, 1), (48, 9), (48, 10), (48, 11), (48, 12), (48, 13), (48, 14), (48, 15), (48, 16), (48, 17), (56, 1), (63, 0), (63, 1), (63, 2), (63, 3), (63, 4), (63, 5), (63, 7), (63, 8), (63, 9), (63, 10), (63, 11)]
def as_X6_go_48_27_47 : List Int := [49, 50, 51, 52, 53, 54, 55, 57, 58, 59, 60, 61, 62, 69, 191]
def q_X6_go_48_27_47 (M0 M' : Mem) (r : Option PV) : Prop := St Tru ws_X6_go_48_27_47 as_X6_go_48_27_47 M0 M' ∧ rd M' 48 1 = 27 ∧ rd M' 56 1 = 27 ∧ r = none
set_option maxRecDepth 100000 in
set_option maxHeartbeats 4000000 in
theorem sp_X6_go_48_27_47 {l : Launch} {K : EC} {M0 : Mem} (hI : In Tru M0)  (a3 : Int) (ha3 : (-1) ≤ a3 ∧ a3 ≤ 2147483647)  (hF_Y35 : Yn35 M0) : Tr l K 5 mX6_go 0 [(0, (2, 48)), (1, (2, 27)), (2, (2, 47)), (3, (0, a3))] [] M0 (q_X6_go_48_27_47 M0) := by
  have hS : St Tru ws_X6_go_48_27_47 as_X6_go_48_27_47 M0 M0 := St.rf hI
  obtain ⟨g63_7, eg63_7⟩ : ∃ v, rd M0 63 7 = v := ⟨_, rfl⟩
  have bg63_7 : (-2147483648) ≤ g63_7 ∧ g63_7 ≤ 2147483647 := by rw [← eg63_7]; exact ir_63_7 hI.2.1
  obtain ⟨g35_0, eg35_0⟩ : ∃ v, rd M0 35 0 = v := ⟨_, rfl⟩
  have bg35_0 : 0 ≤ g35_0 ∧ g35_0 ≤ 60 := by rw [← eg35_0]; exact ir_35_0 hI.2.1
  refine Tr.aload_n (pc := 0) (i := 0) d_X6_go_0 rfl rfl ?_
  refine Tr.aload_n (pc := 1) (i := 1) d_X6_go_1 rfl rfl ?_
  refine Tr.aload_n (pc := 2) (i := 2) d_X6_go_2 rfl rfl ?_
  refine Tr.iload_n (pc := 3) (i := 3) d_X6_go_3 rfl rfl ?_
  refine Tr.callV (pc := 4) (as := [_, _, _]) d_X6_go_4 s_6_42 ok_X6_begin rfl rfl (Nat.le_of_ble_eq_true rfl) (Nat.le_of_ble_eq_true rfl) (by decide) (ty_48 hS.1.1) ?_
  refine Tr.imp (Tr.deep (by decide) (sp_X6_begin_48_27_47 hS.1 a3 (by omega))) ?_
  rintro M4 _ ⟨h4, o4_48_1, o4_56_1, rfl, z4_0, f4_Rn⟩
  have hS := St.tr hS h4 (by decide) (by decide)
  obtain ⟨s4_63_7, es4_63_7⟩ : ∃ v, rd M4 63 7 = v := ⟨_, rfl⟩
  have bs4_63_7 : (-2147483648) ≤ s4_63_7 ∧ s4_63_7 ≤ 2147483647 := by rw [← es4_63_7]; exact ir_63_7 hS.1.2.1
  have hS := St.rn hS f4_Rn
  refine Tr.sc [] rfl ?_
  refine Tr.iconst (pc := 7) d_X6_go_7 (by decide) ?_
  refine Tr.istore (pc := 8) (i := 4) (ls2 := [(4, (0, 0)), (0, (2, 48)), (1, (2, 27)), (2, (2, 47)), (3, (0, a3))]) d_X6_go_8 (by decide) rfl ?_
  refine Tr.iconst (pc := 10) d_X6_go_10 (by decide) ?_
  refine Tr.istore (pc := 11) (i := 5) (ls2 := [(5, (0, 0)), (4, (0, 0)), (0, (2, 48)), (1, (2, 27)), (2, (2, 47)), (3, (0, a3))]) d_X6_go_11 (by decide) rfl ?_
  have J13 : ∀ (n13 : Nat) (M : Mem) (p13_4 p13_5 u13_63_7 : Int), St Rn ws_X6_go_48_27_47 as_X6_go_48_27_47 M0 M → (0 ≤ p13_4 ∧ p13_4 ≤ 2147483647) → (0 ≤ p13_5 ∧ p13_5 ≤ 2001) → ((-2147483648) ≤ u13_63_7 ∧ u13_63_7 ≤ 2147483647) → rd M 35 0 = g35_0 → rd M 48 1 = 27 → rd M 56 1 = 27 → rd M 63 7 = u13_63_7 → (u13_63_7 ≤ p13_5) → (2001 - p13_5).toNat < n13 → Tr l K 5 mX6_go 13 [(0, (2, 48)), (4, (0, p13_4)), (5, (0, p13_5))] [] M (q_X6_go_48_27_47 M0) := by
    intro n13
    induction n13 with
    | zero => intro M p13_4 p13_5 u13_63_7 hS bp13_4 bp13_5 bu13_63_7 k13_35_0 k13_48_1 k13_56_1 k13_63_7 t13_0 hm13; exact absurd hm13 (Nat.not_lt_zero _)
    | succ n13 J13 =>
      intro M p13_4 p13_5 u13_63_7 hS bp13_4 bp13_5 bu13_63_7 k13_35_0 k13_48_1 k13_56_1 k13_63_7 t13_0 hm13
      refine Tr.iload (pc := 13) (i := 5) d_X6_go_13 rfl ?_
      refine Tr.sipush (pc := 15) d_X6_go_15 rfl (by decide) ?_
      have J103 : ∀ (M : Mem), St Rn ws_X6_go_48_27_47 as_X6_go_48_27_47 M0 M → rd M 35 0 = g35_0 → rd M 48 1 = 27 → rd M 56 1 = 27 → rd M 63 7 = u13_63_7 → Tr l K 5 mX6_go 103 [(0, (2, 48))] [] M (q_X6_go_48_27_47 M0) := by
        intro M  hS  k103_35_0 k103_48_1 k103_56_1 k103_63_7
        refine Tr.aload_n (pc := 103) (i := 0) d_X6_go_103 rfl rfl ?_
        refine Tr.callV (pc := 104) (as := []) d_X6_go_104 s_6_82 ok_X6_finish rfl rfl (Nat.le_of_ble_eq_true rfl) (Nat.le_of_ble_eq_true rfl) (by decide) (ty_48 hS.1.1) ?_
        refine Tr.imp (Tr.deep (by decide) (sp_X6_finish_48_w1 hS.1 k103_48_1 k103_56_1)) ?_
        rintro M104 _ ⟨h104, rfl⟩
        have hS := St.tr hS h104 (by decide) (by decide)
        refine Tr.sc [] rfl ?_
        have hS := hS.wk
        exact Tr.vret (pc := 107) d_X6_go_107 rfl ⟨hS, ((St.kp h104 (by decide) (by decide) (by decide)).trans k103_48_1), ((St.kp h104 (by decide) (by decide) (by decide)).trans k103_56_1), rfl⟩
      refine Tr.icmp_gt (pc := 18) (tgt := 103) d_X6_go_18 rfl (fun c18 => ?_) (fun c18 => ?_)
      · refine Tr.pick [0] (ls2 := [(0, (2, 48))]) rfl ?_
        exact J103 _ hS k13_35_0 k13_48_1 k13_56_1 k13_63_7
      · refine Tr.iload (pc := 21) (i := 4) d_X6_go_21 rfl ?_
        refine Tr.aload_n (pc := 23) (i := 0) d_X6_go_23 rfl rfl ?_
        refine Tr.getf (pc := 24) d_X6_go_24 f_6_46 (by decide) (by decide) (ty_48 hS.1.1) ?_
        refine Tr.tp 27 k13_48_1 ?_
        refine Tr.getf (pc := 27) d_X6_go_27 f_6_50 (by decide) (by decide) (ty_27 hS.1.1) ?_
        refine Tr.tp 35 (fx_27_11 hS.1.1) ?_
        refine Tr.getf (pc := 30) d_X6_go_30 f_6_56 (by decide) (by decide) (ty_35 hS.1.1) ?_
        refine Tr.tp g35_0 k13_35_0 ?_
        refine Tr.icmp_ge (pc := 33) (tgt := 103) d_X6_go_33 rfl (fun c33 => ?_) (fun c33 => ?_)
        · refine Tr.pick [0] (ls2 := [(0, (2, 48))]) rfl ?_
          exact J103 _ hS k13_35_0 k13_48_1 k13_56_1 k13_63_7
        · refine Tr.aload_n (pc := 36) (i := 0) d_X6_go_36 rfl rfl ?_
          refine Tr.getf (pc := 37) d_X6_go_37 f_6_62 (by decide) (by decide) (ty_48 hS.1.1) ?_
          refine Tr.gen (P := fun v => (-2147483648) ≤ v ∧ v ≤ 2147483647) (ir_48_14 hS.1.2.1) (fun r37 er37 br37 => ?_)
          refine Tr.if_ne (pc := 40) (tgt := 103) d_X6_go_40 rfl (fun c40 => ?_) (fun c40 => ?_)
          · refine Tr.pick [0] (ls2 := [(0, (2, 48))]) rfl ?_
            exact J103 _ hS k13_35_0 k13_48_1 k13_56_1 k13_63_7
          · refine Tr.aload_n (pc := 43) (i := 0) d_X6_go_43 rfl rfl ?_
            refine Tr.getf (pc := 44) d_X6_go_44 f_6_38 (by decide) (by decide) (ty_48 hS.1.1) ?_
            refine Tr.tp 56 (fx_48_0 hS.1.1) ?_
            refine Tr.callV (pc := 47) (as := []) d_X6_go_47 s_6_65 ok_X1_makeRoom rfl rfl (Nat.le_of_ble_eq_true rfl) (Nat.le_of_ble_eq_true rfl) (by decide) (ty_56 hS.1.1) ?_
            have kb47_63_7 : rd M 63 7 = u13_63_7 := k13_63_7
            refine Tr.imp (Tr.deep (by decide) (sp_X1_makeRoom_56 hS.1.wk (by omega))) ?_
            rintro M47 _ ⟨h47, rfl⟩
            have h47 := St.rn h47 (Rn.of hS.1.2.2.2.2 (fun _ => (St.ka h47 (by decide) (by decide) (by decide))) (St.kp h47 (by decide) (by decide) (by decide)))
            have hS := St.tr hS h47 (by decide) (by decide)
            refine Tr.sc [] rfl ?_
            refine Tr.aload_n (pc := 50) (i := 0) d_X6_go_50 rfl rfl ?_
            refine Tr.getf (pc := 51) d_X6_go_51 f_6_68 (by decide) (by decide) (ty_48 hS.1.1) ?_
            refine Tr.gen (P := fun v => (-2147483648) ≤ v ∧ v ≤ 2147483647) (ir_48_9 hS.1.2.1) (fun r51 er51 br51 => ?_)
            refine Tr.istore (pc := 54) (i := 6) (ls2 := [(6, (0, r51)), (0, (2, 48)), (4, (0, p13_4)), (5, (0, p13_5))]) d_X6_go_54 (by decide) rfl ?_
            refine Tr.aload_n (pc := 56) (i := 0) d_X6_go_56 rfl rfl ?_
            refine Tr.iload (pc := 57) (i := 4) d_X6_go_57 rfl ?_
            refine Tr.callV (pc := 59) (as := [_]) d_X6_go_59 s_6_71 ok_X6_step rfl rfl (Nat.le_of_ble_eq_true rfl) (Nat.le_of_ble_eq_true rfl) (by decide) (ty_48 hS.1.1) ?_
            have kb59_35_0 : rd M47 35 0 = g35_0 := ((St.kp h47 (by decide) (by decide) (by decide)).trans k13_35_0)
            have kb59_63_7 : rd M47 63 7 = u13_63_7 := ((St.kp h47 (by decide) (by decide) (by decide)).trans k13_63_7)
            refine Tr.imp (Tr.deep (by decide) (sp_X6_step_48_w3 hS.1 ((St.kp h47 (by decide) (by decide) (by decide)).trans k13_48_1) ((St.kp h47 (by decide) (by decide) (by decide)).trans k13_56_1) p13_4 (by omega) (by omega) (Yn35.of hF_Y35 (fun j => (St.ka hS (by decide) (by decide) (by decide))) (fun j => (St.ka hS (by decide) (by decide) (by decide))) (St.kp hS (by decide) (by decide) (by decide))))) ?_
            rintro M59 _ ⟨h59, r59, rfl, lr59, ur59, z59_0⟩
            have hS := St.tr hS h59 (by decide) (by decide)
            obtain ⟨s59_63_7, es59_63_7⟩ : ∃ v, rd M59 63 7 = v := ⟨_, rfl⟩
            have bs59_63_7 : (-2147483648) ≤ s59_63_7 ∧ s59_63_7 ≤ 2147483647 := by rw [← es59_63_7]; exact ir_63_7 hS.1.2.1
            refine Tr.sc [(0, r59)] rfl ?_
            refine Tr.istore (pc := 62) (i := 7) (ls2 := [(7, (0, r59)), (6, (0, r51)), (0, (2, 48)), (4, (0, p13_4)), (5, (0, p13_5))]) d_X6_go_62 (by decide) rfl ?_
            refine Tr.aload_n (pc := 64) (i := 0) d_X6_go_64 rfl rfl ?_
            refine Tr.getf (pc := 65) d_X6_go_65 f_6_38 (by decide) (by decide) (ty_48 hS.1.1) ?_
            refine Tr.tp 56 (fx_48_0 hS.1.1) ?_
            refine Tr.iload (pc := 68) (i := 4) d_X6_go_68 rfl ?_
            refine Tr.aload_n (pc := 70) (i := 0) d_X6_go_70 rfl rfl ?_
            refine Tr.getf (pc := 71) d_X6_go_71 f_6_68 (by decide) (by decide) (ty_48 hS.1.1) ?_
            refine Tr.gen (P := fun v => (-2147483648) ≤ v ∧ v ≤ 2147483647) (ir_48_9 hS.1.2.1) (fun r71 er71 br71 => ?_)
            refine Tr.iload (pc := 74) (i := 6) d_X6_go_74 rfl ?_
            refine Tr.isub (pc := 76) d_X6_go_76 ?_
            refine Tr.gen (P := fun v => (-2147483648) ≤ v ∧ v ≤ 2147483647) (w32_b _) (fun r76 er76 br76 => ?_)
            refine Tr.callV (pc := 77) (as := [_, _]) d_X6_go_77 s_6_75 ok_X1_payHeart rfl rfl (Nat.le_of_ble_eq_true rfl) (Nat.le_of_ble_eq_true rfl) (by decide) (ty_56 hS.1.1) ?_
            refine Tr.imp (Tr.deep (by decide) (sp_X1_payHeart_56_w3 hS.1.wk ((St.kp h59 (by decide) (by decide) (by decide)).trans ((St.kp h47 (by decide) (by decide) (by decide)).trans k13_56_1)) p13_4 (by omega) r76 (by omega))) ?_
            rintro M77 _ ⟨h77, rfl⟩
            have h77 := St.rn h77 (Rn.of hS.1.2.2.2.2 (fun _ => (St.ka h77 (by decide) (by decide) (by decide))) (St.kp h77 (by decide) (by decide) (by decide)))
            have hS := St.tr hS h77 (by decide) (by decide)
            refine Tr.sc [] rfl ?_
            refine Tr.aload_n (pc := 80) (i := 0) d_X6_go_80 rfl rfl ?_
            refine Tr.getf (pc := 81) d_X6_go_81 f_6_62 (by decide) (by decide) (ty_48 hS.1.1) ?_
            refine Tr.gen (P := fun v => (-2147483648) ≤ v ∧ v ≤ 2147483647) (ir_48_14 hS.1.2.1) (fun r81 er81 br81 => ?_)
            have J93 : ∀ (M : Mem), St Rn ws_X6_go_48_27_47 as_X6_go_48_27_47 M0 M → rd M 35 0 = g35_0 → rd M 48 1 = 27 → rd M 48 14 = r81 → rd M 48 9 = r71 → rd M 56 1 = 27 → rd M 63 7 = s59_63_7 → Tr l K 5 mX6_go 93 [(0, (2, 48)), (5, (0, p13_5)), (7, (0, r59))] [] M (q_X6_go_48_27_47 M0) := by
              intro M  hS  k93_35_0 k93_48_1 k93_48_14 k93_48_9 k93_56_1 k93_63_7
              refine Tr.iload (pc := 93) (i := 7) d_X6_go_93 rfl ?_
              refine Tr.istore (pc := 95) (i := 4) (ls2 := [(4, (0, r59)), (0, (2, 48)), (5, (0, p13_5)), (7, (0, r59))]) d_X6_go_95 (by decide) rfl ?_
              refine Tr.iincV (pc := 97) (n2 := (p13_5 + 1)) (ls2 := [(5, (0, (p13_5 + 1))), (4, (0, r59)), (0, (2, 48)), (7, (0, r59))]) d_X6_go_97 rfl (by decide) ((w32_id (by omega)).trans (by omega)) rfl ?_
              refine Tr.goto (pc := 100) (tgt := 13) d_X6_go_100 rfl ?_
              refine Tr.pick [2, 1, 0] (ls2 := [(0, (2, 48)), (4, (0, r59)), (5, (0, (p13_5 + 1)))]) rfl ?_
              exact J13 _ _ _ _ hS (by omega) (by omega) (by omega) k93_35_0 k93_48_1 k93_56_1 k93_63_7 (by omega) (by omega)
            refine Tr.if_eq (pc := 84) (tgt := 93) d_X6_go_84 rfl (fun c84 => ?_) (fun c84 => ?_)
            · refine Tr.pick [2, 4, 0] (ls2 := [(0, (2, 48)), (5, (0, p13_5)), (7, (0, r59))]) rfl ?_
              exact J93 _ hS ((St.kp h77 (by decide) (by decide) (by decide)).trans ((St.kp h59 (by decide) (by decide) (by decide)).trans ((St.kp h47 (by decide) (by decide) (by decide)).trans k13_35_0))) ((St.kp h77 (by decide) (by decide) (by decide)).trans ((St.kp h59 (by decide) (by decide) (by decide)).trans ((St.kp h47 (by decide) (by decide) (by decide)).trans k13_48_1))) er81 ((St.kp h77 (by decide) (by decide) (by decide)).trans er71) ((St.kp h77 (by decide) (by decide) (by decide)).trans ((St.kp h59 (by decide) (by decide) (by decide)).trans ((St.kp h47 (by decide) (by decide) (by decide)).trans k13_56_1))) ((St.kp h77 (by decide) (by decide) (by decide)).trans es59_63_7)
            · refine Tr.aload_n (pc := 87) (i := 0) d_X6_go_87 rfl rfl ?_
              refine Tr.iload (pc := 88) (i := 4) d_X6_go_88 rfl ?_
              refine Tr.putfS (pc := 90) (P := St Rn ws_X6_go_48_27_47 as_X6_go_48_27_47 M0) d_X6_go_90 f_6_79 (by decide) (by decide) (ty_48 hS.1.1) (st_48_15 hS (by decide) (by omega) (Rn.of hS.1.2.2.2.2 (fun _ => rd_wb _ rfl) (rd_wb _ rfl))) (fun M90 hS w90 => ?_)
              refine Tr.pick [2, 4, 0] (ls2 := [(0, (2, 48)), (5, (0, p13_5)), (7, (0, r59))]) rfl ?_
              exact J93 _ hS ((Wr.b w90 rfl).trans ((St.kp h77 (by decide) (by decide) (by decide)).trans ((St.kp h59 (by decide) (by decide) (by decide)).trans ((St.kp h47 (by decide) (by decide) (by decide)).trans k13_35_0)))) ((Wr.b w90 rfl).trans ((St.kp h77 (by decide) (by decide) (by decide)).trans ((St.kp h59 (by decide) (by decide) (by decide)).trans ((St.kp h47 (by decide) (by decide) (by decide)).trans k13_48_1)))) ((Wr.b w90 rfl).trans er81) ((Wr.b w90 rfl).trans ((St.kp h77 (by decide) (by decide) (by decide)).trans er71)) ((Wr.b w90 rfl).trans ((St.kp h77 (by decide) (by decide) (by decide)).trans ((St.kp h59 (by decide) (by decide) (by decide)).trans ((St.kp h47 (by decide) (by decide) (by decide)).trans k13_56_1)))) ((Wr.b w90 rfl).trans ((St.kp h77 (by decide) (by decide) (by decide)).trans es59_63_7))
  refine Tr.pick [2, 1, 0] (ls2 := [(0, (2, 48)), (4, (0, 0)), (5, (0, 0))]) rfl ?_
  exact J13 _ _ _ _ _ hS (by omega) (by omega) (by omega) ((St.kp h4 (by decide) (by decide) (by decide)).trans eg35_0) o4_48_1 o4_56_1 es4_63_7 (by omega) (Nat.lt_succ_self _)

def ws_X11_run_0_w1 : List (Int × Int) := [(0, 9), (48, 1), (48, 9), (48, 10), (48, 11), (48, 12), (48, 13), (48, 14), (48, 15), (48, 16), (48, 17), (56, 1), (63, 0), (63, 1), (63, 2), (63, 3), (63, 4), (63, 5), (63, 7), (63, 8), (63, 9), (63, 10), (63, 11), (100, 3)]
def as_X11_run_0_w1 : List Int := [49, 50, 51, 52, 53, 54, 55, 57, 58, 59, 60, 61, 62, 69, 191]
def q_X11_run_0_w1 (a1 : Int) (M0 M' : Mem) (r : Option PV) : Prop := St Tru ws_X11_run_0_w1 as_X11_run_0_w1 M0 M' ∧ ∃ v : Int, r = some (0, v) ∧ (-2147483648) ≤ v ∧ v ≤ 2147483647 ∧ ((rd M' 0 9 = 1 ∧ rd M' 56 1 = 27 ∧ rd M' 100 3 = -1) ∨ M' = M0)
set_option maxRecDepth 100000 in
set_option maxHeartbeats 4000000 in
theorem sp_X11_run_0_w1 {l : Launch} {K : EC} {M0 : Mem} (hI : In Tru M0) (en_0_4 : rd M0 0 4 = 27) (a1 : Int) (ha1 : (-2147483648) ≤ a1 ∧ a1 ≤ 2147483647)  (hF_Y35 : Yn35 M0) : Tr l K 6 mX11_run 0 [(0, (2, 0)), (1, (0, a1))] [] M0 (q_X11_run_0_w1 a1 M0) := by
  have hS : St Tru ws_X11_run_0_w1 as_X11_run_0_w1 M0 M0 := St.rf hI
  refine Tr.iload_n (pc := 0) (i := 1) d_X11_run_0 rfl rfl ?_
  refine Tr.iconst (pc := 1) d_X11_run_1 (by decide) ?_
  refine Tr.icmp_ge (pc := 2) (tgt := 8) d_X11_run_2 rfl (fun c2 => ?_) (fun c2 => ?_)
  · refine Tr.aload_n (pc := 8) (i := 0) d_X11_run_8 rfl rfl ?_
    refine Tr.getf (pc := 9) d_X11_run_9 f_11_46 (by decide) (by decide) (ty_0 hS.1.1) ?_
    refine Tr.tp 48 (fx_0_7 hS.1.1) ?_
    refine Tr.aload_n (pc := 12) (i := 0) d_X11_run_12 rfl rfl ?_
    refine Tr.getf (pc := 13) d_X11_run_13 f_11_30 (by decide) (by decide) (ty_0 hS.1.1) ?_
    refine Tr.tp 27 ((St.kp hS (by decide) (by decide) (by decide)).trans en_0_4) ?_
    refine Tr.aload_n (pc := 16) (i := 0) d_X11_run_16 rfl rfl ?_
    refine Tr.getf (pc := 17) d_X11_run_17 f_11_37 (by decide) (by decide) (ty_0 hS.1.1) ?_
    refine Tr.tp 47 (fx_0_6 hS.1.1) ?_
    refine Tr.iload_n (pc := 20) (i := 1) d_X11_run_20 rfl rfl ?_
    refine Tr.callV (pc := 21) (as := [_, _, _]) d_X11_run_21 s_11_144 ok_X6_go rfl rfl (Nat.le_of_ble_eq_true rfl) (Nat.le_of_ble_eq_true rfl) (by decide) (ty_48 hS.1.1) ?_
    refine Tr.imp (Tr.deep (by decide) (sp_X6_go_48_27_47 hS.1 a1 (by omega) (Yn35.of hF_Y35 (fun j => (St.ka hS (by decide) (by decide) (by decide))) (fun j => (St.ka hS (by decide) (by decide) (by decide))) (St.kp hS (by decide) (by decide) (by decide))))) ?_
    rintro M21 _ ⟨h21, o21_48_1, o21_56_1, rfl⟩
    have hS := St.tr hS h21 (by decide) (by decide)
    refine Tr.sc [] rfl ?_
    refine Tr.aload_n (pc := 24) (i := 0) d_X11_run_24 rfl rfl ?_
    refine Tr.getf (pc := 25) d_X11_run_25 f_11_56 (by decide) (by decide) (ty_0 hS.1.1) ?_
    refine Tr.tp 100 (fx_0_10 hS.1.1) ?_
    refine Tr.callV (pc := 28) (as := []) d_X11_run_28 s_11_148 ok_X9_clear rfl rfl (Nat.le_of_ble_eq_true rfl) (Nat.le_of_ble_eq_true rfl) (by decide) (ty_100 hS.1.1) ?_
    refine Tr.imp (Tr.deep (by decide) (sp_X9_clear_100 hS.1 )) ?_
    rintro M28 _ ⟨h28, rfl, z28_0⟩
    have hS := St.tr hS h28 (by decide) (by decide)
    obtain ⟨s28_100_3, es28_100_3⟩ : ∃ v, rd M28 100 3 = v := ⟨_, rfl⟩
    have bs28_100_3 : (-2147483648) ≤ s28_100_3 ∧ s28_100_3 ≤ 2147483647 := by rw [← es28_100_3]; exact ir_100_3 hS.1.2.1
    refine Tr.sc [] rfl ?_
    refine Tr.aload_n (pc := 31) (i := 0) d_X11_run_31 rfl rfl ?_
    refine Tr.iconst (pc := 32) d_X11_run_32 (by decide) ?_
    refine Tr.putzS (pc := 33) (P := St Tru ws_X11_run_0_w1 as_X11_run_0_w1 M0) d_X11_run_33 f_11_109 (by decide) (ty_0 hS.1.1) (by omega) (st_0_9 hS (by decide) (by omega) trivial) (fun M33 hS w33 => ?_)
    refine Tr.aload_n (pc := 36) (i := 0) d_X11_run_36 rfl rfl ?_
    refine Tr.getf (pc := 37) d_X11_run_37 f_11_46 (by decide) (by decide) (ty_0 hS.1.1) ?_
    refine Tr.tp 48 (fx_0_7 hS.1.1) ?_
    refine Tr.getf (pc := 40) d_X11_run_40 f_11_149 (by decide) (by decide) (ty_48 hS.1.1) ?_
    refine Tr.gen (P := fun v => (-2147483648) ≤ v ∧ v ≤ 2147483647) (ir_48_14 hS.1.2.1) (fun r40 er40 br40 => ?_)
    have kz_0_9 : rd M33 0 9 = 1 := w33.1
    have kz_56_1 : rd M33 56 1 = 27 := ((Wr.b w33 rfl).trans ((St.kp h28 (by decide) (by decide) (by decide)).trans o21_56_1))
    have kz_100_3 : rd M33 100 3 = s28_100_3 := ((Wr.b w33 rfl).trans es28_100_3)
    exact Tr.iret (pc := 43) d_X11_run_43 rfl ⟨hS, _, rfl, by omega, by omega, Or.inl ⟨by omega, by omega, by omega⟩⟩
  · refine Tr.bipush (pc := 5) d_X11_run_5 rfl (by decide) ?_
    exact Tr.iret (pc := 7) d_X11_run_7 rfl ⟨hS, _, rfl, by omega, by omega, Or.inr rfl⟩

def ws_X4_clear_15 : List (Int × Int) := [(15, 0), (15, 11)]
def as_X4_clear_15 : List Int := []
def q_X4_clear_15 (M0 M' : Mem) (r : Option PV) : Prop := St Tru ws_X4_clear_15 as_X4_clear_15 M0 M' ∧ r = none
set_option maxRecDepth 100000 in
set_option maxHeartbeats 4000000 in
theorem sp_X4_clear_15 {l : Launch} {K : EC} {M0 : Mem} (hI : In Tru M0)    : Tr l K 0 mX4_clear 0 [(0, (2, 15))] [] M0 (q_X4_clear_15 M0) := by
  have hS : St Tru ws_X4_clear_15 as_X4_clear_15 M0 M0 := St.rf hI
  refine Tr.aload_n (pc := 0) (i := 0) d_X4_clear_0 rfl rfl ?_
  refine Tr.iconst (pc := 1) d_X4_clear_1 (by decide) ?_
  refine Tr.putfS (pc := 2) (P := St Tru ws_X4_clear_15 as_X4_clear_15 M0) d_X4_clear_2 f_4_45 (by decide) (by decide) (ty_15 hS.1.1) (st_15_0 hS (by decide) (by omega) trivial) (fun M2 hS w2 => ?_)
  refine Tr.aload_n (pc := 5) (i := 0) d_X4_clear_5 rfl rfl ?_
  refine Tr.iconst (pc := 6) d_X4_clear_6 (by decide) ?_
  refine Tr.putfS (pc := 7) (P := St Tru ws_X4_clear_15 as_X4_clear_15 M0) d_X4_clear_7 f_4_49 (by decide) (by decide) (ty_15 hS.1.1) (st_15_11 hS (by decide) (by omega) trivial) (fun M7 hS w7 => ?_)
  exact Tr.vret (pc := 10) d_X4_clear_10 rfl ⟨hS, rfl⟩

def ws_X3_clear_7 : List (Int × Int) := [(7, 0), (7, 1), (7, 2), (7, 3), (15, 0), (15, 11)]
def as_X3_clear_7 : List Int := [8, 9, 12, 13, 14]
def q_X3_clear_7 (M0 M' : Mem) (r : Option PV) : Prop := St Tru ws_X3_clear_7 as_X3_clear_7 M0 M' ∧ r = none
set_option maxRecDepth 100000 in
set_option maxHeartbeats 4000000 in
theorem sp_X3_clear_7 {l : Launch} {K : EC} {M0 : Mem} (hI : In Tru M0)    : Tr l K 1 mX3_clear 0 [(0, (2, 7))] [] M0 (q_X3_clear_7 M0) := by
  have hS : St Tru ws_X3_clear_7 as_X3_clear_7 M0 M0 := St.rf hI
  refine Tr.aload_n (pc := 0) (i := 0) d_X3_clear_0 rfl rfl ?_
  refine Tr.iconst (pc := 1) d_X3_clear_1 (by decide) ?_
  refine Tr.putfS (pc := 2) (P := St Tru ws_X3_clear_7 as_X3_clear_7 M0) d_X3_clear_2 f_3_40 (by decide) (by decide) (ty_7 hS.1.1) (st_7_0 hS (by decide) (by omega) trivial) (fun M2 hS w2 => ?_)
  refine Tr.aload_n (pc := 5) (i := 0) d_X3_clear_5 rfl rfl ?_
  refine Tr.iconst (pc := 6) d_X3_clear_6 (by decide) ?_
  refine Tr.putfS (pc := 7) (P := St Tru ws_X3_clear_7 as_X3_clear_7 M0) d_X3_clear_7 f_3_44 (by decide) (by decide) (ty_7 hS.1.1) (st_7_1 hS (by decide) (by omega) trivial) (fun M7 hS w7 => ?_)
  refine Tr.aload_n (pc := 10) (i := 0) d_X3_clear_10 rfl rfl ?_
  refine Tr.iconst (pc := 11) d_X3_clear_11 (by decide) ?_
  refine Tr.putfS (pc := 12) (P := St Tru ws_X3_clear_7 as_X3_clear_7 M0) d_X3_clear_12 f_3_47 (by decide) (by decide) (ty_7 hS.1.1) (st_7_2 hS (by decide) (by omega) trivial) (fun M12 hS w12 => ?_)
  refine Tr.aload_n (pc := 15) (i := 0) d_X3_clear_15 rfl rfl ?_
  refine Tr.iconst (pc := 16) d_X3_clear_16 (by decide) ?_
  refine Tr.putfS (pc := 17) (P := St Tru ws_X3_clear_7 as_X3_clear_7 M0) d_X3_clear_17 f_3_50 (by decide) (by decide) (ty_7 hS.1.1) (st_7_3 hS (by decide) (by omega) trivial) (fun M17 hS w17 => ?_)
  refine Tr.aload_n (pc := 20) (i := 0) d_X3_clear_20 rfl rfl ?_
  refine Tr.getf (pc := 21) d_X3_clear_21 f_3_11 (by decide) (by decide) (ty_7 hS.1.1) ?_
  refine Tr.tp 8 (fx_7_4 hS.1.1) ?_
  refine Tr.iconst (pc := 24) d_X3_clear_24 (by decide) ?_
  refine Tr.callS (pc := 25) (as := [_, _]) d_X3_clear_25 s_3_53 ok_J7_fill_53178 rfl rfl (Nat.le_of_ble_eq_true rfl) (Nat.le_of_ble_eq_true rfl) ?_
  refine Tr.imp (sp_fill (N := 3) (ty_8 hS.1.1) (by decide)) ?_
  rintro _ _ ⟨rfl, rfl⟩
  refine Tr.nmA (P := St Tru ws_X3_clear_7 as_X3_clear_7 M0) (St.wp (x := 8) (v := 0) 3 hS (by decide) (by decide) (by decide +kernel) (by decide +kernel) (by decide +kernel) trivial) (fil_wa _ _ _ _) (fun M25 hS w25 => ?_)
  refine Tr.sc [] rfl ?_
  refine Tr.aload_n (pc := 28) (i := 0) d_X3_clear_28 rfl rfl ?_
  refine Tr.getf (pc := 29) d_X3_clear_29 f_3_15 (by decide) (by decide) (ty_7 hS.1.1) ?_
  refine Tr.tp 9 (fx_7_5 hS.1.1) ?_
  refine Tr.iconst (pc := 32) d_X3_clear_32 (by decide) ?_
  refine Tr.callS (pc := 33) (as := [_, _]) d_X3_clear_33 s_3_53 ok_J7_fill_53178 rfl rfl (Nat.le_of_ble_eq_true rfl) (Nat.le_of_ble_eq_true rfl) ?_
  refine Tr.imp (sp_fill (N := 24) (ty_9 hS.1.1) (by decide)) ?_
  rintro _ _ ⟨rfl, rfl⟩
  refine Tr.nmA (P := St Tru ws_X3_clear_7 as_X3_clear_7 M0) (sf_9 (v := 0) 24 hS (by decide) (by omega) trivial) (fil_wa _ _ _ _) (fun M33 hS w33 => ?_)
  refine Tr.sc [] rfl ?_
  refine Tr.aload_n (pc := 36) (i := 0) d_X3_clear_36 rfl rfl ?_
  refine Tr.getf (pc := 37) d_X3_clear_37 f_3_24 (by decide) (by decide) (ty_7 hS.1.1) ?_
  refine Tr.tp 12 (fx_7_8 hS.1.1) ?_
  refine Tr.iconst (pc := 40) d_X3_clear_40 (by decide) ?_
  refine Tr.callS (pc := 41) (as := [_, _]) d_X3_clear_41 s_3_53 ok_J7_fill_53178 rfl rfl (Nat.le_of_ble_eq_true rfl) (Nat.le_of_ble_eq_true rfl) ?_
  refine Tr.imp (sp_fill (N := 3) (ty_12 hS.1.1) (by decide)) ?_
  rintro _ _ ⟨rfl, rfl⟩
  refine Tr.nmA (P := St Tru ws_X3_clear_7 as_X3_clear_7 M0) (sf_12 (v := 0) 3 hS (by decide) (by omega) trivial) (fil_wa _ _ _ _) (fun M41 hS w41 => ?_)
  refine Tr.sc [] rfl ?_
  refine Tr.aload_n (pc := 44) (i := 0) d_X3_clear_44 rfl rfl ?_
  refine Tr.getf (pc := 45) d_X3_clear_45 f_3_27 (by decide) (by decide) (ty_7 hS.1.1) ?_
  refine Tr.tp 13 (fx_7_9 hS.1.1) ?_
  refine Tr.iconst (pc := 48) d_X3_clear_48 (by decide) ?_
  refine Tr.callS (pc := 49) (as := [_, _]) d_X3_clear_49 s_3_53 ok_J7_fill_53178 rfl rfl (Nat.le_of_ble_eq_true rfl) (Nat.le_of_ble_eq_true rfl) ?_
  refine Tr.imp (sp_fill (N := 3) (ty_13 hS.1.1) (by decide)) ?_
  rintro _ _ ⟨rfl, rfl⟩
  refine Tr.nmA (P := St Tru ws_X3_clear_7 as_X3_clear_7 M0) (sf_13 (v := 0) 3 hS (by decide) (by omega) trivial) (fil_wa _ _ _ _) (fun M49 hS w49 => ?_)
  refine Tr.sc [] rfl ?_
  refine Tr.aload_n (pc := 52) (i := 0) d_X3_clear_52 rfl rfl ?_
  refine Tr.getf (pc := 53) d_X3_clear_53 f_3_30 (by decide) (by decide) (ty_7 hS.1.1) ?_
  refine Tr.tp 14 (fx_7_10 hS.1.1) ?_
  refine Tr.iconst (pc := 56) d_X3_clear_56 (by decide) ?_
  refine Tr.callS (pc := 57) (as := [_, _]) d_X3_clear_57 s_3_53 ok_J7_fill_53178 rfl rfl (Nat.le_of_ble_eq_true rfl) (Nat.le_of_ble_eq_true rfl) ?_
  refine Tr.imp (sp_fill (N := 15) (ty_14 hS.1.1) (by decide)) ?_
  rintro _ _ ⟨rfl, rfl⟩
  refine Tr.nmA (P := St Tru ws_X3_clear_7 as_X3_clear_7 M0) (sf_14 (v := 0) 15 hS (by decide) (by omega) trivial) (fil_wa _ _ _ _) (fun M57 hS w57 => ?_)
  refine Tr.sc [] rfl ?_
  refine Tr.aload_n (pc := 60) (i := 0) d_X3_clear_60 rfl rfl ?_
  refine Tr.getf (pc := 61) d_X3_clear_61 f_3_36 (by decide) (by decide) (ty_7 hS.1.1) ?_
  refine Tr.tp 15 (fx_7_11 hS.1.1) ?_
  refine Tr.callV (pc := 64) (as := []) d_X3_clear_64 s_3_59 ok_X4_clear rfl rfl (Nat.le_of_ble_eq_true rfl) (Nat.le_of_ble_eq_true rfl) (by decide) (ty_15 hS.1.1) ?_
  refine Tr.imp (Tr.deep (by decide) (sp_X4_clear_15 hS.1 )) ?_
  rintro M64 _ ⟨h64, rfl⟩
  have hS := St.tr hS h64 (by decide) (by decide)
  refine Tr.sc [] rfl ?_
  exact Tr.vret (pc := 67) d_X3_clear_67 rfl ⟨hS, rfl⟩

def ws_X3_isFull_7 : List (Int × Int) := []
def as_X3_isFull_7 : List Int := []
def q_X3_isFull_7 (M0 M' : Mem) (r : Option PV) : Prop := St Tru ws_X3_isFull_7 as_X3_isFull_7 M0 M' ∧ ∃ v : Int, r = some (0, v) ∧ 0 ≤ v ∧ v ≤ 1
set_option maxRecDepth 100000 in
set_option maxHeartbeats 4000000 in
theorem sp_X3_isFull_7 {l : Launch} {K : EC} {M0 : Mem} {xq : Int} (hI : In Tru M0) (hE : e_all K xq)  (a1 : Int) (ha1 : 2 ≤ a1 ∧ a1 ≤ 2)  : Tr l K 0 mX3_isFull 0 [(0, (2, 7)), (1, (0, a1))] [] M0 (q_X3_isFull_7 M0) := by
  have hS : St Tru ws_X3_isFull_7 as_X3_isFull_7 M0 M0 := St.rf hI
  refine Tr.aload_n (pc := 0) (i := 0) d_X3_isFull_0 rfl rfl ?_
  refine Tr.getf (pc := 1) d_X3_isFull_1 f_3_11 (by decide) (by decide) (ty_7 hS.1.1) ?_
  refine Tr.tp 8 (fx_7_4 hS.1.1) ?_
  refine Tr.iload_n (pc := 4) (i := 1) d_X3_isFull_4 rfl rfl ?_
  refine Tr.tp 2 (by omega) ?_
  refine Tr.iald (pc := 5) d_X3_isFull_5 (ty_8 hS.1.1) (by omega) (by omega) ?_
  refine Tr.gen (P := fun v => 0 ≤ v ∧ v ≤ 6) (ir_8_2 hS.1.2.1) (fun r5 er5 br5 => ?_)
  refine Tr.gets (pc := 6) d_X3_isFull_6 sl_3_62 hE.2.2.2.1 ?_
  refine Tr.iload_n (pc := 9) (i := 1) d_X3_isFull_9 rfl rfl ?_
  refine Tr.tp 2 (by omega) ?_
  refine Tr.xld (pc := 10) (i := 1) d_X3_isFull_10 rfl hE.1 (by omega) (by omega) ?_
  refine Tr.tp 6 (by decide) ?_
  refine Tr.icmp_lt (pc := 11) (tgt := 18) d_X3_isFull_11 rfl (fun c11 => ?_) (fun c11 => ?_)
  · refine Tr.iconst (pc := 18) d_X3_isFull_18 (by decide) ?_
    exact Tr.zret (pc := 19) d_X3_isFull_19 rfl (by omega) ⟨hS, _, rfl, by omega, by omega⟩
  · refine Tr.iconst (pc := 14) d_X3_isFull_14 (by decide) ?_
    refine Tr.goto (pc := 15) (tgt := 19) d_X3_isFull_15 rfl ?_
    exact Tr.zret (pc := 19) d_X3_isFull_19 rfl (by omega) ⟨hS, _, rfl, by omega, by omega⟩

def ws_X3_find_7 : List (Int × Int) := []
def as_X3_find_7 : List Int := []
def q_X3_find_7 (M0 M' : Mem) (r : Option PV) : Prop := St Tru ws_X3_find_7 as_X3_find_7 M0 M' ∧ ∃ v : Int, r = some (0, v) ∧ (-1) ≤ v ∧ v ≤ 14
set_option maxRecDepth 100000 in
set_option maxHeartbeats 4000000 in
theorem sp_X3_find_7 {l : Launch} {K : EC} {M0 : Mem} (hI : In Tru M0)  (a1 : Int) (ha1 : (-2147483648) ≤ a1 ∧ a1 ≤ 2147483647)  : Tr l K 0 mX3_find 0 [(0, (2, 7)), (1, (0, a1))] [] M0 (q_X3_find_7 M0) := by
  have hS : St Tru ws_X3_find_7 as_X3_find_7 M0 M0 := St.rf hI
  refine Tr.iconst (pc := 0) d_X3_find_0 (by decide) ?_
  refine Tr.istore_n (pc := 1) (i := 2) (ls2 := [(2, (0, 0)), (0, (2, 7)), (1, (0, a1))]) d_X3_find_1 rfl (by decide) rfl ?_
  have J2 : ∀ (n2 : Nat) (M : Mem) (p2_2 : Int), St Tru ws_X3_find_7 as_X3_find_7 M0 M → (0 ≤ p2_2 ∧ p2_2 ≤ 15) → (15 - p2_2).toNat < n2 → Tr l K 0 mX3_find 2 [(0, (2, 7)), (1, (0, a1)), (2, (0, p2_2))] [] M (q_X3_find_7 M0) := by
    intro n2
    induction n2 with
    | zero => intro M p2_2 hS bp2_2  hm2; exact absurd hm2 (Nat.not_lt_zero _)
    | succ n2 J2 =>
      intro M p2_2 hS bp2_2  hm2
      refine Tr.iload_n (pc := 2) (i := 2) d_X3_find_2 rfl rfl ?_
      refine Tr.bipush (pc := 3) d_X3_find_3 rfl (by decide) ?_
      refine Tr.icmp_ge (pc := 5) (tgt := 26) d_X3_find_5 rfl (fun c5 => ?_) (fun c5 => ?_)
      · refine Tr.iconst (pc := 26) d_X3_find_26 (by decide) ?_
        exact Tr.iret (pc := 27) d_X3_find_27 rfl ⟨hS, _, rfl, by omega, by omega⟩
      · refine Tr.aload_n (pc := 8) (i := 0) d_X3_find_8 rfl rfl ?_
        refine Tr.getf (pc := 9) d_X3_find_9 f_3_30 (by decide) (by decide) (ty_7 hS.1.1) ?_
        refine Tr.tp 14 (fx_7_10 hS.1.1) ?_
        refine Tr.iload_n (pc := 12) (i := 2) d_X3_find_12 rfl rfl ?_
        refine Tr.iald (pc := 13) d_X3_find_13 (ty_14 hS.1.1) (by omega) (by omega) ?_
        refine Tr.gen (P := fun v => (-2147483648) ≤ v ∧ v ≤ 2147483647) (ar_14 hS.1.2.1 _) (fun r13 er13 br13 => ?_)
        refine Tr.iload_n (pc := 14) (i := 1) d_X3_find_14 rfl rfl ?_
        refine Tr.icmp_ne (pc := 15) (tgt := 20) d_X3_find_15 rfl (fun c15 => ?_) (fun c15 => ?_)
        · refine Tr.iincV (pc := 20) (n2 := (p2_2 + 1)) (ls2 := [(2, (0, (p2_2 + 1))), (0, (2, 7)), (1, (0, a1))]) d_X3_find_20 rfl (by decide) ((w32_id (by omega)).trans (by omega)) rfl ?_
          refine Tr.goto (pc := 23) (tgt := 2) d_X3_find_23 rfl ?_
          refine Tr.pick [1, 2, 0] (ls2 := [(0, (2, 7)), (1, (0, a1)), (2, (0, (p2_2 + 1)))]) rfl ?_
          exact J2 _ _ hS (by omega) (by omega)
        · refine Tr.iload_n (pc := 18) (i := 2) d_X3_find_18 rfl rfl ?_
          exact Tr.iret (pc := 19) d_X3_find_19 rfl ⟨hS, _, rfl, by omega, by omega⟩
  refine Tr.pick [1, 2, 0] (ls2 := [(0, (2, 7)), (1, (0, a1)), (2, (0, 0))]) rfl ?_
  exact J2 _ _ _ hS (by omega) (Nat.lt_succ_self _)

def ws_X3_name_7 : List (Int × Int) := [(8, 2)]
def as_X3_name_7 : List Int := [14]
def q_X3_name_7 (M0 M' : Mem) (r : Option PV) : Prop := St Tru ws_X3_name_7 as_X3_name_7 M0 M' ∧ r = none
set_option maxRecDepth 100000 in
set_option maxHeartbeats 4000000 in
theorem sp_X3_name_7 {l : Launch} {K : EC} {M0 : Mem} {xq : Int} (hI : In Tru M0) (hE : e_all K xq)  (a1 : Int) (ha1 : 2 ≤ a1 ∧ a1 ≤ 2) (a2 : Int) (ha2 : (-2147483648) ≤ a2 ∧ a2 ≤ 2147483647)  : Tr l K 0 mX3_name 0 [(0, (2, 7)), (1, (0, a1)), (2, (0, a2))] [] M0 (q_X3_name_7 M0) := by
  have hS : St Tru ws_X3_name_7 as_X3_name_7 M0 M0 := St.rf hI
  refine Tr.aload_n (pc := 0) (i := 0) d_X3_name_0 rfl rfl ?_
  refine Tr.getf (pc := 1) d_X3_name_1 f_3_11 (by decide) (by decide) (ty_7 hS.1.1) ?_
  refine Tr.tp 8 (fx_7_4 hS.1.1) ?_
  refine Tr.iload_n (pc := 4) (i := 1) d_X3_name_4 rfl rfl ?_
  refine Tr.tp 2 (by omega) ?_
  refine Tr.iald (pc := 5) d_X3_name_5 (ty_8 hS.1.1) (by omega) (by omega) ?_
  refine Tr.gen (P := fun v => 0 ≤ v ∧ v ≤ 6) (ir_8_2 hS.1.2.1) (fun r5 er5 br5 => ?_)
  refine Tr.gets (pc := 6) d_X3_name_6 sl_3_62 hE.2.2.2.1 ?_
  refine Tr.iload_n (pc := 9) (i := 1) d_X3_name_9 rfl rfl ?_
  refine Tr.tp 2 (by omega) ?_
  refine Tr.xld (pc := 10) (i := 1) d_X3_name_10 rfl hE.1 (by omega) (by omega) ?_
  refine Tr.tp 6 (by decide) ?_
  refine Tr.icmp_ge (pc := 11) (tgt := 42) d_X3_name_11 rfl (fun c11 => ?_) (fun c11 => ?_)
  · exact Tr.vret (pc := 42) d_X3_name_42 rfl ⟨hS, rfl⟩
  · refine Tr.aload_n (pc := 14) (i := 0) d_X3_name_14 rfl rfl ?_
    refine Tr.getf (pc := 15) d_X3_name_15 f_3_30 (by decide) (by decide) (ty_7 hS.1.1) ?_
    refine Tr.tp 14 (fx_7_10 hS.1.1) ?_
    refine Tr.gets (pc := 18) d_X3_name_18 sl_3_65 hE.2.2.2.2.1 ?_
    refine Tr.iload_n (pc := 21) (i := 1) d_X3_name_21 rfl rfl ?_
    refine Tr.tp 2 (by omega) ?_
    refine Tr.xld (pc := 22) (i := 2) d_X3_name_22 rfl hE.2.1 (by omega) (by omega) ?_
    refine Tr.tp 9 (by decide) ?_
    refine Tr.aload_n (pc := 23) (i := 0) d_X3_name_23 rfl rfl ?_
    refine Tr.getf (pc := 24) d_X3_name_24 f_3_11 (by decide) (by decide) (ty_7 hS.1.1) ?_
    refine Tr.tp 8 (fx_7_4 hS.1.1) ?_
    refine Tr.iload_n (pc := 27) (i := 1) d_X3_name_27 rfl rfl ?_
    refine Tr.tp 2 (by omega) ?_
    refine Tr.iald (pc := 28) d_X3_name_28 (ty_8 hS.1.1) (by omega) (by omega) ?_
    refine Tr.tp r5 er5 ?_
    refine Tr.iadd (pc := 29) d_X3_name_29 ?_
    refine Tr.tp (r5 + 9) ((w32_id (by omega)).trans (by omega)) ?_
    refine Tr.iload_n (pc := 30) (i := 2) d_X3_name_30 rfl rfl ?_
    refine Tr.iastS (pc := 31) (P := St Tru ws_X3_name_7 as_X3_name_7 M0) d_X3_name_31 (ty_14 hS.1.1) (by omega) (by omega) (sa_14 hS (by decide) (by omega) trivial) (fun M31 hS w31 => ?_)
    refine Tr.aload_n (pc := 32) (i := 0) d_X3_name_32 rfl rfl ?_
    refine Tr.getf (pc := 33) d_X3_name_33 f_3_11 (by decide) (by decide) (ty_7 hS.1.1) ?_
    refine Tr.tp 8 (fx_7_4 hS.1.1) ?_
    refine Tr.iload_n (pc := 36) (i := 1) d_X3_name_36 rfl rfl ?_
    refine Tr.tp 2 (by omega) ?_
    refine Tr.dup2 (pc := 37) d_X3_name_37 ne01 ne21 ?_
    refine Tr.iald (pc := 38) d_X3_name_38 (ty_8 hS.1.1) (by omega) (by omega) ?_
    refine Tr.tp r5 ((Wr.b w31 rfl).trans er5) ?_
    refine Tr.iconst (pc := 39) d_X3_name_39 (by decide) ?_
    refine Tr.iadd (pc := 40) d_X3_name_40 ?_
    refine Tr.tp (r5 + 1) ((w32_id (by omega)).trans (by omega)) ?_
    refine Tr.iastS (pc := 41) (P := St Tru ws_X3_name_7 as_X3_name_7 M0) d_X3_name_41 (ty_8 hS.1.1) (by omega) (by omega) (st_8_2 hS (by decide) (by omega) trivial) (fun M41 hS w41 => ?_)
    exact Tr.vret (pc := 42) d_X3_name_42 rfl ⟨hS, rfl⟩

def ws_X5_beginNamed_6_w3 : List (Int × Int) := [(6, 0), (6, 1), (6, 5), (8, 2)]
def as_X5_beginNamed_6_w3 : List Int := [14]
def q_X5_beginNamed_6_w3 (M0 M' : Mem) (r : Option PV) : Prop := St Tru ws_X5_beginNamed_6_w3 as_X5_beginNamed_6_w3 M0 M' ∧ ∃ v : Int, r = some (0, v) ∧ 0 ≤ v ∧ v ≤ 1
set_option maxRecDepth 100000 in
set_option maxHeartbeats 4000000 in
theorem sp_X5_beginNamed_6_w3 {l : Launch} {K : EC} {M0 : Mem} {xq : Int} (hI : In Tru M0) (hE : e_all K xq) (en_6_2 : rd M0 6 2 = 2) (en_6_3 : rd M0 6 3 = 7) (a1 : Int) (ha1 : 2 ≤ a1 ∧ a1 ≤ 2)  : Tr l K 1 mX5_beginNamed 0 [(0, (2, 6)), (1, (0, a1))] [] M0 (q_X5_beginNamed_6_w3 M0) := by
  have hS : St Tru ws_X5_beginNamed_6_w3 as_X5_beginNamed_6_w3 M0 M0 := St.rf hI
  refine Tr.aload_n (pc := 0) (i := 0) d_X5_beginNamed_0 rfl rfl ?_
  refine Tr.getf (pc := 1) d_X5_beginNamed_1 f_5_22 (by decide) (by decide) (ty_6 hS.1.1) ?_
  refine Tr.tp 7 ((St.kp hS (by decide) (by decide) (by decide)).trans en_6_3) ?_
  refine Tr.iload_n (pc := 4) (i := 1) d_X5_beginNamed_4 rfl rfl ?_
  refine Tr.tp 2 (by omega) ?_
  refine Tr.callV (pc := 5) (as := [_]) d_X5_beginNamed_5 s_5_126 ok_X3_isFull rfl rfl (Nat.le_of_ble_eq_true rfl) (Nat.le_of_ble_eq_true rfl) (by decide) (ty_7 hS.1.1) ?_
  refine Tr.imp (Tr.deep (by decide) (sp_X3_isFull_7 hS.1 hE 2 (by omega))) ?_
  rintro M5 _ ⟨h5, r5, rfl, lr5, ur5⟩
  have hS := St.tr hS h5 (by decide) (by decide)
  refine Tr.sc [(0, r5)] rfl ?_
  refine Tr.if_eq (pc := 8) (tgt := 17) d_X5_beginNamed_8 rfl (fun c8 => ?_) (fun c8 => ?_)
  · refine Tr.aload_n (pc := 17) (i := 0) d_X5_beginNamed_17 rfl rfl ?_
    refine Tr.callV (pc := 18) (as := []) d_X5_beginNamed_18 s_5_74 ok_X5_goOn rfl rfl (Nat.le_of_ble_eq_true rfl) (Nat.le_of_ble_eq_true rfl) (by decide) (ty_6 hS.1.1) ?_
    refine Tr.imp (Tr.deep (by decide) (sp_X5_goOn_6 hS.1 )) ?_
    rintro M18 _ ⟨h18, r18, rfl, lr18, ur18⟩
    have hS := St.tr hS h18 (by decide) (by decide)
    refine Tr.sc [(0, r18)] rfl ?_
    refine Tr.pop (pc := 21) d_X5_beginNamed_21 ne01 ?_
    refine Tr.aload_n (pc := 22) (i := 0) d_X5_beginNamed_22 rfl rfl ?_
    refine Tr.getf (pc := 23) d_X5_beginNamed_23 f_5_18 (by decide) (by decide) (ty_6 hS.1.1) ?_
    refine Tr.tp 2 ((St.kp hS (by decide) (by decide) (by decide)).trans en_6_2) ?_
    refine Tr.getf (pc := 26) d_X5_beginNamed_26 f_5_50 (by decide) (by decide) (ty_2 hS.1.1) ?_
    refine Tr.tp 3 (fx_2_0 hS.1.1) ?_
    refine Tr.aload_n (pc := 29) (i := 0) d_X5_beginNamed_29 rfl rfl ?_
    refine Tr.getf (pc := 30) d_X5_beginNamed_30 f_5_36 (by decide) (by decide) (ty_6 hS.1.1) ?_
    refine Tr.gen (P := fun v => 0 ≤ v ∧ v ≤ 900) (ir_6_5 hS.1.2.1) (fun r30 er30 br30 => ?_)
    refine Tr.iald (pc := 33) d_X5_beginNamed_33 (ty_3 hS.1.1) (by omega) (by omega) ?_
    refine Tr.gen (P := fun v => (-2147483648) ≤ v ∧ v ≤ 2147483647) (ar_3 hS.1.2.1 _) (fun r33 er33 br33 => ?_)
    refine Tr.iconst (pc := 34) d_X5_beginNamed_34 (by decide) ?_
    refine Tr.icmp_eq (pc := 35) (tgt := 44) d_X5_beginNamed_35 rfl (fun c35 => ?_) (fun c35 => ?_)
    · refine Tr.aload_n (pc := 44) (i := 0) d_X5_beginNamed_44 rfl rfl ?_
      refine Tr.getf (pc := 45) d_X5_beginNamed_45 f_5_22 (by decide) (by decide) (ty_6 hS.1.1) ?_
      refine Tr.tp 7 ((St.kp hS (by decide) (by decide) (by decide)).trans en_6_3) ?_
      refine Tr.aload_n (pc := 48) (i := 0) d_X5_beginNamed_48 rfl rfl ?_
      refine Tr.getf (pc := 49) d_X5_beginNamed_49 f_5_18 (by decide) (by decide) (ty_6 hS.1.1) ?_
      refine Tr.tp 2 ((St.kp hS (by decide) (by decide) (by decide)).trans en_6_2) ?_
      refine Tr.getf (pc := 52) d_X5_beginNamed_52 f_5_68 (by decide) (by decide) (ty_2 hS.1.1) ?_
      refine Tr.tp 5 (fx_2_2 hS.1.1) ?_
      refine Tr.aload_n (pc := 55) (i := 0) d_X5_beginNamed_55 rfl rfl ?_
      refine Tr.getf (pc := 56) d_X5_beginNamed_56 f_5_36 (by decide) (by decide) (ty_6 hS.1.1) ?_
      refine Tr.tp r30 er30 ?_
      refine Tr.iald (pc := 59) d_X5_beginNamed_59 (ty_5 hS.1.1) (by omega) (by omega) ?_
      refine Tr.gen (P := fun v => (-2147483648) ≤ v ∧ v ≤ 2147483647) (ar_5 hS.1.2.1 _) (fun r59 er59 br59 => ?_)
      refine Tr.callV (pc := 60) (as := [_]) d_X5_beginNamed_60 s_5_91 ok_X3_find rfl rfl (Nat.le_of_ble_eq_true rfl) (Nat.le_of_ble_eq_true rfl) (by decide) (ty_7 hS.1.1) ?_
      refine Tr.imp (Tr.deep (by decide) (sp_X3_find_7 hS.1 r59 (by omega))) ?_
      rintro M60 _ ⟨h60, r60, rfl, lr60, ur60⟩
      have hS := St.tr hS h60 (by decide) (by decide)
      refine Tr.sc [(0, r60)] rfl ?_
      refine Tr.if_lt (pc := 63) (tgt := 72) d_X5_beginNamed_63 rfl (fun c63 => ?_) (fun c63 => ?_)
      · refine Tr.aload_n (pc := 72) (i := 0) d_X5_beginNamed_72 rfl rfl ?_
        refine Tr.getf (pc := 73) d_X5_beginNamed_73 f_5_22 (by decide) (by decide) (ty_6 hS.1.1) ?_
        refine Tr.tp 7 ((St.kp hS (by decide) (by decide) (by decide)).trans en_6_3) ?_
        refine Tr.iload_n (pc := 76) (i := 1) d_X5_beginNamed_76 rfl rfl ?_
        refine Tr.tp 2 (by omega) ?_
        refine Tr.aload_n (pc := 77) (i := 0) d_X5_beginNamed_77 rfl rfl ?_
        refine Tr.getf (pc := 78) d_X5_beginNamed_78 f_5_18 (by decide) (by decide) (ty_6 hS.1.1) ?_
        refine Tr.tp 2 ((St.kp hS (by decide) (by decide) (by decide)).trans en_6_2) ?_
        refine Tr.getf (pc := 81) d_X5_beginNamed_81 f_5_68 (by decide) (by decide) (ty_2 hS.1.1) ?_
        refine Tr.tp 5 (fx_2_2 hS.1.1) ?_
        refine Tr.aload_n (pc := 84) (i := 0) d_X5_beginNamed_84 rfl rfl ?_
        refine Tr.getf (pc := 85) d_X5_beginNamed_85 f_5_36 (by decide) (by decide) (ty_6 hS.1.1) ?_
        refine Tr.tp r30 ((St.kp h60 (by decide) (by decide) (by decide)).trans er30) ?_
        refine Tr.iald (pc := 88) d_X5_beginNamed_88 (ty_5 hS.1.1) (by omega) (by omega) ?_
        refine Tr.tp r59 ((St.ka h60 (by decide) (by decide) (by decide)).trans er59) ?_
        refine Tr.callV (pc := 89) (as := [_, _]) d_X5_beginNamed_89 s_5_129 ok_X3_name rfl rfl (Nat.le_of_ble_eq_true rfl) (Nat.le_of_ble_eq_true rfl) (by decide) (ty_7 hS.1.1) ?_
        refine Tr.imp (Tr.deep (by decide) (sp_X3_name_7 hS.1 hE 2 (by omega) r59 (by omega))) ?_
        rintro M89 _ ⟨h89, rfl⟩
        have hS := St.tr hS h89 (by decide) (by decide)
        refine Tr.sc [] rfl ?_
        refine Tr.aload_n (pc := 92) (i := 0) d_X5_beginNamed_92 rfl rfl ?_
        refine Tr.callV (pc := 93) (as := []) d_X5_beginNamed_93 s_5_74 ok_X5_goOn rfl rfl (Nat.le_of_ble_eq_true rfl) (Nat.le_of_ble_eq_true rfl) (by decide) (ty_6 hS.1.1) ?_
        refine Tr.imp (Tr.deep (by decide) (sp_X5_goOn_6 hS.1 )) ?_
        rintro M93 _ ⟨h93, r93, rfl, lr93, ur93⟩
        have hS := St.tr hS h93 (by decide) (by decide)
        refine Tr.sc [(0, r93)] rfl ?_
        exact Tr.zret (pc := 96) d_X5_beginNamed_96 rfl (by omega) ⟨hS, _, rfl, by omega, by omega⟩
      · refine Tr.aload_n (pc := 66) (i := 0) d_X5_beginNamed_66 rfl rfl ?_
        refine Tr.iconst (pc := 67) d_X5_beginNamed_67 (by decide) ?_
        refine Tr.callV (pc := 68) (as := [_]) d_X5_beginNamed_68 s_5_56 ok_X5_refuse rfl rfl (Nat.le_of_ble_eq_true rfl) (Nat.le_of_ble_eq_true rfl) (by decide) (ty_6 hS.1.1) ?_
        refine Tr.imp (Tr.deep (by decide) (sp_X5_refuse_6 hS.1 ((St.kp hS (by decide) (by decide) (by decide)).trans en_6_2) 2 (by omega))) ?_
        rintro M68 _ ⟨h68, r68, rfl, lr68, ur68⟩
        have hS := St.tr hS h68 (by decide) (by decide)
        refine Tr.sc [(0, r68)] rfl ?_
        exact Tr.zret (pc := 71) d_X5_beginNamed_71 rfl (by omega) ⟨hS, _, rfl, by omega, by omega⟩
    · refine Tr.aload_n (pc := 38) (i := 0) d_X5_beginNamed_38 rfl rfl ?_
      refine Tr.iconst (pc := 39) d_X5_beginNamed_39 (by decide) ?_
      refine Tr.callV (pc := 40) (as := [_]) d_X5_beginNamed_40 s_5_56 ok_X5_refuse rfl rfl (Nat.le_of_ble_eq_true rfl) (Nat.le_of_ble_eq_true rfl) (by decide) (ty_6 hS.1.1) ?_
      refine Tr.imp (Tr.deep (by decide) (sp_X5_refuse_6_w1 hS.1 ((St.kp hS (by decide) (by decide) (by decide)).trans en_6_2) 1 (by omega))) ?_
      rintro M40 _ ⟨h40, r40, rfl, lr40, ur40⟩
      have hS := St.tr hS h40 (by decide) (by decide)
      refine Tr.sc [(0, r40)] rfl ?_
      exact Tr.zret (pc := 43) d_X5_beginNamed_43 rfl (by omega) ⟨hS, _, rfl, by omega, by omega⟩
  · refine Tr.aload_n (pc := 11) (i := 0) d_X5_beginNamed_11 rfl rfl ?_
    refine Tr.iconst (pc := 12) d_X5_beginNamed_12 (by decide) ?_
    refine Tr.callV (pc := 13) (as := [_]) d_X5_beginNamed_13 s_5_56 ok_X5_refuse rfl rfl (Nat.le_of_ble_eq_true rfl) (Nat.le_of_ble_eq_true rfl) (by decide) (ty_6 hS.1.1) ?_
    refine Tr.imp (Tr.deep (by decide) (sp_X5_refuse_6_w2 hS.1 ((St.kp hS (by decide) (by decide) (by decide)).trans en_6_2) 5 (by omega))) ?_
    rintro M13 _ ⟨h13, r13, rfl, lr13, ur13⟩
    have hS := St.tr hS h13 (by decide) (by decide)
    refine Tr.sc [(0, r13)] rfl ?_
    exact Tr.zret (pc := 16) d_X5_beginNamed_16 rfl (by omega) ⟨hS, _, rfl, by omega, by omega⟩

def ws_X3_isFull_7_w1 : List (Int × Int) := []
def as_X3_isFull_7_w1 : List Int := []
def q_X3_isFull_7_w1 (M0 M' : Mem) (r : Option PV) : Prop := St Tru ws_X3_isFull_7_w1 as_X3_isFull_7_w1 M0 M' ∧ ∃ v : Int, r = some (0, v) ∧ 0 ≤ v ∧ v ≤ 1
set_option maxRecDepth 100000 in
set_option maxHeartbeats 4000000 in
theorem sp_X3_isFull_7_w1 {l : Launch} {K : EC} {M0 : Mem} {xq : Int} (hI : In Tru M0) (hE : e_all K xq)  (a1 : Int) (ha1 : 1 ≤ a1 ∧ a1 ≤ 1)  : Tr l K 0 mX3_isFull 0 [(0, (2, 7)), (1, (0, a1))] [] M0 (q_X3_isFull_7_w1 M0) := by
  have hS : St Tru ws_X3_isFull_7_w1 as_X3_isFull_7_w1 M0 M0 := St.rf hI
  refine Tr.aload_n (pc := 0) (i := 0) d_X3_isFull_0 rfl rfl ?_
  refine Tr.getf (pc := 1) d_X3_isFull_1 f_3_11 (by decide) (by decide) (ty_7 hS.1.1) ?_
  refine Tr.tp 8 (fx_7_4 hS.1.1) ?_
  refine Tr.iload_n (pc := 4) (i := 1) d_X3_isFull_4 rfl rfl ?_
  refine Tr.tp 1 (by omega) ?_
  refine Tr.iald (pc := 5) d_X3_isFull_5 (ty_8 hS.1.1) (by omega) (by omega) ?_
  refine Tr.gen (P := fun v => 0 ≤ v ∧ v ≤ 3) (ir_8_1 hS.1.2.1) (fun r5 er5 br5 => ?_)
  refine Tr.gets (pc := 6) d_X3_isFull_6 sl_3_62 hE.2.2.2.1 ?_
  refine Tr.iload_n (pc := 9) (i := 1) d_X3_isFull_9 rfl rfl ?_
  refine Tr.tp 1 (by omega) ?_
  refine Tr.xld (pc := 10) (i := 1) d_X3_isFull_10 rfl hE.1 (by omega) (by omega) ?_
  refine Tr.tp 3 (by decide) ?_
  refine Tr.icmp_lt (pc := 11) (tgt := 18) d_X3_isFull_11 rfl (fun c11 => ?_) (fun c11 => ?_)
  · refine Tr.iconst (pc := 18) d_X3_isFull_18 (by decide) ?_
    exact Tr.zret (pc := 19) d_X3_isFull_19 rfl (by omega) ⟨hS, _, rfl, by omega, by omega⟩
  · refine Tr.iconst (pc := 14) d_X3_isFull_14 (by decide) ?_
    refine Tr.goto (pc := 15) (tgt := 19) d_X3_isFull_15 rfl ?_
    exact Tr.zret (pc := 19) d_X3_isFull_19 rfl (by omega) ⟨hS, _, rfl, by omega, by omega⟩

def ws_X3_name_7_w1 : List (Int × Int) := [(8, 1)]
def as_X3_name_7_w1 : List Int := [14]
def q_X3_name_7_w1 (M0 M' : Mem) (r : Option PV) : Prop := St Tru ws_X3_name_7_w1 as_X3_name_7_w1 M0 M' ∧ r = none
set_option maxRecDepth 100000 in
set_option maxHeartbeats 4000000 in
theorem sp_X3_name_7_w1 {l : Launch} {K : EC} {M0 : Mem} {xq : Int} (hI : In Tru M0) (hE : e_all K xq)  (a1 : Int) (ha1 : 1 ≤ a1 ∧ a1 ≤ 1) (a2 : Int) (ha2 : (-2147483648) ≤ a2 ∧ a2 ≤ 2147483647)  : Tr l K 0 mX3_name 0 [(0, (2, 7)), (1, (0, a1)), (2, (0, a2))] [] M0 (q_X3_name_7_w1 M0) := by
  have hS : St Tru ws_X3_name_7_w1 as_X3_name_7_w1 M0 M0 := St.rf hI
  refine Tr.aload_n (pc := 0) (i := 0) d_X3_name_0 rfl rfl ?_
  refine Tr.getf (pc := 1) d_X3_name_1 f_3_11 (by decide) (by decide) (ty_7 hS.1.1) ?_
  refine Tr.tp 8 (fx_7_4 hS.1.1) ?_
  refine Tr.iload_n (pc := 4) (i := 1) d_X3_name_4 rfl rfl ?_
  refine Tr.tp 1 (by omega) ?_
  refine Tr.iald (pc := 5) d_X3_name_5 (ty_8 hS.1.1) (by omega) (by omega) ?_
  refine Tr.gen (P := fun v => 0 ≤ v ∧ v ≤ 3) (ir_8_1 hS.1.2.1) (fun r5 er5 br5 => ?_)
  refine Tr.gets (pc := 6) d_X3_name_6 sl_3_62 hE.2.2.2.1 ?_
  refine Tr.iload_n (pc := 9) (i := 1) d_X3_name_9 rfl rfl ?_
  refine Tr.tp 1 (by omega) ?_
  refine Tr.xld (pc := 10) (i := 1) d_X3_name_10 rfl hE.1 (by omega) (by omega) ?_
  refine Tr.tp 3 (by decide) ?_
  refine Tr.icmp_ge (pc := 11) (tgt := 42) d_X3_name_11 rfl (fun c11 => ?_) (fun c11 => ?_)
  · exact Tr.vret (pc := 42) d_X3_name_42 rfl ⟨hS, rfl⟩
  · refine Tr.aload_n (pc := 14) (i := 0) d_X3_name_14 rfl rfl ?_
    refine Tr.getf (pc := 15) d_X3_name_15 f_3_30 (by decide) (by decide) (ty_7 hS.1.1) ?_
    refine Tr.tp 14 (fx_7_10 hS.1.1) ?_
    refine Tr.gets (pc := 18) d_X3_name_18 sl_3_65 hE.2.2.2.2.1 ?_
    refine Tr.iload_n (pc := 21) (i := 1) d_X3_name_21 rfl rfl ?_
    refine Tr.tp 1 (by omega) ?_
    refine Tr.xld (pc := 22) (i := 2) d_X3_name_22 rfl hE.2.1 (by omega) (by omega) ?_
    refine Tr.tp 6 (by decide) ?_
    refine Tr.aload_n (pc := 23) (i := 0) d_X3_name_23 rfl rfl ?_
    refine Tr.getf (pc := 24) d_X3_name_24 f_3_11 (by decide) (by decide) (ty_7 hS.1.1) ?_
    refine Tr.tp 8 (fx_7_4 hS.1.1) ?_
    refine Tr.iload_n (pc := 27) (i := 1) d_X3_name_27 rfl rfl ?_
    refine Tr.tp 1 (by omega) ?_
    refine Tr.iald (pc := 28) d_X3_name_28 (ty_8 hS.1.1) (by omega) (by omega) ?_
    refine Tr.tp r5 er5 ?_
    refine Tr.iadd (pc := 29) d_X3_name_29 ?_
    refine Tr.tp (r5 + 6) ((w32_id (by omega)).trans (by omega)) ?_
    refine Tr.iload_n (pc := 30) (i := 2) d_X3_name_30 rfl rfl ?_
    refine Tr.iastS (pc := 31) (P := St Tru ws_X3_name_7_w1 as_X3_name_7_w1 M0) d_X3_name_31 (ty_14 hS.1.1) (by omega) (by omega) (sa_14 hS (by decide) (by omega) trivial) (fun M31 hS w31 => ?_)
    refine Tr.aload_n (pc := 32) (i := 0) d_X3_name_32 rfl rfl ?_
    refine Tr.getf (pc := 33) d_X3_name_33 f_3_11 (by decide) (by decide) (ty_7 hS.1.1) ?_
    refine Tr.tp 8 (fx_7_4 hS.1.1) ?_
    refine Tr.iload_n (pc := 36) (i := 1) d_X3_name_36 rfl rfl ?_
    refine Tr.tp 1 (by omega) ?_
    refine Tr.dup2 (pc := 37) d_X3_name_37 ne01 ne21 ?_
    refine Tr.iald (pc := 38) d_X3_name_38 (ty_8 hS.1.1) (by omega) (by omega) ?_
    refine Tr.tp r5 ((Wr.b w31 rfl).trans er5) ?_
    refine Tr.iconst (pc := 39) d_X3_name_39 (by decide) ?_
    refine Tr.iadd (pc := 40) d_X3_name_40 ?_
    refine Tr.tp (r5 + 1) ((w32_id (by omega)).trans (by omega)) ?_
    refine Tr.iastS (pc := 41) (P := St Tru ws_X3_name_7_w1 as_X3_name_7_w1 M0) d_X3_name_41 (ty_8 hS.1.1) (by omega) (by omega) (st_8_1 hS (by decide) (by omega) trivial) (fun M41 hS w41 => ?_)
    exact Tr.vret (pc := 42) d_X3_name_42 rfl ⟨hS, rfl⟩

def ws_X5_beginNamed_6_w4 : List (Int × Int) := [(6, 0), (6, 1), (6, 5), (8, 1)]
def as_X5_beginNamed_6_w4 : List Int := [14]
def q_X5_beginNamed_6_w4 (M0 M' : Mem) (r : Option PV) : Prop := St Tru ws_X5_beginNamed_6_w4 as_X5_beginNamed_6_w4 M0 M' ∧ ∃ v : Int, r = some (0, v) ∧ 0 ≤ v ∧ v ≤ 1
set_option maxRecDepth 100000 in
set_option maxHeartbeats 4000000 in
theorem sp_X5_beginNamed_6_w4 {l : Launch} {K : EC} {M0 : Mem} {xq : Int} (hI : In Tru M0) (hE : e_all K xq) (en_6_2 : rd M0 6 2 = 2) (en_6_3 : rd M0 6 3 = 7) (a1 : Int) (ha1 : 1 ≤ a1 ∧ a1 ≤ 1)  : Tr l K 1 mX5_beginNamed 0 [(0, (2, 6)), (1, (0, a1))] [] M0 (q_X5_beginNamed_6_w4 M0) := by
  have hS : St Tru ws_X5_beginNamed_6_w4 as_X5_beginNamed_6_w4 M0 M0 := St.rf hI
  refine Tr.aload_n (pc := 0) (i := 0) d_X5_beginNamed_0 rfl rfl ?_
  refine Tr.getf (pc := 1) d_X5_beginNamed_1 f_5_22 (by decide) (by decide) (ty_6 hS.1.1) ?_
  refine Tr.tp 7 ((St.kp hS (by decide) (by decide) (by decide)).trans en_6_3) ?_
  refine Tr.iload_n (pc := 4) (i := 1) d_X5_beginNamed_4 rfl rfl ?_
  refine Tr.tp 1 (by omega) ?_
  refine Tr.callV (pc := 5) (as := [_]) d_X5_beginNamed_5 s_5_126 ok_X3_isFull rfl rfl (Nat.le_of_ble_eq_true rfl) (Nat.le_of_ble_eq_true rfl) (by decide) (ty_7 hS.1.1) ?_
  refine Tr.imp (Tr.deep (by decide) (sp_X3_isFull_7_w1 hS.1 hE 1 (by omega))) ?_
  rintro M5 _ ⟨h5, r5, rfl, lr5, ur5⟩
  have hS := St.tr hS h5 (by decide) (by decide)
  refine Tr.sc [(0, r5)] rfl ?_
  refine Tr.if_eq (pc := 8) (tgt := 17) d_X5_beginNamed_8 rfl (fun c8 => ?_) (fun c8 => ?_)
  · refine Tr.aload_n (pc := 17) (i := 0) d_X5_beginNamed_17 rfl rfl ?_
    refine Tr.callV (pc := 18) (as := []) d_X5_beginNamed_18 s_5_74 ok_X5_goOn rfl rfl (Nat.le_of_ble_eq_true rfl) (Nat.le_of_ble_eq_true rfl) (by decide) (ty_6 hS.1.1) ?_
    refine Tr.imp (Tr.deep (by decide) (sp_X5_goOn_6 hS.1 )) ?_
    rintro M18 _ ⟨h18, r18, rfl, lr18, ur18⟩
    have hS := St.tr hS h18 (by decide) (by decide)
    refine Tr.sc [(0, r18)] rfl ?_
    refine Tr.pop (pc := 21) d_X5_beginNamed_21 ne01 ?_
    refine Tr.aload_n (pc := 22) (i := 0) d_X5_beginNamed_22 rfl rfl ?_
    refine Tr.getf (pc := 23) d_X5_beginNamed_23 f_5_18 (by decide) (by decide) (ty_6 hS.1.1) ?_
    refine Tr.tp 2 ((St.kp hS (by decide) (by decide) (by decide)).trans en_6_2) ?_
    refine Tr.getf (pc := 26) d_X5_beginNamed_26 f_5_50 (by decide) (by decide) (ty_2 hS.1.1) ?_
    refine Tr.tp 3 (fx_2_0 hS.1.1) ?_
    refine Tr.aload_n (pc := 29) (i := 0) d_X5_beginNamed_29 rfl rfl ?_
    refine Tr.getf (pc := 30) d_X5_beginNamed_30 f_5_36 (by decide) (by decide) (ty_6 hS.1.1) ?_
    refine Tr.gen (P := fun v => 0 ≤ v ∧ v ≤ 900) (ir_6_5 hS.1.2.1) (fun r30 er30 br30 => ?_)
    refine Tr.iald (pc := 33) d_X5_beginNamed_33 (ty_3 hS.1.1) (by omega) (by omega) ?_
    refine Tr.gen (P := fun v => (-2147483648) ≤ v ∧ v ≤ 2147483647) (ar_3 hS.1.2.1 _) (fun r33 er33 br33 => ?_)
    refine Tr.iconst (pc := 34) d_X5_beginNamed_34 (by decide) ?_
    refine Tr.icmp_eq (pc := 35) (tgt := 44) d_X5_beginNamed_35 rfl (fun c35 => ?_) (fun c35 => ?_)
    · refine Tr.aload_n (pc := 44) (i := 0) d_X5_beginNamed_44 rfl rfl ?_
      refine Tr.getf (pc := 45) d_X5_beginNamed_45 f_5_22 (by decide) (by decide) (ty_6 hS.1.1) ?_
      refine Tr.tp 7 ((St.kp hS (by decide) (by decide) (by decide)).trans en_6_3) ?_
      refine Tr.aload_n (pc := 48) (i := 0) d_X5_beginNamed_48 rfl rfl ?_
      refine Tr.getf (pc := 49) d_X5_beginNamed_49 f_5_18 (by decide) (by decide) (ty_6 hS.1.1) ?_
      refine Tr.tp 2 ((St.kp hS (by decide) (by decide) (by decide)).trans en_6_2) ?_
      refine Tr.getf (pc := 52) d_X5_beginNamed_52 f_5_68 (by decide) (by decide) (ty_2 hS.1.1) ?_
      refine Tr.tp 5 (fx_2_2 hS.1.1) ?_
      refine Tr.aload_n (pc := 55) (i := 0) d_X5_beginNamed_55 rfl rfl ?_
      refine Tr.getf (pc := 56) d_X5_beginNamed_56 f_5_36 (by decide) (by decide) (ty_6 hS.1.1) ?_
      refine Tr.tp r30 er30 ?_
      refine Tr.iald (pc := 59) d_X5_beginNamed_59 (ty_5 hS.1.1) (by omega) (by omega) ?_
      refine Tr.gen (P := fun v => (-2147483648) ≤ v ∧ v ≤ 2147483647) (ar_5 hS.1.2.1 _) (fun r59 er59 br59 => ?_)
      refine Tr.callV (pc := 60) (as := [_]) d_X5_beginNamed_60 s_5_91 ok_X3_find rfl rfl (Nat.le_of_ble_eq_true rfl) (Nat.le_of_ble_eq_true rfl) (by decide) (ty_7 hS.1.1) ?_
      refine Tr.imp (Tr.deep (by decide) (sp_X3_find_7 hS.1 r59 (by omega))) ?_
      rintro M60 _ ⟨h60, r60, rfl, lr60, ur60⟩
      have hS := St.tr hS h60 (by decide) (by decide)
      refine Tr.sc [(0, r60)] rfl ?_
      refine Tr.if_lt (pc := 63) (tgt := 72) d_X5_beginNamed_63 rfl (fun c63 => ?_) (fun c63 => ?_)
      · refine Tr.aload_n (pc := 72) (i := 0) d_X5_beginNamed_72 rfl rfl ?_
        refine Tr.getf (pc := 73) d_X5_beginNamed_73 f_5_22 (by decide) (by decide) (ty_6 hS.1.1) ?_
        refine Tr.tp 7 ((St.kp hS (by decide) (by decide) (by decide)).trans en_6_3) ?_
        refine Tr.iload_n (pc := 76) (i := 1) d_X5_beginNamed_76 rfl rfl ?_
        refine Tr.tp 1 (by omega) ?_
        refine Tr.aload_n (pc := 77) (i := 0) d_X5_beginNamed_77 rfl rfl ?_
        refine Tr.getf (pc := 78) d_X5_beginNamed_78 f_5_18 (by decide) (by decide) (ty_6 hS.1.1) ?_
        refine Tr.tp 2 ((St.kp hS (by decide) (by decide) (by decide)).trans en_6_2) ?_
        refine Tr.getf (pc := 81) d_X5_beginNamed_81 f_5_68 (by decide) (by decide) (ty_2 hS.1.1) ?_
        refine Tr.tp 5 (fx_2_2 hS.1.1) ?_
        refine Tr.aload_n (pc := 84) (i := 0) d_X5_beginNamed_84 rfl rfl ?_
        refine Tr.getf (pc := 85) d_X5_beginNamed_85 f_5_36 (by decide) (by decide) (ty_6 hS.1.1) ?_
        refine Tr.tp r30 ((St.kp h60 (by decide) (by decide) (by decide)).trans er30) ?_
        refine Tr.iald (pc := 88) d_X5_beginNamed_88 (ty_5 hS.1.1) (by omega) (by omega) ?_
        refine Tr.tp r59 ((St.ka h60 (by decide) (by decide) (by decide)).trans er59) ?_
        refine Tr.callV (pc := 89) (as := [_, _]) d_X5_beginNamed_89 s_5_129 ok_X3_name rfl rfl (Nat.le_of_ble_eq_true rfl) (Nat.le_of_ble_eq_true rfl) (by decide) (ty_7 hS.1.1) ?_
        refine Tr.imp (Tr.deep (by decide) (sp_X3_name_7_w1 hS.1 hE 1 (by omega) r59 (by omega))) ?_
        rintro M89 _ ⟨h89, rfl⟩
        have hS := St.tr hS h89 (by decide) (by decide)
        refine Tr.sc [] rfl ?_
        refine Tr.aload_n (pc := 92) (i := 0) d_X5_beginNamed_92 rfl rfl ?_
        refine Tr.callV (pc := 93) (as := []) d_X5_beginNamed_93 s_5_74 ok_X5_goOn rfl rfl (Nat.le_of_ble_eq_true rfl) (Nat.le_of_ble_eq_true rfl) (by decide) (ty_6 hS.1.1) ?_
        refine Tr.imp (Tr.deep (by decide) (sp_X5_goOn_6 hS.1 )) ?_
        rintro M93 _ ⟨h93, r93, rfl, lr93, ur93⟩
        have hS := St.tr hS h93 (by decide) (by decide)
        refine Tr.sc [(0, r93)] rfl ?_
        exact Tr.zret (pc := 96) d_X5_beginNamed_96 rfl (by omega) ⟨hS, _, rfl, by omega, by omega⟩
      · refine Tr.aload_n (pc := 66) (i := 0) d_X5_beginNamed_66 rfl rfl ?_
        refine Tr.iconst (pc := 67) d_X5_beginNamed_67 (by decide) ?_
        refine Tr.callV (pc := 68) (as := [_]) d_X5_beginNamed_68 s_5_56 ok_X5_refuse rfl rfl (Nat.le_of_ble_eq_true rfl) (Nat.le_of_ble_eq_true rfl) (by decide) (ty_6 hS.1.1) ?_
        refine Tr.imp (Tr.deep (by decide) (sp_X5_refuse_6 hS.1 ((St.kp hS (by decide) (by decide) (by decide)).trans en_6_2) 2 (by omega))) ?_
        rintro M68 _ ⟨h68, r68, rfl, lr68, ur68⟩
        have hS := St.tr hS h68 (by decide) (by decide)
        refine Tr.sc [(0, r68)] rfl ?_
        exact Tr.zret (pc := 71) d_X5_beginNamed_71 rfl (by omega) ⟨hS, _, rfl, by omega, by omega⟩
    · refine Tr.aload_n (pc := 38) (i := 0) d_X5_beginNamed_38 rfl rfl ?_
      refine Tr.iconst (pc := 39) d_X5_beginNamed_39 (by decide) ?_
      refine Tr.callV (pc := 40) (as := [_]) d_X5_beginNamed_40 s_5_56 ok_X5_refuse rfl rfl (Nat.le_of_ble_eq_true rfl) (Nat.le_of_ble_eq_true rfl) (by decide) (ty_6 hS.1.1) ?_
      refine Tr.imp (Tr.deep (by decide) (sp_X5_refuse_6_w1 hS.1 ((St.kp hS (by decide) (by decide) (by decide)).trans en_6_2) 1 (by omega))) ?_
      rintro M40 _ ⟨h40, r40, rfl, lr40, ur40⟩
      have hS := St.tr hS h40 (by decide) (by decide)
      refine Tr.sc [(0, r40)] rfl ?_
      exact Tr.zret (pc := 43) d_X5_beginNamed_43 rfl (by omega) ⟨hS, _, rfl, by omega, by omega⟩
  · refine Tr.aload_n (pc := 11) (i := 0) d_X5_beginNamed_11 rfl rfl ?_
    refine Tr.iconst (pc := 12) d_X5_beginNamed_12 (by decide) ?_
    refine Tr.callV (pc := 13) (as := [_]) d_X5_beginNamed_13 s_5_56 ok_X5_refuse rfl rfl (Nat.le_of_ble_eq_true rfl) (Nat.le_of_ble_eq_true rfl) (by decide) (ty_6 hS.1.1) ?_
    refine Tr.imp (Tr.deep (by decide) (sp_X5_refuse_6_w2 hS.1 ((St.kp hS (by decide) (by decide) (by decide)).trans en_6_2) 5 (by omega))) ?_
    rintro M13 _ ⟨h13, r13, rfl, lr13, ur13⟩
    have hS := St.tr hS h13 (by decide) (by decide)
    refine Tr.sc [(0, r13)] rfl ?_
    exact Tr.zret (pc := 16) d_X5_beginNamed_16 rfl (by omega) ⟨hS, _, rfl, by omega, by omega⟩

def ws_X5_input_6_w1 : List (Int × Int) := [(6, 0), (6, 1), (6, 5), (8, 1)]
def as_X5_input_6_w1 : List Int := [12, 13, 14]
def q_X5_input_6_w1 (M0 M' : Mem) (r : Option PV) : Prop := St Tru ws_X5_input_6_w1 as_X5_input_6_w1 M0 M' ∧ ∃ v : Int, r = some (0, v) ∧ 0 ≤ v ∧ v ≤ 1
set_option maxRecDepth 100000 in
set_option maxHeartbeats 4000000 in
theorem sp_X5_input_6_w1 {l : Launch} {K : EC} {M0 : Mem} {xq : Int} (hI : In Tru M0) (hE : e_all K xq) (en_6_2 : rd M0 6 2 = 2) (en_6_3 : rd M0 6 3 = 7)   : Tr l K 2 mX5_input 0 [(0, (2, 6))] [] M0 (q_X5_input_6_w1 M0) := by
  have hS : St Tru ws_X5_input_6_w1 as_X5_input_6_w1 M0 M0 := St.rf hI
  refine Tr.aload_n (pc := 0) (i := 0) d_X5_input_0 rfl rfl ?_
  refine Tr.getf (pc := 1) d_X5_input_1 f_5_22 (by decide) (by decide) (ty_6 hS.1.1) ?_
  refine Tr.tp 7 ((St.kp hS (by decide) (by decide) (by decide)).trans en_6_3) ?_
  refine Tr.getf (pc := 4) d_X5_input_4 f_5_133 (by decide) (by decide) (ty_7 hS.1.1) ?_
  refine Tr.tp 8 (fx_7_4 hS.1.1) ?_
  refine Tr.iconst (pc := 7) d_X5_input_7 (by decide) ?_
  refine Tr.iald (pc := 8) d_X5_input_8 (ty_8 hS.1.1) (by omega) (by omega) ?_
  refine Tr.gen (P := fun v => 0 ≤ v ∧ v ≤ 3) (ir_8_1 hS.1.2.1) (fun r8 er8 br8 => ?_)
  refine Tr.istore_n (pc := 9) (i := 1) (ls2 := [(1, (0, r8)), (0, (2, 6))]) d_X5_input_9 rfl (by decide) rfl ?_
  refine Tr.aload_n (pc := 10) (i := 0) d_X5_input_10 rfl rfl ?_
  refine Tr.iconst (pc := 11) d_X5_input_11 (by decide) ?_
  refine Tr.callV (pc := 12) (as := [_]) d_X5_input_12 s_5_112 ok_X5_beginNamed rfl rfl (Nat.le_of_ble_eq_true rfl) (Nat.le_of_ble_eq_true rfl) (by decide) (ty_6 hS.1.1) ?_
  refine Tr.imp (Tr.deep (by decide) (sp_X5_beginNamed_6_w4 hS.1 hE ((St.kp hS (by decide) (by decide) (by decide)).trans en_6_2) ((St.kp hS (by decide) (by decide) (by decide)).trans en_6_3) 1 (by omega))) ?_
  rintro M12 _ ⟨h12, r12, rfl, lr12, ur12⟩
  have hS := St.tr hS h12 (by decide) (by decide)
  refine Tr.sc [(0, r12)] rfl ?_
  refine Tr.if_eq (pc := 15) (tgt := 23) d_X5_input_15 rfl (fun c15 => ?_) (fun c15 => ?_)
  · refine Tr.iconst (pc := 23) d_X5_input_23 (by decide) ?_
    exact Tr.zret (pc := 24) d_X5_input_24 rfl (by omega) ⟨hS, _, rfl, by omega, by omega⟩
  · refine Tr.iload_n (pc := 18) (i := 1) d_X5_input_18 rfl rfl ?_
    refine Tr.iconst (pc := 19) d_X5_input_19 (by decide) ?_
    refine Tr.icmp_lt (pc := 20) (tgt := 25) d_X5_input_20 rfl (fun c20 => ?_) (fun c20 => ?_)
    · refine Tr.aload_n (pc := 25) (i := 0) d_X5_input_25 rfl rfl ?_
      refine Tr.iconst (pc := 26) d_X5_input_26 (by decide) ?_
      refine Tr.bipush (pc := 27) d_X5_input_27 rfl (by decide) ?_
      refine Tr.callV (pc := 29) (as := [_, _]) d_X5_input_29 s_5_87 ok_X5_takeNumber rfl rfl (Nat.le_of_ble_eq_true rfl) (Nat.le_of_ble_eq_true rfl) (by decide) (ty_6 hS.1.1) ?_
      refine Tr.imp (Tr.deep (by decide) (sp_X5_takeNumber_6 hS.1 ((St.kp hS (by decide) (by decide) (by decide)).trans en_6_2) 0 (by omega) 99 (by omega))) ?_
      rintro M29 _ ⟨h29, r29, rfl, lr29, ur29⟩
      have hS := St.tr hS h29 (by decide) (by decide)
      refine Tr.sc [(0, r29)] rfl ?_
      refine Tr.istore_n (pc := 32) (i := 2) (ls2 := [(2, (0, r29)), (1, (0, r8)), (0, (2, 6))]) d_X5_input_32 rfl (by decide) rfl ?_
      refine Tr.iload_n (pc := 33) (i := 2) d_X5_input_33 rfl rfl ?_
      have J48 : ∀ (M : Mem) (q48_0 : Int), St Tru ws_X5_input_6_w1 as_X5_input_6_w1 M0 M → ((-1) ≤ q48_0 ∧ q48_0 ≤ 99) → Tr l K 2 mX5_input 48 [(0, (2, 6)), (1, (0, r8)), (2, (0, r29))] [(0, q48_0)] M (q_X5_input_6_w1 M0) := by
        intro M q48_0 hS bq48_0 
        refine Tr.istore_n (pc := 48) (i := 3) (ls2 := [(3, (0, q48_0)), (0, (2, 6)), (1, (0, r8)), (2, (0, r29))]) d_X5_input_48 rfl (by decide) rfl ?_
        refine Tr.iload_n (pc := 49) (i := 3) d_X5_input_49 rfl rfl ?_
        refine Tr.if_lt (pc := 50) (tgt := 62) d_X5_input_50 rfl (fun c50 => ?_) (fun c50 => ?_)
        · refine Tr.iconst (pc := 62) d_X5_input_62 (by decide) ?_
          exact Tr.zret (pc := 63) d_X5_input_63 rfl (by omega) ⟨hS, _, rfl, by omega, by omega⟩
        · refine Tr.aload_n (pc := 53) (i := 0) d_X5_input_53 rfl rfl ?_
          refine Tr.bipush (pc := 54) d_X5_input_54 rfl (by decide) ?_
          refine Tr.callV (pc := 56) (as := [_]) d_X5_input_56 s_5_81 ok_X5_takeSign rfl rfl (Nat.le_of_ble_eq_true rfl) (Nat.le_of_ble_eq_true rfl) (by decide) (ty_6 hS.1.1) ?_
          refine Tr.imp (Tr.deep (by decide) (sp_X5_takeSign_6 hS.1 ((St.kp hS (by decide) (by decide) (by decide)).trans en_6_2) 59 (by omega))) ?_
          rintro M56 _ ⟨h56, r56, rfl, lr56, ur56⟩
          have hS := St.tr hS h56 (by decide) (by decide)
          refine Tr.sc [(0, r56)] rfl ?_
          refine Tr.if_ne (pc := 59) (tgt := 64) d_X5_input_59 rfl (fun c59 => ?_) (fun c59 => ?_)
          · refine Tr.aload_n (pc := 64) (i := 0) d_X5_input_64 rfl rfl ?_
            refine Tr.getf (pc := 65) d_X5_input_65 f_5_22 (by decide) (by decide) (ty_6 hS.1.1) ?_
            refine Tr.tp 7 ((St.kp hS (by decide) (by decide) (by decide)).trans en_6_3) ?_
            refine Tr.getf (pc := 68) d_X5_input_68 f_5_148 (by decide) (by decide) (ty_7 hS.1.1) ?_
            refine Tr.tp 12 (fx_7_8 hS.1.1) ?_
            refine Tr.iload_n (pc := 71) (i := 1) d_X5_input_71 rfl rfl ?_
            refine Tr.iload_n (pc := 72) (i := 2) d_X5_input_72 rfl rfl ?_
            refine Tr.iastS (pc := 73) (P := St Tru ws_X5_input_6_w1 as_X5_input_6_w1 M0) d_X5_input_73 (ty_12 hS.1.1) (by omega) (by omega) (sa_12 hS (by decide) (by omega) trivial) (fun M73 hS w73 => ?_)
            refine Tr.aload_n (pc := 74) (i := 0) d_X5_input_74 rfl rfl ?_
            refine Tr.getf (pc := 75) d_X5_input_75 f_5_22 (by decide) (by decide) (ty_6 hS.1.1) ?_
            refine Tr.tp 7 ((St.kp hS (by decide) (by decide) (by decide)).trans en_6_3) ?_
            refine Tr.getf (pc := 78) d_X5_input_78 f_5_151 (by decide) (by decide) (ty_7 hS.1.1) ?_
            refine Tr.tp 13 (fx_7_9 hS.1.1) ?_
            refine Tr.iload_n (pc := 81) (i := 1) d_X5_input_81 rfl rfl ?_
            refine Tr.iload_n (pc := 82) (i := 3) d_X5_input_82 rfl rfl ?_
            refine Tr.iastS (pc := 83) (P := St Tru ws_X5_input_6_w1 as_X5_input_6_w1 M0) d_X5_input_83 (ty_13 hS.1.1) (by omega) (by omega) (sa_13 hS (by decide) (by omega) trivial) (fun M83 hS w83 => ?_)
            refine Tr.iconst (pc := 84) d_X5_input_84 (by decide) ?_
            exact Tr.zret (pc := 85) d_X5_input_85 rfl (by omega) ⟨hS, _, rfl, by omega, by omega⟩
          · refine Tr.iconst (pc := 62) d_X5_input_62 (by decide) ?_
            exact Tr.zret (pc := 63) d_X5_input_63 rfl (by omega) ⟨hS, _, rfl, by omega, by omega⟩
      refine Tr.if_ge (pc := 34) (tgt := 41) d_X5_input_34 rfl (fun c34 => ?_) (fun c34 => ?_)
      · refine Tr.aload_n (pc := 41) (i := 0) d_X5_input_41 rfl rfl ?_
        refine Tr.iload_n (pc := 42) (i := 2) d_X5_input_42 rfl rfl ?_
        refine Tr.bipush (pc := 43) d_X5_input_43 rfl (by decide) ?_
        refine Tr.callV (pc := 45) (as := [_, _]) d_X5_input_45 s_5_87 ok_X5_takeNumber rfl rfl (Nat.le_of_ble_eq_true rfl) (Nat.le_of_ble_eq_true rfl) (by decide) (ty_6 hS.1.1) ?_
        refine Tr.imp (Tr.deep (by decide) (sp_X5_takeNumber_6_w1 hS.1 ((St.kp hS (by decide) (by decide) (by decide)).trans en_6_2) r29 (by omega) 99 (by omega))) ?_
        rintro M45 _ ⟨h45, r45, rfl, lr45, ur45⟩
        have hS := St.tr hS h45 (by decide) (by decide)
        refine Tr.sc [(0, r45)] rfl ?_
        refine Tr.pick [2, 1, 0] (ls2 := [(0, (2, 6)), (1, (0, r8)), (2, (0, r29))]) rfl ?_
        exact J48 _ _ hS (by omega)
      · refine Tr.iconst (pc := 37) d_X5_input_37 (by decide) ?_
        refine Tr.goto (pc := 38) (tgt := 48) d_X5_input_38 rfl ?_
        refine Tr.pick [2, 1, 0] (ls2 := [(0, (2, 6)), (1, (0, r8)), (2, (0, r29))]) rfl ?_
        exact J48 _ _ hS (by omega)
    · refine Tr.iconst (pc := 23) d_X5_input_23 (by decide) ?_
      exact Tr.zret (pc := 24) d_X5_input_24 rfl (by omega) ⟨hS, _, rfl, by omega, by omega⟩
