def ws_X1_makeRoom_56 : List (Int × Int) := [(63, 1), (63, 2), (63, 3), (63, 4), (63, 5), (63, 8), (63, 9), (63, 10), (63, 11)]
def as_X1_makeRoom_56 : List Int := [191]
def q_X1_makeRoom_56 (M0 M' : Mem) (r : Option PV) : Prop := St Tru ws_X1_makeRoom_56 as_X1_makeRoom_56 M0 M' ∧ r = none
set_option maxRecDepth 100000 in
set_option maxHeartbeats 4000000 in
theorem sp_X1_makeRoom_56 {l : Launch} {K : EC} {M0 : Mem} (hI : In Tru M0)    (hq0 : rd M0 63 7 ≤ 2000) : Tr l K 3 mX1_makeRoom 0 [(0, (2, 56))] [] M0 (q_X1_makeRoom_56 M0) := by
  have hS : St Tru ws_X1_makeRoom_56 as_X1_makeRoom_56 M0 M0 := St.rf hI
  refine Tr.aload_n (pc := 0) (i := 0) d_X1_makeRoom_0 rfl rfl ?_
  refine Tr.getz (pc := 1) d_X1_makeRoom_1 f_1_37 (by decide) (ty_56 hS.1.1) ?_
  refine Tr.tp 1 (fx_56_0 hS.1.1) ?_
  refine Tr.if_eq (pc := 4) (tgt := 14) d_X1_makeRoom_4 rfl (fun hc => absurd hc (by omega)) (fun _ => ?_)
  refine Tr.aload_n (pc := 7) (i := 0) d_X1_makeRoom_7 rfl rfl ?_
  refine Tr.getf (pc := 8) d_X1_makeRoom_8 f_1_33 (by decide) (by decide) (ty_56 hS.1.1) ?_
  refine Tr.tp 63 (fx_56_8 hS.1.1) ?_
  refine Tr.callV (pc := 11) (as := []) d_X1_makeRoom_11 s_1_54 ok_X8_makeRoom rfl rfl (Nat.le_of_ble_eq_true rfl) (Nat.le_of_ble_eq_true rfl) (by decide) (ty_63 hS.1.1) ?_
  obtain ⟨w11_63_7, ew11_63_7⟩ : ∃ v, rd M0 63 7 = v := ⟨_, rfl⟩
  have bw11_63_7 : (-2147483648) ≤ w11_63_7 ∧ w11_63_7 ≤ 2147483647 := by rw [← ew11_63_7]; exact ir_63_7 hS.1.2.1
  have kb11_63_7 : rd M0 63 7 = w11_63_7 := ew11_63_7
  refine Tr.imp (Tr.deep (by decide) (sp_X8_makeRoom_63 hS.1.wk (by omega))) ?_
  rintro M11 _ ⟨h11, rfl⟩
  have hS := St.tr hS h11 (by decide) (by decide)
  refine Tr.sc [] rfl ?_
  exact Tr.vret (pc := 14) d_X1_makeRoom_14 rfl ⟨hS, rfl⟩

def ws_X6_sipsAt_48 : List (Int × Int) := []
def as_X6_sipsAt_48 : List Int := []
def q_X6_sipsAt_48 (M0 M' : Mem) (r : Option PV) : Prop := St Tru ws_X6_sipsAt_48 as_X6_sipsAt_48 M0 M' ∧ ∃ v : Int, r = some (0, v) ∧ (-2147483648) ≤ v ∧ v ≤ 2147483647
set_option maxRecDepth 100000 in
set_option maxHeartbeats 4000000 in
theorem sp_X6_sipsAt_48 {l : Launch} {K : EC} {M0 : Mem} (hI : In Tru M0) (en_48_1 : rd M0 48 1 = 7) (a1 : Int) (ha1 : (-2147483648) ≤ a1 ∧ a1 ≤ 2147483647) (a2 : Int) (ha2 : (-1) ≤ a2 ∧ a2 ≤ (-1)) (a3 : Int) (ha3 : 0 ≤ a3 ∧ a3 ≤ 0)  : Tr l K 0 mX6_sipsAt 0 [(0, (2, 48)), (1, (0, a1)), (2, (0, a2)), (3, (0, a3))] [] M0 (q_X6_sipsAt_48 M0) := by
  have hS : St Tru ws_X6_sipsAt_48 as_X6_sipsAt_48 M0 M0 := St.rf hI
  refine Tr.aload_n (pc := 0) (i := 0) d_X6_sipsAt_0 rfl rfl ?_
  refine Tr.getf (pc := 1) d_X6_sipsAt_1 f_6_46 (by decide) (by decide) (ty_48 hS.1.1) ?_
  refine Tr.tp 7 ((St.kp hS (by decide) (by decide) (by decide)).trans en_48_1) ?_
  refine Tr.getf (pc := 4) d_X6_sipsAt_4 f_6_135 (by decide) (by decide) (ty_7 hS.1.1) ?_
  refine Tr.gen (P := fun v => (-1) ≤ v ∧ v ≤ 999) (ir_7_0 hS.1.2.1) (fun r4 er4 br4 => ?_)
  refine Tr.istore (pc := 7) (i := 4) (ls2 := [(4, (0, r4)), (0, (2, 48)), (1, (0, a1)), (2, (0, a2)), (3, (0, a3))]) d_X6_sipsAt_7 (by decide) rfl ?_
  refine Tr.iconst (pc := 9) d_X6_sipsAt_9 (by decide) ?_
  refine Tr.istore (pc := 10) (i := 5) (ls2 := [(5, (0, 0)), (4, (0, r4)), (0, (2, 48)), (1, (0, a1)), (2, (0, a2)), (3, (0, a3))]) d_X6_sipsAt_10 (by decide) rfl ?_
  have J12 : ∀ (n12 : Nat) (M : Mem) (p12_4 p12_5 : Int), St Tru ws_X6_sipsAt_48 as_X6_sipsAt_48 M0 M → ((-2147483648) ≤ p12_4 ∧ p12_4 ≤ 2147483647) → (0 ≤ p12_5 ∧ p12_5 ≤ 6) → rd M 7 0 = r4 → (6 - p12_5).toNat < n12 → Tr l K 0 mX6_sipsAt 12 [(0, (2, 48)), (1, (0, a1)), (2, (0, a2)), (3, (0, a3)), (4, (0, p12_4)), (5, (0, p12_5))] [] M (q_X6_sipsAt_48 M0) := by
    intro n12
    induction n12 with
    | zero => intro M p12_4 p12_5 hS bp12_4 bp12_5 k12_7_0 hm12; exact absurd hm12 (Nat.not_lt_zero _)
    | succ n12 J12 =>
      intro M p12_4 p12_5 hS bp12_4 bp12_5 k12_7_0 hm12
      refine Tr.iload (pc := 12) (i := 5) d_X6_sipsAt_12 rfl ?_
      refine Tr.aload_n (pc := 14) (i := 0) d_X6_sipsAt_14 rfl rfl ?_
      refine Tr.getf (pc := 15) d_X6_sipsAt_15 f_6_46 (by decide) (by decide) (ty_48 hS.1.1) ?_
      refine Tr.tp 7 ((St.kp hS (by decide) (by decide) (by decide)).trans en_48_1) ?_
      refine Tr.getf (pc := 18) d_X6_sipsAt_18 f_6_116 (by decide) (by decide) (ty_7 hS.1.1) ?_
      refine Tr.tp 8 (fx_7_4 hS.1.1) ?_
      refine Tr.iconst (pc := 21) d_X6_sipsAt_21 (by decide) ?_
      refine Tr.iald (pc := 22) d_X6_sipsAt_22 (ty_8 hS.1.1) (by omega) (by omega) ?_
      refine Tr.gen (P := fun v => 0 ≤ v ∧ v ≤ 6) (ir_8_0 hS.1.2.1) (fun r22 er22 br22 => ?_)
      refine Tr.icmp_ge (pc := 23) (tgt := 91) d_X6_sipsAt_23 rfl (fun c23 => ?_) (fun c23 => ?_)
      · refine Tr.iload (pc := 91) (i := 4) d_X6_sipsAt_91 rfl ?_
        exact Tr.iret (pc := 93) d_X6_sipsAt_93 rfl ⟨hS, _, rfl, by omega, by omega⟩
      · refine Tr.aload_n (pc := 26) (i := 0) d_X6_sipsAt_26 rfl rfl ?_
        refine Tr.getf (pc := 27) d_X6_sipsAt_27 f_6_24 (by decide) (by decide) (ty_48 hS.1.1) ?_
        refine Tr.tp 53 (fx_48_6 hS.1.1) ?_
        refine Tr.iload (pc := 30) (i := 5) d_X6_sipsAt_30 rfl ?_
        refine Tr.iald (pc := 32) d_X6_sipsAt_32 (ty_53 hS.1.1) (by omega) (by omega) ?_
        refine Tr.gen (P := fun v => 0 ≤ v ∧ v ≤ 1) (ar_53 hS.1.2.1 _) (fun r32 er32 br32 => ?_)
        refine Tr.iconst (pc := 33) d_X6_sipsAt_33 (by decide) ?_
        have J53 : ∀ (M : Mem) (q53_0 : Int), St Tru ws_X6_sipsAt_48 as_X6_sipsAt_48 M0 M → (0 ≤ q53_0 ∧ q53_0 ≤ 2) → rd M 53 p12_5 = r32 → rd M 7 0 = r4 → rd M 8 0 = r22 → Tr l K 0 mX6_sipsAt 53 [(0, (2, 48)), (1, (0, a1)), (2, (0, a2)), (3, (0, a3)), (4, (0, p12_4)), (5, (0, p12_5))] [(0, q53_0)] M (q_X6_sipsAt_48 M0) := by
          intro M q53_0 hS bq53_0 k53_53_p12_510 k53_7_0 k53_8_0
          refine Tr.istore (pc := 53) (i := 6) (ls2 := [(6, (0, q53_0)), (0, (2, 48)), (1, (0, a1)), (2, (0, a2)), (3, (0, a3)), (4, (0, p12_4)), (5, (0, p12_5))]) d_X6_sipsAt_53 (by decide) rfl ?_
          refine Tr.iload (pc := 55) (i := 4) d_X6_sipsAt_55 rfl ?_
          refine Tr.aload_n (pc := 57) (i := 0) d_X6_sipsAt_57 rfl rfl ?_
          refine Tr.getf (pc := 58) d_X6_sipsAt_58 f_6_46 (by decide) (by decide) (ty_48 hS.1.1) ?_
          refine Tr.tp 7 ((St.kp hS (by decide) (by decide) (by decide)).trans en_48_1) ?_
          refine Tr.getf (pc := 61) d_X6_sipsAt_61 f_6_189 (by decide) (by decide) (ty_7 hS.1.1) ?_
          refine Tr.tp 9 (fx_7_5 hS.1.1) ?_
          refine Tr.iload (pc := 64) (i := 5) d_X6_sipsAt_64 rfl ?_
          refine Tr.iconst (pc := 66) d_X6_sipsAt_66 (by decide) ?_
          refine Tr.imul (pc := 67) d_X6_sipsAt_67 ?_
          refine Tr.tp (4 * p12_5) ((w32_id (by omega)).trans (by omega)) ?_
          refine Tr.iload (pc := 68) (i := 5) d_X6_sipsAt_68 rfl ?_
          refine Tr.iload_n (pc := 70) (i := 2) d_X6_sipsAt_70 rfl rfl ?_
          refine Tr.tp (-1) (by omega) ?_
          refine Tr.icmp_ne (pc := 71) (tgt := 78) d_X6_sipsAt_71 rfl (fun _ => ?_) (fun hc => absurd hc (by omega))
          refine Tr.iload (pc := 78) (i := 6) d_X6_sipsAt_78 rfl ?_
          refine Tr.iadd (pc := 80) d_X6_sipsAt_80 ?_
          refine Tr.tp (4 * p12_5 + q53_0) ((w32_id (by omega)).trans (by omega)) ?_
          refine Tr.iald (pc := 81) d_X6_sipsAt_81 (ty_9 hS.1.1) (by omega) (by omega) ?_
          refine Tr.gen (P := fun v => (-1) ≤ v ∧ v ≤ 999) (ar_9 hS.1.2.1 _) (fun r81 er81 br81 => ?_)
          refine Tr.iadd (pc := 82) d_X6_sipsAt_82 ?_
          refine Tr.gen (P := fun v => (-2147483648) ≤ v ∧ v ≤ 2147483647) (w32_b _) (fun r82 er82 br82 => ?_)
          refine Tr.istore (pc := 83) (i := 4) (ls2 := [(4, (0, r82)), (6, (0, q53_0)), (0, (2, 48)), (1, (0, a1)), (2, (0, a2)), (3, (0, a3)), (5, (0, p12_5))]) d_X6_sipsAt_83 (by decide) rfl ?_
          refine Tr.iincV (pc := 85) (n2 := (p12_5 + 1)) (ls2 := [(5, (0, (p12_5 + 1))), (4, (0, r82)), (6, (0, q53_0)), (0, (2, 48)), (1, (0, a1)), (2, (0, a2)), (3, (0, a3))]) d_X6_sipsAt_85 rfl (by decide) ((w32_id (by omega)).trans (by omega)) rfl ?_
          refine Tr.goto (pc := 88) (tgt := 12) d_X6_sipsAt_88 rfl ?_
          refine Tr.pick [3, 4, 5, 6, 1, 0] (ls2 := [(0, (2, 48)), (1, (0, a1)), (2, (0, a2)), (3, (0, a3)), (4, (0, r82)), (5, (0, (p12_5 + 1)))]) rfl ?_
          exact J12 _ _ _ hS (by omega) (by omega) k53_7_0 (by omega)
        have J48 : ∀ (M : Mem), St Tru ws_X6_sipsAt_48 as_X6_sipsAt_48 M0 M → rd M 53 p12_5 = r32 → rd M 7 0 = r4 → rd M 8 0 = r22 → Tr l K 0 mX6_sipsAt 48 [(0, (2, 48)), (1, (0, a1)), (2, (0, a2)), (3, (0, a3)), (4, (0, p12_4)), (5, (0, p12_5))] [] M (q_X6_sipsAt_48 M0) := by
          intro M  hS  k48_53_p12_510 k48_7_0 k48_8_0
          refine Tr.iconst (pc := 48) d_X6_sipsAt_48 (by decide) ?_
          refine Tr.goto (pc := 49) (tgt := 53) d_X6_sipsAt_49 rfl ?_
          refine Tr.pick [0, 1, 2, 3, 4, 5] (ls2 := [(0, (2, 48)), (1, (0, a1)), (2, (0, a2)), (3, (0, a3)), (4, (0, p12_4)), (5, (0, p12_5))]) rfl ?_
          exact J53 _ _ hS (by omega) k48_53_p12_510 k48_7_0 k48_8_0
        refine Tr.icmp_eq (pc := 34) (tgt := 48) d_X6_sipsAt_34 rfl (fun c34 => ?_) (fun c34 => ?_)
        · refine Tr.pick [0, 1, 2, 3, 4, 5] (ls2 := [(0, (2, 48)), (1, (0, a1)), (2, (0, a2)), (3, (0, a3)), (4, (0, p12_4)), (5, (0, p12_5))]) rfl ?_
          exact J48 _ hS er32 k12_7_0 er22
        · refine Tr.iload_n (pc := 37) (i := 1) d_X6_sipsAt_37 rfl rfl ?_
          refine Tr.aload_n (pc := 38) (i := 0) d_X6_sipsAt_38 rfl rfl ?_
          refine Tr.getf (pc := 39) d_X6_sipsAt_39 f_6_27 (by decide) (by decide) (ty_48 hS.1.1) ?_
          refine Tr.tp 54 (fx_48_7 hS.1.1) ?_
          refine Tr.iload (pc := 42) (i := 5) d_X6_sipsAt_42 rfl ?_
          refine Tr.iald (pc := 44) d_X6_sipsAt_44 (ty_54 hS.1.1) (by omega) (by omega) ?_
          refine Tr.gen (P := fun v => (-2147483648) ≤ v ∧ v ≤ 2147483647) (ar_54 hS.1.2.1 _) (fun r44 er44 br44 => ?_)
          refine Tr.icmp_ge (pc := 45) (tgt := 52) d_X6_sipsAt_45 rfl (fun c45 => ?_) (fun c45 => ?_)
          · refine Tr.iconst (pc := 52) d_X6_sipsAt_52 (by decide) ?_
            refine Tr.pick [0, 1, 2, 3, 4, 5] (ls2 := [(0, (2, 48)), (1, (0, a1)), (2, (0, a2)), (3, (0, a3)), (4, (0, p12_4)), (5, (0, p12_5))]) rfl ?_
            exact J53 _ _ hS (by omega) er32 k12_7_0 er22
          · refine Tr.pick [0, 1, 2, 3, 4, 5] (ls2 := [(0, (2, 48)), (1, (0, a1)), (2, (0, a2)), (3, (0, a3)), (4, (0, p12_4)), (5, (0, p12_5))]) rfl ?_
            exact J48 _ hS er32 k12_7_0 er22
  refine Tr.pick [2, 3, 4, 5, 1, 0] (ls2 := [(0, (2, 48)), (1, (0, a1)), (2, (0, a2)), (3, (0, a3)), (4, (0, r4)), (5, (0, 0))]) rfl ?_
  exact J12 _ _ _ _ hS (by omega) (by omega) er4 (Nat.lt_succ_self _)

def ws_X6_afforded_48 : List (Int × Int) := [(48, 17)]
def as_X6_afforded_48 : List Int := []
def q_X6_afforded_48 (M0 M' : Mem) (r : Option PV) : Prop := St Tru ws_X6_afforded_48 as_X6_afforded_48 M0 M' ∧ ∃ v : Int, r = some (0, v) ∧ (-2147483648) ≤ v ∧ v ≤ 1
set_option maxRecDepth 100000 in
set_option maxHeartbeats 4000000 in
theorem sp_X6_afforded_48 {l : Launch} {K : EC} {M0 : Mem} (hI : In Tru M0) (en_48_1 : rd M0 48 1 = 7) (a1 : Int) (ha1 : (-2147483648) ≤ a1 ∧ a1 ≤ 1) (a2 : Int) (ha2 : (-1) ≤ a2 ∧ a2 ≤ (-1)) (a3 : Int) (ha3 : 0 ≤ a3 ∧ a3 ≤ 0)  : Tr l K 1 mX6_afforded 0 [(0, (2, 48)), (1, (0, a1)), (2, (0, a2)), (3, (0, a3))] [] M0 (q_X6_afforded_48 M0) := by
  have hS : St Tru ws_X6_afforded_48 as_X6_afforded_48 M0 M0 := St.rf hI
  refine Tr.iconst (pc := 0) d_X6_afforded_0 (by decide) ?_
  refine Tr.istore (pc := 1) (i := 4) (ls2 := [(4, (0, 0)), (0, (2, 48)), (1, (0, a1)), (2, (0, a2)), (3, (0, a3))]) d_X6_afforded_1 (by decide) rfl ?_
  have J3 : ∀ (n3 : Nat) (M : Mem) (p3_4 : Int), St Tru ws_X6_afforded_48 as_X6_afforded_48 M0 M → (0 ≤ p3_4 ∧ p3_4 ≤ 1) → (1 - p3_4).toNat < n3 → Tr l K 1 mX6_afforded 3 [(0, (2, 48)), (1, (0, a1)), (2, (0, a2)), (3, (0, a3)), (4, (0, p3_4))] [] M (q_X6_afforded_48 M0) := by
    intro n3
    induction n3 with
    | zero => intro M p3_4 hS bp3_4  hm3; exact absurd hm3 (Nat.not_lt_zero _)
    | succ n3 J3 =>
      intro M p3_4 hS bp3_4  hm3
      refine Tr.iload (pc := 3) (i := 4) d_X6_afforded_3 rfl ?_
      refine Tr.iload_n (pc := 5) (i := 1) d_X6_afforded_5 rfl rfl ?_
      refine Tr.icmp_ge (pc := 6) (tgt := 53) d_X6_afforded_6 rfl (fun c6 => ?_) (fun c6 => ?_)
      · refine Tr.iload_n (pc := 53) (i := 1) d_X6_afforded_53 rfl rfl ?_
        exact Tr.iret (pc := 54) d_X6_afforded_54 rfl ⟨hS, _, rfl, by omega, by omega⟩
      · refine Tr.aload_n (pc := 9) (i := 0) d_X6_afforded_9 rfl rfl ?_
        refine Tr.aload_n (pc := 10) (i := 0) d_X6_afforded_10 rfl rfl ?_
        refine Tr.getf (pc := 11) d_X6_afforded_11 f_6_68 (by decide) (by decide) (ty_48 hS.1.1) ?_
        refine Tr.gen (P := fun v => (-2147483648) ≤ v ∧ v ≤ 2147483647) (ir_48_9 hS.1.2.1) (fun r11 er11 br11 => ?_)
        refine Tr.iload (pc := 14) (i := 4) d_X6_afforded_14 rfl ?_
        refine Tr.iadd (pc := 16) d_X6_afforded_16 ?_
        refine Tr.tp (p3_4 + r11) ((w32_id (by omega)).trans (by omega)) ?_
        refine Tr.iload_n (pc := 17) (i := 2) d_X6_afforded_17 rfl rfl ?_
        refine Tr.tp (-1) (by omega) ?_
        refine Tr.iload_n (pc := 18) (i := 3) d_X6_afforded_18 rfl rfl ?_
        refine Tr.tp 0 (by omega) ?_
        refine Tr.callV (pc := 19) (as := [_, _, _]) d_X6_afforded_19 s_6_186 ok_X6_sipsAt rfl rfl (Nat.le_of_ble_eq_true rfl) (Nat.le_of_ble_eq_true rfl) (by decide) (ty_48 hS.1.1) ?_
        refine Tr.imp (Tr.deep (by decide) (sp_X6_sipsAt_48 hS.1 ((St.kp hS (by decide) (by decide) (by decide)).trans en_48_1) (p3_4 + r11) (by omega) (-1) (by omega) 0 (by omega))) ?_
        rintro M19 _ ⟨h19, r19, rfl, lr19, ur19⟩
        have hS := St.tr hS h19 (by decide) (by decide)
        refine Tr.sc [(0, r19)] rfl ?_
        refine Tr.istore (pc := 22) (i := 5) (ls2 := [(5, (0, r19)), (0, (2, 48)), (1, (0, a1)), (2, (0, a2)), (3, (0, a3)), (4, (0, p3_4))]) d_X6_afforded_22 (by decide) rfl ?_
        refine Tr.iload (pc := 24) (i := 5) d_X6_afforded_24 rfl ?_
        refine Tr.aload_n (pc := 26) (i := 0) d_X6_afforded_26 rfl rfl ?_
        refine Tr.getf (pc := 27) d_X6_afforded_27 f_6_110 (by decide) (by decide) (ty_48 hS.1.1) ?_
        refine Tr.gen (P := fun v => (-2147483648) ≤ v ∧ v ≤ 2147483647) (ir_48_17 hS.1.2.1) (fun r27 er27 br27 => ?_)
        refine Tr.icmp_le (pc := 30) (tgt := 36) d_X6_afforded_30 rfl (fun c30 => ?_) (fun c30 => ?_)
        · refine Tr.aload_n (pc := 36) (i := 0) d_X6_afforded_36 rfl rfl ?_
          refine Tr.dup (pc := 37) d_X6_afforded_37 ne21 ?_
          refine Tr.getf (pc := 38) d_X6_afforded_38 f_6_110 (by decide) (by decide) (ty_48 hS.1.1) ?_
          refine Tr.tp r27 er27 ?_
          refine Tr.iload (pc := 41) (i := 5) d_X6_afforded_41 rfl ?_
          refine Tr.isub (pc := 43) d_X6_afforded_43 ?_
          refine Tr.gen (P := fun v => (-2147483648) ≤ v ∧ v ≤ 2147483647) (w32_b _) (fun r43 er43 br43 => ?_)
          refine Tr.putfS (pc := 44) (P := St Tru ws_X6_afforded_48 as_X6_afforded_48 M0) d_X6_afforded_44 f_6_110 (by decide) (by decide) (ty_48 hS.1.1) (st_48_17 hS (by decide) (by omega) trivial) (fun M44 hS w44 => ?_)
          refine Tr.iincV (pc := 47) (n2 := (p3_4 + 1)) (ls2 := [(4, (0, (p3_4 + 1))), (5, (0, r19)), (0, (2, 48)), (1, (0, a1)), (2, (0, a2)), (3, (0, a3))]) d_X6_afforded_47 rfl (by decide) ((w32_id (by omega)).trans (by omega)) rfl ?_
          refine Tr.goto (pc := 50) (tgt := 3) d_X6_afforded_50 rfl ?_
          refine Tr.pick [2, 3, 4, 5, 0] (ls2 := [(0, (2, 48)), (1, (0, a1)), (2, (0, a2)), (3, (0, a3)), (4, (0, (p3_4 + 1)))]) rfl ?_
          exact J3 _ _ hS (by omega) (by omega)
        · refine Tr.iload (pc := 33) (i := 4) d_X6_afforded_33 rfl ?_
          exact Tr.iret (pc := 35) d_X6_afforded_35 rfl ⟨hS, _, rfl, by omega, by omega⟩
  refine Tr.pick [1, 2, 3, 4, 0] (ls2 := [(0, (2, 48)), (1, (0, a1)), (2, (0, a2)), (3, (0, a3)), (4, (0, 0))]) rfl ?_
  exact J3 _ _ _ hS (by omega) (Nat.lt_succ_self _)

def ws_X6_pass_48 : List (Int × Int) := [(48, 9), (48, 14), (48, 17)]
def as_X6_pass_48 : List Int := []
def q_X6_pass_48 (M0 M' : Mem) (r : Option PV) : Prop := St Tru ws_X6_pass_48 as_X6_pass_48 M0 M' ∧ ∃ v : Int, r = some (0, v) ∧ (-2147483648) ≤ v ∧ v ≤ 1
set_option maxRecDepth 100000 in
set_option maxHeartbeats 4000000 in
theorem sp_X6_pass_48 {l : Launch} {K : EC} {M0 : Mem} (hI : In Tru M0) (en_48_1 : rd M0 48 1 = 7) (a1 : Int) (ha1 : 1 ≤ a1 ∧ a1 ≤ 1) (a2 : Int) (ha2 : (-1) ≤ a2 ∧ a2 ≤ (-1)) (a3 : Int) (ha3 : 0 ≤ a3 ∧ a3 ≤ 0)  : Tr l K 2 mX6_pass 0 [(0, (2, 48)), (1, (0, a1)), (2, (0, a2)), (3, (0, a3))] [] M0 (q_X6_pass_48 M0) := by
  have hS : St Tru ws_X6_pass_48 as_X6_pass_48 M0 M0 := St.rf hI
  refine Tr.iload_n (pc := 0) (i := 1) d_X6_pass_0 rfl rfl ?_
  refine Tr.tp 1 (by omega) ?_
  refine Tr.sipush (pc := 1) d_X6_pass_1 rfl (by decide) ?_
  refine Tr.aload_n (pc := 4) (i := 0) d_X6_pass_4 rfl rfl ?_
  refine Tr.getf (pc := 5) d_X6_pass_5 f_6_68 (by decide) (by decide) (ty_48 hS.1.1) ?_
  refine Tr.gen (P := fun v => (-2147483648) ≤ v ∧ v ≤ 2147483647) (ir_48_9 hS.1.2.1) (fun r5 er5 br5 => ?_)
  refine Tr.isub (pc := 8) d_X6_pass_8 ?_
  refine Tr.gen (P := fun v => (-2147483648) ≤ v ∧ v ≤ 2147483647) (w32_b _) (fun r8 er8 br8 => ?_)
  refine Tr.mmin (pc := 9) d_X6_pass_9 ml_6_158 mw_mmin (Nat.le_of_ble_eq_true rfl) ?_
  refine Tr.gen (P := fun v => (v = 1 ∧ 1 ≤ r8) ∨ (v = r8 ∧ r8 ≤ 1)) (f_min_p _ _) (fun r9 er9 br9 => ?_)
  refine Tr.istore (pc := 12) (i := 4) (ls2 := [(4, (0, r9)), (0, (2, 48)), (1, (0, a1)), (2, (0, a2)), (3, (0, a3))]) d_X6_pass_12 (by decide) rfl ?_
  refine Tr.aload_n (pc := 14) (i := 0) d_X6_pass_14 rfl rfl ?_
  refine Tr.getz (pc := 15) d_X6_pass_15 f_6_106 (by decide) (ty_48 hS.1.1) ?_
  refine Tr.gen (P := fun v => 0 ≤ v ∧ v ≤ 1) (ir_48_16 hS.1.2.1) (fun r15 er15 br15 => ?_)
  have J34 : ∀ (M : Mem) (q34_0 : Int), St Tru ws_X6_pass_48 as_X6_pass_48 M0 M → ((-2147483648) ≤ q34_0 ∧ q34_0 ≤ 1) → rd M 48 16 = r15 → rd M 48 9 = r5 → Tr l K 2 mX6_pass 34 [(0, (2, 48)), (1, (0, a1)), (4, (0, r9))] [(0, q34_0)] M (q_X6_pass_48 M0) := by
    intro M q34_0 hS bq34_0 k34_48_16 k34_48_9
    refine Tr.istore (pc := 34) (i := 5) (ls2 := [(5, (0, q34_0)), (0, (2, 48)), (1, (0, a1)), (4, (0, r9))]) d_X6_pass_34 (by decide) rfl ?_
    refine Tr.aload_n (pc := 36) (i := 0) d_X6_pass_36 rfl rfl ?_
    refine Tr.dup (pc := 37) d_X6_pass_37 ne21 ?_
    refine Tr.getf (pc := 38) d_X6_pass_38 f_6_68 (by decide) (by decide) (ty_48 hS.1.1) ?_
    refine Tr.tp r5 k34_48_9 ?_
    refine Tr.iload (pc := 41) (i := 5) d_X6_pass_41 rfl ?_
    refine Tr.iadd (pc := 43) d_X6_pass_43 ?_
    refine Tr.gen (P := fun v => (-2147483648) ≤ v ∧ v ≤ 2147483647) (w32_b _) (fun r43 er43 br43 => ?_)
    refine Tr.putfS (pc := 44) (P := St Tru ws_X6_pass_48 as_X6_pass_48 M0) d_X6_pass_44 f_6_68 (by decide) (by decide) (ty_48 hS.1.1) (st_48_9 hS (by decide) (by omega) trivial) (fun M44 hS w44 => ?_)
    refine Tr.iload (pc := 47) (i := 5) d_X6_pass_47 rfl ?_
    refine Tr.iload_n (pc := 49) (i := 1) d_X6_pass_49 rfl rfl ?_
    refine Tr.tp 1 (by omega) ?_
    refine Tr.icmp_ge (pc := 50) (tgt := 69) d_X6_pass_50 rfl (fun c50 => ?_) (fun c50 => ?_)
    · refine Tr.iload (pc := 69) (i := 5) d_X6_pass_69 rfl ?_
      refine Tr.tp 1 (by omega) ?_
      exact Tr.iret (pc := 71) d_X6_pass_71 rfl ⟨hS, _, rfl, by omega, by omega⟩
    · refine Tr.aload_n (pc := 53) (i := 0) d_X6_pass_53 rfl rfl ?_
      refine Tr.iload (pc := 54) (i := 5) d_X6_pass_54 rfl ?_
      refine Tr.iload (pc := 56) (i := 4) d_X6_pass_56 rfl ?_
      refine Tr.icmp_ne (pc := 58) (tgt := 65) d_X6_pass_58 rfl (fun c58 => ?_) (fun c58 => ?_)
      · refine Tr.iconst (pc := 65) d_X6_pass_65 (by decide) ?_
        refine Tr.putfS (pc := 66) (P := St Tru ws_X6_pass_48 as_X6_pass_48 M0) d_X6_pass_66 f_6_62 (by decide) (by decide) (ty_48 hS.1.1) (st_48_14 hS (by decide) (by omega) trivial) (fun M66 hS w66 => ?_)
        refine Tr.iload (pc := 69) (i := 5) d_X6_pass_69 rfl ?_
        exact Tr.iret (pc := 71) d_X6_pass_71 rfl ⟨hS, _, rfl, by omega, by omega⟩
      · refine Tr.iconst (pc := 61) d_X6_pass_61 (by decide) ?_
        refine Tr.goto (pc := 62) (tgt := 66) d_X6_pass_62 rfl ?_
        refine Tr.putfS (pc := 66) (P := St Tru ws_X6_pass_48 as_X6_pass_48 M0) d_X6_pass_66 f_6_62 (by decide) (by decide) (ty_48 hS.1.1) (st_48_14 hS (by decide) (by omega) trivial) (fun M66 hS w66 => ?_)
        refine Tr.iload (pc := 69) (i := 5) d_X6_pass_69 rfl ?_
        exact Tr.iret (pc := 71) d_X6_pass_71 rfl ⟨hS, _, rfl, by omega, by omega⟩
  refine Tr.if_eq (pc := 18) (tgt := 32) d_X6_pass_18 rfl (fun c18 => ?_) (fun c18 => ?_)
  · refine Tr.iload (pc := 32) (i := 4) d_X6_pass_32 rfl ?_
    refine Tr.pick [1, 2, 0] (ls2 := [(0, (2, 48)), (1, (0, a1)), (4, (0, r9))]) rfl ?_
    exact J34 _ _ hS (by omega) er15 er5
  · refine Tr.aload_n (pc := 21) (i := 0) d_X6_pass_21 rfl rfl ?_
    refine Tr.iload (pc := 22) (i := 4) d_X6_pass_22 rfl ?_
    refine Tr.iload_n (pc := 24) (i := 2) d_X6_pass_24 rfl rfl ?_
    refine Tr.tp (-1) (by omega) ?_
    refine Tr.iload_n (pc := 25) (i := 3) d_X6_pass_25 rfl rfl ?_
    refine Tr.tp 0 (by omega) ?_
    refine Tr.callV (pc := 26) (as := [_, _, _]) d_X6_pass_26 s_6_183 ok_X6_afforded rfl rfl (Nat.le_of_ble_eq_true rfl) (Nat.le_of_ble_eq_true rfl) (by decide) (ty_48 hS.1.1) ?_
    refine Tr.imp (Tr.deep (by decide) (sp_X6_afforded_48 hS.1 ((St.kp hS (by decide) (by decide) (by decide)).trans en_48_1) r9 (by omega) (-1) (by omega) 0 (by omega))) ?_
    rintro M26 _ ⟨h26, r26, rfl, lr26, ur26⟩
    have hS := St.tr hS h26 (by decide) (by decide)
    refine Tr.sc [(0, r26)] rfl ?_
    refine Tr.goto (pc := 29) (tgt := 34) d_X6_pass_29 rfl ?_
    refine Tr.pick [1, 2, 0] (ls2 := [(0, (2, 48)), (1, (0, a1)), (4, (0, r9))]) rfl ?_
    exact J34 _ _ hS (by omega) ((St.kp h26 (by decide) (by decide) (by decide)).trans er15) ((St.kp h26 (by decide) (by decide) (by decide)).trans er5)

def ws_X6_single_48 : List (Int × Int) := []
def as_X6_single_48 : List Int := []
def q_X6_single_48 (M0 M' : Mem) (r : Option PV) : Prop := St Tru ws_X6_single_48 as_X6_single_48 M0 M' ∧ ∃ v : Int, r = some (0, v) ∧ (-2147483648) ≤ v ∧ v ≤ 2147483647
set_option maxRecDepth 100000 in
set_option maxHeartbeats 4000000 in
theorem sp_X6_single_48 {l : Launch} {K : EC} {M0 : Mem} (hI : In Tru M0)  (a1 : Int) (ha1 : (-2147483648) ≤ a1 ∧ a1 ≤ 5) (a2 : Int) (ha2 : (-2147483648) ≤ a2 ∧ a2 ≤ 2147483647) (hp0 : (a1 = 1 → 0 ≤ a2 ∧ a2 ≤ 2) ∧ (a1 = 2 ∨ a1 = 4 → 0 ≤ a2 ∧ a2 ≤ 5)) : Tr l K 0 mX6_single 0 [(0, (2, 48)), (1, (0, a1)), (2, (0, a2))] [] M0 (q_X6_single_48 M0) := by
  have hS : St Tru ws_X6_single_48 as_X6_single_48 M0 M0 := St.rf hI
  refine Tr.iload_n (pc := 0) (i := 1) d_X6_single_0 rfl rfl ?_
  rcases (show (a1 < 1 ∨ 4 < a1) ∨ a1 = 1 ∨ a1 = 2 ∨ a1 = 3 ∨ a1 = 4 by omega) with c1 | c1 | c1 | c1 | c1
  · refine Tr.tswOut (pc := 1) (tgt := 58) d_X6_single_1 c1 rfl ?_
    refine Tr.iload_n (pc := 58) (i := 2) d_X6_single_58 rfl rfl ?_
    exact Tr.iret (pc := 59) d_X6_single_59 rfl ⟨hS, _, rfl, by omega, by omega⟩
  · refine Tr.tp 1 c1 ?_
    refine Tr.tswIn (pc := 1) (off := 31) (tgt := 32) d_X6_single_1 (by decide) (by decide) rfl rfl ?_
    refine Tr.aload_n (pc := 32) (i := 0) d_X6_single_32 rfl rfl ?_
    refine Tr.getf (pc := 33) d_X6_single_33 f_6_9 (by decide) (by decide) (ty_48 hS.1.1) ?_
    refine Tr.tp 49 (fx_48_2 hS.1.1) ?_
    refine Tr.iload_n (pc := 36) (i := 2) d_X6_single_36 rfl rfl ?_
    refine Tr.iald (pc := 37) d_X6_single_37 (ty_49 hS.1.1) (by omega) (by omega) ?_
    refine Tr.gen (P := fun v => (-2147483648) ≤ v ∧ v ≤ 2147483647) (ar_49 hS.1.2.1 _) (fun r37 er37 br37 => ?_)
    exact Tr.iret (pc := 38) d_X6_single_38 rfl ⟨hS, _, rfl, by omega, by omega⟩
  · refine Tr.tp 2 c1 ?_
    refine Tr.tswIn (pc := 1) (off := 38) (tgt := 39) d_X6_single_1 (by decide) (by decide) rfl rfl ?_
    refine Tr.aload_n (pc := 39) (i := 0) d_X6_single_39 rfl rfl ?_
    refine Tr.getf (pc := 40) d_X6_single_40 f_6_15 (by decide) (by decide) (ty_48 hS.1.1) ?_
    refine Tr.tp 50 (fx_48_3 hS.1.1) ?_
    refine Tr.iload_n (pc := 43) (i := 2) d_X6_single_43 rfl rfl ?_
    refine Tr.iald (pc := 44) d_X6_single_44 (ty_50 hS.1.1) (by omega) (by omega) ?_
    refine Tr.gen (P := fun v => (-2147483648) ≤ v ∧ v ≤ 2147483647) (ar_50 hS.1.2.1 _) (fun r44 er44 br44 => ?_)
    exact Tr.iret (pc := 45) d_X6_single_45 rfl ⟨hS, _, rfl, by omega, by omega⟩
  · refine Tr.tp 3 c1 ?_
    refine Tr.tswIn (pc := 1) (off := 45) (tgt := 46) d_X6_single_1 (by decide) (by decide) rfl rfl ?_
    refine Tr.aload_n (pc := 46) (i := 0) d_X6_single_46 rfl rfl ?_
    refine Tr.getf (pc := 47) d_X6_single_47 f_6_68 (by decide) (by decide) (ty_48 hS.1.1) ?_
    refine Tr.gen (P := fun v => (-2147483648) ≤ v ∧ v ≤ 2147483647) (ir_48_9 hS.1.2.1) (fun r47 er47 br47 => ?_)
    exact Tr.iret (pc := 50) d_X6_single_50 rfl ⟨hS, _, rfl, by omega, by omega⟩
  · refine Tr.tp 4 c1 ?_
    refine Tr.tswIn (pc := 1) (off := 50) (tgt := 51) d_X6_single_1 (by decide) (by decide) rfl rfl ?_
    refine Tr.aload_n (pc := 51) (i := 0) d_X6_single_51 rfl rfl ?_
    refine Tr.getf (pc := 52) d_X6_single_52 f_6_24 (by decide) (by decide) (ty_48 hS.1.1) ?_
    refine Tr.tp 53 (fx_48_6 hS.1.1) ?_
    refine Tr.iload_n (pc := 55) (i := 2) d_X6_single_55 rfl rfl ?_
    refine Tr.iald (pc := 56) d_X6_single_56 (ty_53 hS.1.1) (by omega) (by omega) ?_
    refine Tr.gen (P := fun v => 0 ≤ v ∧ v ≤ 1) (ar_53 hS.1.2.1 _) (fun r56 er56 br56 => ?_)
    exact Tr.iret (pc := 57) d_X6_single_57 rfl ⟨hS, _, rfl, by omega, by omega⟩

def ws_X6_afforded_48_w1 : List (Int × Int) := [(48, 17)]
def as_X6_afforded_48_w1 : List Int := []
def q_X6_afforded_48_w1 (M0 M' : Mem) (r : Option PV) : Prop := St Tru ws_X6_afforded_48_w1 as_X6_afforded_48_w1 M0 M' ∧ ∃ v : Int, r = some (0, v) ∧ (-2147483648) ≤ v ∧ v ≤ 20
set_option maxRecDepth 100000 in
set_option maxHeartbeats 4000000 in
theorem sp_X6_afforded_48_w1 {l : Launch} {K : EC} {M0 : Mem} (hI : In Tru M0) (en_48_1 : rd M0 48 1 = 7) (a1 : Int) (ha1 : (-2147483648) ≤ a1 ∧ a1 ≤ 20) (a2 : Int) (ha2 : (-1) ≤ a2 ∧ a2 ≤ (-1)) (a3 : Int) (ha3 : 0 ≤ a3 ∧ a3 ≤ 0)  : Tr l K 1 mX6_afforded 0 [(0, (2, 48)), (1, (0, a1)), (2, (0, a2)), (3, (0, a3))] [] M0 (q_X6_afforded_48_w1 M0) := by
  have hS : St Tru ws_X6_afforded_48_w1 as_X6_afforded_48_w1 M0 M0 := St.rf hI
  refine Tr.iconst (pc := 0) d_X6_afforded_0 (by decide) ?_
  refine Tr.istore (pc := 1) (i := 4) (ls2 := [(4, (0, 0)), (0, (2, 48)), (1, (0, a1)), (2, (0, a2)), (3, (0, a3))]) d_X6_afforded_1 (by decide) rfl ?_
  have J3 : ∀ (n3 : Nat) (M : Mem) (p3_4 : Int), St Tru ws_X6_afforded_48_w1 as_X6_afforded_48_w1 M0 M → (0 ≤ p3_4 ∧ p3_4 ≤ 20) → (20 - p3_4).toNat < n3 → Tr l K 1 mX6_afforded 3 [(0, (2, 48)), (1, (0, a1)), (2, (0, a2)), (3, (0, a3)), (4, (0, p3_4))] [] M (q_X6_afforded_48_w1 M0) := by
    intro n3
    induction n3 with
    | zero => intro M p3_4 hS bp3_4  hm3; exact absurd hm3 (Nat.not_lt_zero _)
    | succ n3 J3 =>
      intro M p3_4 hS bp3_4  hm3
      refine Tr.iload (pc := 3) (i := 4) d_X6_afforded_3 rfl ?_
      refine Tr.iload_n (pc := 5) (i := 1) d_X6_afforded_5 rfl rfl ?_
      refine Tr.icmp_ge (pc := 6) (tgt := 53) d_X6_afforded_6 rfl (fun c6 => ?_) (fun c6 => ?_)
      · refine Tr.iload_n (pc := 53) (i := 1) d_X6_afforded_53 rfl rfl ?_
        exact Tr.iret (pc := 54) d_X6_afforded_54 rfl ⟨hS, _, rfl, by omega, by omega⟩
      · refine Tr.aload_n (pc := 9) (i := 0) d_X6_afforded_9 rfl rfl ?_
        refine Tr.aload_n (pc := 10) (i := 0) d_X6_afforded_10 rfl rfl ?_
        refine Tr.getf (pc := 11) d_X6_afforded_11 f_6_68 (by decide) (by decide) (ty_48 hS.1.1) ?_
        refine Tr.gen (P := fun v => (-2147483648) ≤ v ∧ v ≤ 2147483647) (ir_48_9 hS.1.2.1) (fun r11 er11 br11 => ?_)
        refine Tr.iload (pc := 14) (i := 4) d_X6_afforded_14 rfl ?_
        refine Tr.iadd (pc := 16) d_X6_afforded_16 ?_
        refine Tr.gen (P := fun v => (-2147483648) ≤ v ∧ v ≤ 2147483647) (w32_b _) (fun r16 er16 br16 => ?_)
        refine Tr.iload_n (pc := 17) (i := 2) d_X6_afforded_17 rfl rfl ?_
        refine Tr.tp (-1) (by omega) ?_
        refine Tr.iload_n (pc := 18) (i := 3) d_X6_afforded_18 rfl rfl ?_
        refine Tr.tp 0 (by omega) ?_
        refine Tr.callV (pc := 19) (as := [_, _, _]) d_X6_afforded_19 s_6_186 ok_X6_sipsAt rfl rfl (Nat.le_of_ble_eq_true rfl) (Nat.le_of_ble_eq_true rfl) (by decide) (ty_48 hS.1.1) ?_
        refine Tr.imp (Tr.deep (by decide) (sp_X6_sipsAt_48 hS.1 ((St.kp hS (by decide) (by decide) (by decide)).trans en_48_1) r16 (by omega) (-1) (by omega) 0 (by omega))) ?_
        rintro M19 _ ⟨h19, r19, rfl, lr19, ur19⟩
        have hS := St.tr hS h19 (by decide) (by decide)
        refine Tr.sc [(0, r19)] rfl ?_
        refine Tr.istore (pc := 22) (i := 5) (ls2 := [(5, (0, r19)), (0, (2, 48)), (1, (0, a1)), (2, (0, a2)), (3, (0, a3)), (4, (0, p3_4))]) d_X6_afforded_22 (by decide) rfl ?_
        refine Tr.iload (pc := 24) (i := 5) d_X6_afforded_24 rfl ?_
        refine Tr.aload_n (pc := 26) (i := 0) d_X6_afforded_26 rfl rfl ?_
        refine Tr.getf (pc := 27) d_X6_afforded_27 f_6_110 (by decide) (by decide) (ty_48 hS.1.1) ?_
        refine Tr.gen (P := fun v => (-2147483648) ≤ v ∧ v ≤ 2147483647) (ir_48_17 hS.1.2.1) (fun r27 er27 br27 => ?_)
        refine Tr.icmp_le (pc := 30) (tgt := 36) d_X6_afforded_30 rfl (fun c30 => ?_) (fun c30 => ?_)
        · refine Tr.aload_n (pc := 36) (i := 0) d_X6_afforded_36 rfl rfl ?_
          refine Tr.dup (pc := 37) d_X6_afforded_37 ne21 ?_
          refine Tr.getf (pc := 38) d_X6_afforded_38 f_6_110 (by decide) (by decide) (ty_48 hS.1.1) ?_
          refine Tr.tp r27 er27 ?_
          refine Tr.iload (pc := 41) (i := 5) d_X6_afforded_41 rfl ?_
          refine Tr.isub (pc := 43) d_X6_afforded_43 ?_
          refine Tr.gen (P := fun v => (-2147483648) ≤ v ∧ v ≤ 2147483647) (w32_b _) (fun r43 er43 br43 => ?_)
          refine Tr.putfS (pc := 44) (P := St Tru ws_X6_afforded_48_w1 as_X6_afforded_48_w1 M0) d_X6_afforded_44 f_6_110 (by decide) (by decide) (ty_48 hS.1.1) (st_48_17 hS (by decide) (by omega) trivial) (fun M44 hS w44 => ?_)
          refine Tr.iincV (pc := 47) (n2 := (p3_4 + 1)) (ls2 := [(4, (0, (p3_4 + 1))), (5, (0, r19)), (0, (2, 48)), (1, (0, a1)), (2, (0, a2)), (3, (0, a3))]) d_X6_afforded_47 rfl (by decide) ((w32_id (by omega)).trans (by omega)) rfl ?_
          refine Tr.goto (pc := 50) (tgt := 3) d_X6_afforded_50 rfl ?_
          refine Tr.pick [2, 3, 4, 5, 0] (ls2 := [(0, (2, 48)), (1, (0, a1)), (2, (0, a2)), (3, (0, a3)), (4, (0, (p3_4 + 1)))]) rfl ?_
          exact J3 _ _ hS (by omega) (by omega)
        · refine Tr.iload (pc := 33) (i := 4) d_X6_afforded_33 rfl ?_
          exact Tr.iret (pc := 35) d_X6_afforded_35 rfl ⟨hS, _, rfl, by omega, by omega⟩
  refine Tr.pick [1, 2, 3, 4, 0] (ls2 := [(0, (2, 48)), (1, (0, a1)), (2, (0, a2)), (3, (0, a3)), (4, (0, 0))]) rfl ?_
  exact J3 _ _ _ hS (by omega) (Nat.lt_succ_self _)

def ws_X6_pass_48_w1 : List (Int × Int) := [(48, 9), (48, 14), (48, 17)]
def as_X6_pass_48_w1 : List Int := []
def q_X6_pass_48_w1 (M0 M' : Mem) (r : Option PV) : Prop := St Tru ws_X6_pass_48_w1 as_X6_pass_48_w1 M0 M' ∧ ∃ v : Int, r = some (0, v) ∧ (-2147483648) ≤ v ∧ v ≤ 20
set_option maxRecDepth 100000 in
set_option maxHeartbeats 4000000 in
theorem sp_X6_pass_48_w1 {l : Launch} {K : EC} {M0 : Mem} (hI : In Tru M0) (en_48_1 : rd M0 48 1 = 7) (a1 : Int) (ha1 : (-1) ≤ a1 ∧ a1 ≤ 20) (a2 : Int) (ha2 : (-1) ≤ a2 ∧ a2 ≤ (-1)) (a3 : Int) (ha3 : 0 ≤ a3 ∧ a3 ≤ 0)  : Tr l K 2 mX6_pass 0 [(0, (2, 48)), (1, (0, a1)), (2, (0, a2)), (3, (0, a3))] [] M0 (q_X6_pass_48_w1 M0) := by
  have hS : St Tru ws_X6_pass_48_w1 as_X6_pass_48_w1 M0 M0 := St.rf hI
  refine Tr.iload_n (pc := 0) (i := 1) d_X6_pass_0 rfl rfl ?_
  refine Tr.sipush (pc := 1) d_X6_pass_1 rfl (by decide) ?_
  refine Tr.aload_n (pc := 4) (i := 0) d_X6_pass_4 rfl rfl ?_
  refine Tr.getf (pc := 5) d_X6_pass_5 f_6_68 (by decide) (by decide) (ty_48 hS.1.1) ?_
  refine Tr.gen (P := fun v => (-2147483648) ≤ v ∧ v ≤ 2147483647) (ir_48_9 hS.1.2.1) (fun r5 er5 br5 => ?_)
  refine Tr.isub (pc := 8) d_X6_pass_8 ?_
  refine Tr.gen (P := fun v => (-2147483648) ≤ v ∧ v ≤ 2147483647) (w32_b _) (fun r8 er8 br8 => ?_)
  refine Tr.mmin (pc := 9) d_X6_pass_9 ml_6_158 mw_mmin (Nat.le_of_ble_eq_true rfl) ?_
  refine Tr.gen (P := fun v => (v = a1 ∧ a1 ≤ r8) ∨ (v = r8 ∧ r8 ≤ a1)) (f_min_p _ _) (fun r9 er9 br9 => ?_)
  refine Tr.istore (pc := 12) (i := 4) (ls2 := [(4, (0, r9)), (0, (2, 48)), (1, (0, a1)), (2, (0, a2)), (3, (0, a3))]) d_X6_pass_12 (by decide) rfl ?_
  refine Tr.aload_n (pc := 14) (i := 0) d_X6_pass_14 rfl rfl ?_
  refine Tr.getz (pc := 15) d_X6_pass_15 f_6_106 (by decide) (ty_48 hS.1.1) ?_
  refine Tr.gen (P := fun v => 0 ≤ v ∧ v ≤ 1) (ir_48_16 hS.1.2.1) (fun r15 er15 br15 => ?_)
  have J34 : ∀ (M : Mem) (q34_0 : Int), St Tru ws_X6_pass_48_w1 as_X6_pass_48_w1 M0 M → ((-2147483648) ≤ q34_0 ∧ q34_0 ≤ 20) → rd M 48 16 = r15 → rd M 48 9 = r5 → Tr l K 2 mX6_pass 34 [(0, (2, 48)), (1, (0, a1)), (4, (0, r9))] [(0, q34_0)] M (q_X6_pass_48_w1 M0) := by
    intro M q34_0 hS bq34_0 k34_48_16 k34_48_9
    refine Tr.istore (pc := 34) (i := 5) (ls2 := [(5, (0, q34_0)), (0, (2, 48)), (1, (0, a1)), (4, (0, r9))]) d_X6_pass_34 (by decide) rfl ?_
    refine Tr.aload_n (pc := 36) (i := 0) d_X6_pass_36 rfl rfl ?_
    refine Tr.dup (pc := 37) d_X6_pass_37 ne21 ?_
    refine Tr.getf (pc := 38) d_X6_pass_38 f_6_68 (by decide) (by decide) (ty_48 hS.1.1) ?_
    refine Tr.tp r5 k34_48_9 ?_
    refine Tr.iload (pc := 41) (i := 5) d_X6_pass_41 rfl ?_
    refine Tr.iadd (pc := 43) d_X6_pass_43 ?_
    refine Tr.gen (P := fun v => (-2147483648) ≤ v ∧ v ≤ 2147483647) (w32_b _) (fun r43 er43 br43 => ?_)
    refine Tr.putfS (pc := 44) (P := St Tru ws_X6_pass_48_w1 as_X6_pass_48_w1 M0) d_X6_pass_44 f_6_68 (by decide) (by decide) (ty_48 hS.1.1) (st_48_9 hS (by decide) (by omega) trivial) (fun M44 hS w44 => ?_)
    refine Tr.iload (pc := 47) (i := 5) d_X6_pass_47 rfl ?_
    refine Tr.iload_n (pc := 49) (i := 1) d_X6_pass_49 rfl rfl ?_
    refine Tr.icmp_ge (pc := 50) (tgt := 69) d_X6_pass_50 rfl (fun c50 => ?_) (fun c50 => ?_)
    · refine Tr.iload (pc := 69) (i := 5) d_X6_pass_69 rfl ?_
      exact Tr.iret (pc := 71) d_X6_pass_71 rfl ⟨hS, _, rfl, by omega, by omega⟩
    · refine Tr.aload_n (pc := 53) (i := 0) d_X6_pass_53 rfl rfl ?_
      refine Tr.iload (pc := 54) (i := 5) d_X6_pass_54 rfl ?_
      refine Tr.iload (pc := 56) (i := 4) d_X6_pass_56 rfl ?_
      refine Tr.icmp_ne (pc := 58) (tgt := 65) d_X6_pass_58 rfl (fun c58 => ?_) (fun c58 => ?_)
      · refine Tr.iconst (pc := 65) d_X6_pass_65 (by decide) ?_
        refine Tr.putfS (pc := 66) (P := St Tru ws_X6_pass_48_w1 as_X6_pass_48_w1 M0) d_X6_pass_66 f_6_62 (by decide) (by decide) (ty_48 hS.1.1) (st_48_14 hS (by decide) (by omega) trivial) (fun M66 hS w66 => ?_)
        refine Tr.iload (pc := 69) (i := 5) d_X6_pass_69 rfl ?_
        exact Tr.iret (pc := 71) d_X6_pass_71 rfl ⟨hS, _, rfl, by omega, by omega⟩
      · refine Tr.iconst (pc := 61) d_X6_pass_61 (by decide) ?_
        refine Tr.goto (pc := 62) (tgt := 66) d_X6_pass_62 rfl ?_
        refine Tr.putfS (pc := 66) (P := St Tru ws_X6_pass_48_w1 as_X6_pass_48_w1 M0) d_X6_pass_66 f_6_62 (by decide) (by decide) (ty_48 hS.1.1) (st_48_14 hS (by decide) (by omega) trivial) (fun M66 hS w66 => ?_)
        refine Tr.iload (pc := 69) (i := 5) d_X6_pass_69 rfl ?_
        exact Tr.iret (pc := 71) d_X6_pass_71 rfl ⟨hS, _, rfl, by omega, by omega⟩
  refine Tr.if_eq (pc := 18) (tgt := 32) d_X6_pass_18 rfl (fun c18 => ?_) (fun c18 => ?_)
  · refine Tr.iload (pc := 32) (i := 4) d_X6_pass_32 rfl ?_
    refine Tr.pick [1, 2, 0] (ls2 := [(0, (2, 48)), (1, (0, a1)), (4, (0, r9))]) rfl ?_
    exact J34 _ _ hS (by omega) er15 er5
  · refine Tr.aload_n (pc := 21) (i := 0) d_X6_pass_21 rfl rfl ?_
    refine Tr.iload (pc := 22) (i := 4) d_X6_pass_22 rfl ?_
    refine Tr.iload_n (pc := 24) (i := 2) d_X6_pass_24 rfl rfl ?_
    refine Tr.tp (-1) (by omega) ?_
    refine Tr.iload_n (pc := 25) (i := 3) d_X6_pass_25 rfl rfl ?_
    refine Tr.tp 0 (by omega) ?_
    refine Tr.callV (pc := 26) (as := [_, _, _]) d_X6_pass_26 s_6_183 ok_X6_afforded rfl rfl (Nat.le_of_ble_eq_true rfl) (Nat.le_of_ble_eq_true rfl) (by decide) (ty_48 hS.1.1) ?_
    refine Tr.imp (Tr.deep (by decide) (sp_X6_afforded_48_w1 hS.1 ((St.kp hS (by decide) (by decide) (by decide)).trans en_48_1) r9 (by omega) (-1) (by omega) 0 (by omega))) ?_
    rintro M26 _ ⟨h26, r26, rfl, lr26, ur26⟩
    have hS := St.tr hS h26 (by decide) (by decide)
    refine Tr.sc [(0, r26)] rfl ?_
    refine Tr.goto (pc := 29) (tgt := 34) d_X6_pass_29 rfl ?_
    refine Tr.pick [1, 2, 0] (ls2 := [(0, (2, 48)), (1, (0, a1)), (4, (0, r9))]) rfl ?_
    exact J34 _ _ hS (by omega) ((St.kp h26 (by decide) (by decide) (by decide)).trans er15) ((St.kp h26 (by decide) (by decide) (by decide)).trans er5)

def ws_X6_touch_48 : List (Int × Int) := [(48, 9), (48, 12), (48, 13), (48, 14), (48, 17)]
def as_X6_touch_48 : List Int := [52]
def q_X6_touch_48 (M0 M' : Mem) (r : Option PV) : Prop := St Tru ws_X6_touch_48 as_X6_touch_48 M0 M' ∧ r = none
set_option maxRecDepth 100000 in
set_option maxHeartbeats 4000000 in
theorem sp_X6_touch_48 {l : Launch} {K : EC} {M0 : Mem} (hI : In Tru M0) (en_48_1 : rd M0 48 1 = 7) (a1 : Int) (ha1 : 0 ≤ a1 ∧ a1 ≤ 999)  : Tr l K 3 mX6_touch 0 [(0, (2, 48)), (1, (0, a1))] [] M0 (q_X6_touch_48 M0) := by
  have hS : St Tru ws_X6_touch_48 as_X6_touch_48 M0 M0 := St.rf hI
  refine Tr.aload_n (pc := 0) (i := 0) d_X6_touch_0 rfl rfl ?_
  refine Tr.dup (pc := 1) d_X6_touch_1 ne21 ?_
  refine Tr.getf (pc := 2) d_X6_touch_2 f_6_103 (by decide) (by decide) (ty_48 hS.1.1) ?_
  refine Tr.gen (P := fun v => (-2147483648) ≤ v ∧ v ≤ 2147483647) (ir_48_13 hS.1.2.1) (fun r2 er2 br2 => ?_)
  refine Tr.iconst (pc := 5) d_X6_touch_5 (by decide) ?_
  refine Tr.iadd (pc := 6) d_X6_touch_6 ?_
  refine Tr.gen (P := fun v => (-2147483648) ≤ v ∧ v ≤ 2147483647) (w32_b _) (fun r6 er6 br6 => ?_)
  refine Tr.putfS (pc := 7) (P := St Tru ws_X6_touch_48 as_X6_touch_48 M0) d_X6_touch_7 f_6_103 (by decide) (by decide) (ty_48 hS.1.1) (st_48_13 hS (by decide) (by omega) trivial) (fun M7 hS w7 => ?_)
  refine Tr.aload_n (pc := 10) (i := 0) d_X6_touch_10 rfl rfl ?_
  refine Tr.getf (pc := 11) d_X6_touch_11 f_6_46 (by decide) (by decide) (ty_48 hS.1.1) ?_
  refine Tr.tp 7 ((St.kp hS (by decide) (by decide) (by decide)).trans en_48_1) ?_
  refine Tr.getf (pc := 14) d_X6_touch_14 f_6_217 (by decide) (by decide) (ty_7 hS.1.1) ?_
  refine Tr.gen (P := fun v => (-1) ≤ v ∧ v ≤ 8) (ir_7_2 hS.1.2.1) (fun r14 er14 br14 => ?_)
  refine Tr.if_le (pc := 17) (tgt := 42) d_X6_touch_17 rfl (fun c17 => ?_) (fun c17 => ?_)
  · exact Tr.vret (pc := 42) d_X6_touch_42 rfl ⟨hS, rfl⟩
  · refine Tr.aload_n (pc := 20) (i := 0) d_X6_touch_20 rfl rfl ?_
    refine Tr.getf (pc := 21) d_X6_touch_21 f_6_46 (by decide) (by decide) (ty_48 hS.1.1) ?_
    refine Tr.tp 7 ((St.kp hS (by decide) (by decide) (by decide)).trans en_48_1) ?_
    refine Tr.getf (pc := 24) d_X6_touch_24 f_6_220 (by decide) (by decide) (ty_7 hS.1.1) ?_
    refine Tr.gen (P := fun v => (-1) ≤ v ∧ v ≤ 8) (ir_7_1 hS.1.2.1) (fun r24 er24 br24 => ?_)
    refine Tr.if_le (pc := 27) (tgt := 42) d_X6_touch_27 rfl (fun c27 => ?_) (fun c27 => ?_)
    · exact Tr.vret (pc := 42) d_X6_touch_42 rfl ⟨hS, rfl⟩
    · refine Tr.aload_n (pc := 30) (i := 0) d_X6_touch_30 rfl rfl ?_
      refine Tr.getf (pc := 31) d_X6_touch_31 f_6_46 (by decide) (by decide) (ty_48 hS.1.1) ?_
      refine Tr.tp 7 ((St.kp hS (by decide) (by decide) (by decide)).trans en_48_1) ?_
      refine Tr.getf (pc := 34) d_X6_touch_34 f_6_220 (by decide) (by decide) (ty_7 hS.1.1) ?_
      refine Tr.tp r24 er24 ?_
      refine Tr.bipush (pc := 37) d_X6_touch_37 rfl (by decide) ?_
      refine Tr.icmp_le (pc := 39) (tgt := 43) d_X6_touch_39 rfl (fun _ => ?_) (fun hc => absurd (by omega) hc)
      refine Tr.iload_n (pc := 43) (i := 1) d_X6_touch_43 rfl rfl ?_
      refine Tr.aload_n (pc := 44) (i := 0) d_X6_touch_44 rfl rfl ?_
      refine Tr.getf (pc := 45) d_X6_touch_45 f_6_46 (by decide) (by decide) (ty_48 hS.1.1) ?_
      refine Tr.tp 7 ((St.kp hS (by decide) (by decide) (by decide)).trans en_48_1) ?_
      refine Tr.getf (pc := 48) d_X6_touch_48 f_6_217 (by decide) (by decide) (ty_7 hS.1.1) ?_
      refine Tr.tp r14 er14 ?_
      refine Tr.idiv (pc := 51) d_X6_touch_51 (by omega) ?_
      refine Tr.gen (P := fun v => 0 ≤ v ∧ v ≤ 999) (div32_p (A := 999) (by omega) (by omega) (by omega) (by omega)) (fun r51 er51 br51 => ?_)
      refine Tr.istore_n (pc := 52) (i := 2) (ls2 := [(2, (0, r51)), (0, (2, 48)), (1, (0, a1))]) d_X6_touch_52 rfl (by decide) rfl ?_
      refine Tr.iload_n (pc := 53) (i := 2) d_X6_touch_53 rfl rfl ?_
      refine Tr.aload_n (pc := 54) (i := 0) d_X6_touch_54 rfl rfl ?_
      refine Tr.getf (pc := 55) d_X6_touch_55 f_6_46 (by decide) (by decide) (ty_48 hS.1.1) ?_
      refine Tr.tp 7 ((St.kp hS (by decide) (by decide) (by decide)).trans en_48_1) ?_
      refine Tr.getf (pc := 58) d_X6_touch_58 f_6_220 (by decide) (by decide) (ty_7 hS.1.1) ?_
      refine Tr.tp r24 er24 ?_
      refine Tr.irem (pc := 61) d_X6_touch_61 (by omega) ?_
      refine Tr.gen (P := fun v => 0 ≤ v ∧ v ≤ 7) (rem_p (A := 7) (by omega) (by omega) (by omega)) (fun r61 er61 br61 => ?_)
      refine Tr.istore_n (pc := 62) (i := 3) (ls2 := [(3, (0, r61)), (2, (0, r51)), (0, (2, 48)), (1, (0, a1))]) d_X6_touch_62 rfl (by decide) rfl ?_
      refine Tr.aload_n (pc := 63) (i := 0) d_X6_touch_63 rfl rfl ?_
      refine Tr.getf (pc := 64) d_X6_touch_64 f_6_21 (by decide) (by decide) (ty_48 hS.1.1) ?_
      refine Tr.tp 52 (fx_48_5 hS.1.1) ?_
      refine Tr.iload_n (pc := 67) (i := 3) d_X6_touch_67 rfl rfl ?_
      refine Tr.iald (pc := 68) d_X6_touch_68 (ty_52 hS.1.1) (by omega) (by omega) ?_
      refine Tr.gen (P := fun v => (-2147483648) ≤ v ∧ v ≤ 2147483647) (ar_52 hS.1.2.1 _) (fun r68 er68 br68 => ?_)
      refine Tr.iload_n (pc := 69) (i := 2) d_X6_touch_69 rfl rfl ?_
      refine Tr.icmp_eq (pc := 70) (tgt := 104) d_X6_touch_70 rfl (fun c70 => ?_) (fun c70 => ?_)
      · exact Tr.vret (pc := 104) d_X6_touch_104 rfl ⟨hS, rfl⟩
      · refine Tr.aload_n (pc := 73) (i := 0) d_X6_touch_73 rfl rfl ?_
        refine Tr.dup (pc := 74) d_X6_touch_74 ne21 ?_
        refine Tr.getf (pc := 75) d_X6_touch_75 f_6_100 (by decide) (by decide) (ty_48 hS.1.1) ?_
        refine Tr.gen (P := fun v => (-2147483648) ≤ v ∧ v ≤ 2147483647) (ir_48_12 hS.1.2.1) (fun r75 er75 br75 => ?_)
        refine Tr.iconst (pc := 78) d_X6_touch_78 (by decide) ?_
        refine Tr.iadd (pc := 79) d_X6_touch_79 ?_
        refine Tr.gen (P := fun v => (-2147483648) ≤ v ∧ v ≤ 2147483647) (w32_b _) (fun r79 er79 br79 => ?_)
        refine Tr.putfS (pc := 80) (P := St Tru ws_X6_touch_48 as_X6_touch_48 M0) d_X6_touch_80 f_6_100 (by decide) (by decide) (ty_48 hS.1.1) (st_48_12 hS (by decide) (by omega) trivial) (fun M80 hS w80 => ?_)
        refine Tr.aload_n (pc := 83) (i := 0) d_X6_touch_83 rfl rfl ?_
        refine Tr.getf (pc := 84) d_X6_touch_84 f_6_21 (by decide) (by decide) (ty_48 hS.1.1) ?_
        refine Tr.tp 52 (fx_48_5 hS.1.1) ?_
        refine Tr.iload_n (pc := 87) (i := 3) d_X6_touch_87 rfl rfl ?_
        refine Tr.iload_n (pc := 88) (i := 2) d_X6_touch_88 rfl rfl ?_
        refine Tr.iastS (pc := 89) (P := St Tru ws_X6_touch_48 as_X6_touch_48 M0) d_X6_touch_89 (ty_52 hS.1.1) (by omega) (by omega) (sa_52 hS (by decide) (by omega) trivial) (fun M89 hS w89 => ?_)
        refine Tr.aload_n (pc := 90) (i := 0) d_X6_touch_90 rfl rfl ?_
        refine Tr.aload_n (pc := 91) (i := 0) d_X6_touch_91 rfl rfl ?_
        refine Tr.getf (pc := 92) d_X6_touch_92 f_6_46 (by decide) (by decide) (ty_48 hS.1.1) ?_
        refine Tr.tp 7 ((St.kp hS (by decide) (by decide) (by decide)).trans en_48_1) ?_
        refine Tr.getf (pc := 95) d_X6_touch_95 f_6_223 (by decide) (by decide) (ty_7 hS.1.1) ?_
        refine Tr.gen (P := fun v => (-1) ≤ v ∧ v ≤ 20) (ir_7_3 hS.1.2.1) (fun r95 er95 br95 => ?_)
        refine Tr.iconst (pc := 98) d_X6_touch_98 (by decide) ?_
        refine Tr.iconst (pc := 99) d_X6_touch_99 (by decide) ?_
        refine Tr.callV (pc := 100) (as := [_, _, _]) d_X6_touch_100 s_6_145 ok_X6_pass rfl rfl (Nat.le_of_ble_eq_true rfl) (Nat.le_of_ble_eq_true rfl) (by decide) (ty_48 hS.1.1) ?_
        refine Tr.imp (Tr.deep (by decide) (sp_X6_pass_48_w1 hS.1 ((St.kp hS (by decide) (by decide) (by decide)).trans en_48_1) r95 (by omega) (-1) (by omega) 0 (by omega))) ?_
        rintro M100 _ ⟨h100, r100, rfl, lr100, ur100⟩
        have hS := St.tr hS h100 (by decide) (by decide)
        refine Tr.sc [(0, r100)] rfl ?_
        refine Tr.pop (pc := 103) d_X6_touch_103 ne01 ?_
        exact Tr.vret (pc := 104) d_X6_touch_104 rfl ⟨hS, rfl⟩

def ws_X6_afforded_48_w2 : List (Int × Int) := [(48, 17)]
def as_X6_afforded_48_w2 : List Int := []
def q_X6_afforded_48_w2 (M0 M' : Mem) (r : Option PV) : Prop := St Tru ws_X6_afforded_48_w2 as_X6_afforded_48_w2 M0 M' ∧ ∃ v : Int, r = some (0, v) ∧ (-2147483648) ≤ v ∧ v ≤ 100
set_option maxRecDepth 100000 in
set_option maxHeartbeats 4000000 in
theorem sp_X6_afforded_48_w2 {l : Launch} {K : EC} {M0 : Mem} (hI : In Tru M0) (en_48_1 : rd M0 48 1 = 7) (a1 : Int) (ha1 : (-2147483648) ≤ a1 ∧ a1 ≤ 100) (a2 : Int) (ha2 : (-1) ≤ a2 ∧ a2 ≤ (-1)) (a3 : Int) (ha3 : 0 ≤ a3 ∧ a3 ≤ 0)  : Tr l K 1 mX6_afforded 0 [(0, (2, 48)), (1, (0, a1)), (2, (0, a2)), (3, (0, a3))] [] M0 (q_X6_afforded_48_w2 M0) := by
  have hS : St Tru ws_X6_afforded_48_w2 as_X6_afforded_48_w2 M0 M0 := St.rf hI
  refine Tr.iconst (pc := 0) d_X6_afforded_0 (by decide) ?_
  refine Tr.istore (pc := 1) (i := 4) (ls2 := [(4, (0, 0)), (0, (2, 48)), (1, (0, a1)), (2, (0, a2)), (3, (0, a3))]) d_X6_afforded_1 (by decide) rfl ?_
  have J3 : ∀ (n3 : Nat) (M : Mem) (p3_4 : Int), St Tru ws_X6_afforded_48_w2 as_X6_afforded_48_w2 M0 M → (0 ≤ p3_4 ∧ p3_4 ≤ 100) → (100 - p3_4).toNat < n3 → Tr l K 1 mX6_afforded 3 [(0, (2, 48)), (1, (0, a1)), (2, (0, a2)), (3, (0, a3)), (4, (0, p3_4))] [] M (q_X6_afforded_48_w2 M0) := by
    intro n3
    induction n3 with
    | zero => intro M p3_4 hS bp3_4  hm3; exact absurd hm3 (Nat.not_lt_zero _)
    | succ n3 J3 =>
      intro M p3_4 hS bp3_4  hm3
      refine Tr.iload (pc := 3) (i := 4) d_X6_afforded_3 rfl ?_
      refine Tr.iload_n (pc := 5) (i := 1) d_X6_afforded_5 rfl rfl ?_
      refine Tr.icmp_ge (pc := 6) (tgt := 53) d_X6_afforded_6 rfl (fun c6 => ?_) (fun c6 => ?_)
      · refine Tr.iload_n (pc := 53) (i := 1) d_X6_afforded_53 rfl rfl ?_
        exact Tr.iret (pc := 54) d_X6_afforded_54 rfl ⟨hS, _, rfl, by omega, by omega⟩
      · refine Tr.aload_n (pc := 9) (i := 0) d_X6_afforded_9 rfl rfl ?_
        refine Tr.aload_n (pc := 10) (i := 0) d_X6_afforded_10 rfl rfl ?_
        refine Tr.getf (pc := 11) d_X6_afforded_11 f_6_68 (by decide) (by decide) (ty_48 hS.1.1) ?_
        refine Tr.gen (P := fun v => (-2147483648) ≤ v ∧ v ≤ 2147483647) (ir_48_9 hS.1.2.1) (fun r11 er11 br11 => ?_)
        refine Tr.iload (pc := 14) (i := 4) d_X6_afforded_14 rfl ?_
        refine Tr.iadd (pc := 16) d_X6_afforded_16 ?_
        refine Tr.gen (P := fun v => (-2147483648) ≤ v ∧ v ≤ 2147483647) (w32_b _) (fun r16 er16 br16 => ?_)
        refine Tr.iload_n (pc := 17) (i := 2) d_X6_afforded_17 rfl rfl ?_
        refine Tr.tp (-1) (by omega) ?_
        refine Tr.iload_n (pc := 18) (i := 3) d_X6_afforded_18 rfl rfl ?_
        refine Tr.tp 0 (by omega) ?_
        refine Tr.callV (pc := 19) (as := [_, _, _]) d_X6_afforded_19 s_6_186 ok_X6_sipsAt rfl rfl (Nat.le_of_ble_eq_true rfl) (Nat.le_of_ble_eq_true rfl) (by decide) (ty_48 hS.1.1) ?_
        refine Tr.imp (Tr.deep (by decide) (sp_X6_sipsAt_48 hS.1 ((St.kp hS (by decide) (by decide) (by decide)).trans en_48_1) r16 (by omega) (-1) (by omega) 0 (by omega))) ?_
        rintro M19 _ ⟨h19, r19, rfl, lr19, ur19⟩
        have hS := St.tr hS h19 (by decide) (by decide)
        refine Tr.sc [(0, r19)] rfl ?_
        refine Tr.istore (pc := 22) (i := 5) (ls2 := [(5, (0, r19)), (0, (2, 48)), (1, (0, a1)), (2, (0, a2)), (3, (0, a3)), (4, (0, p3_4))]) d_X6_afforded_22 (by decide) rfl ?_
        refine Tr.iload (pc := 24) (i := 5) d_X6_afforded_24 rfl ?_
        refine Tr.aload_n (pc := 26) (i := 0) d_X6_afforded_26 rfl rfl ?_
        refine Tr.getf (pc := 27) d_X6_afforded_27 f_6_110 (by decide) (by decide) (ty_48 hS.1.1) ?_
        refine Tr.gen (P := fun v => (-2147483648) ≤ v ∧ v ≤ 2147483647) (ir_48_17 hS.1.2.1) (fun r27 er27 br27 => ?_)
        refine Tr.icmp_le (pc := 30) (tgt := 36) d_X6_afforded_30 rfl (fun c30 => ?_) (fun c30 => ?_)
        · refine Tr.aload_n (pc := 36) (i := 0) d_X6_afforded_36 rfl rfl ?_
          refine Tr.dup (pc := 37) d_X6_afforded_37 ne21 ?_
          refine Tr.getf (pc := 38) d_X6_afforded_38 f_6_110 (by decide) (by decide) (ty_48 hS.1.1) ?_
          refine Tr.tp r27 er27 ?_
          refine Tr.iload (pc := 41) (i := 5) d_X6_afforded_41 rfl ?_
          refine Tr.isub (pc := 43) d_X6_afforded_43 ?_
          refine Tr.gen (P := fun v => (-2147483648) ≤ v ∧ v ≤ 2147483647) (w32_b _) (fun r43 er43 br43 => ?_)
          refine Tr.putfS (pc := 44) (P := St Tru ws_X6_afforded_48_w2 as_X6_afforded_48_w2 M0) d_X6_afforded_44 f_6_110 (by decide) (by decide) (ty_48 hS.1.1) (st_48_17 hS (by decide) (by omega) trivial) (fun M44 hS w44 => ?_)
          refine Tr.iincV (pc := 47) (n2 := (p3_4 + 1)) (ls2 := [(4, (0, (p3_4 + 1))), (5, (0, r19)), (0, (2, 48)), (1, (0, a1)), (2, (0, a2)), (3, (0, a3))]) d_X6_afforded_47 rfl (by decide) ((w32_id (by omega)).trans (by omega)) rfl ?_
          refine Tr.goto (pc := 50) (tgt := 3) d_X6_afforded_50 rfl ?_
          refine Tr.pick [2, 3, 4, 5, 0] (ls2 := [(0, (2, 48)), (1, (0, a1)), (2, (0, a2)), (3, (0, a3)), (4, (0, (p3_4 + 1)))]) rfl ?_
          exact J3 _ _ hS (by omega) (by omega)
        · refine Tr.iload (pc := 33) (i := 4) d_X6_afforded_33 rfl ?_
          exact Tr.iret (pc := 35) d_X6_afforded_35 rfl ⟨hS, _, rfl, by omega, by omega⟩
  refine Tr.pick [1, 2, 3, 4, 0] (ls2 := [(0, (2, 48)), (1, (0, a1)), (2, (0, a2)), (3, (0, a3)), (4, (0, 0))]) rfl ?_
  exact J3 _ _ _ hS (by omega) (Nat.lt_succ_self _)

def ws_X6_pass_48_w2 : List (Int × Int) := [(48, 9), (48, 14), (48, 17)]
def as_X6_pass_48_w2 : List Int := []
def q_X6_pass_48_w2 (M0 M' : Mem) (r : Option PV) : Prop := St Tru ws_X6_pass_48_w2 as_X6_pass_48_w2 M0 M' ∧ ∃ v : Int, r = some (0, v) ∧ (-2147483648) ≤ v ∧ v ≤ 100
set_option maxRecDepth 100000 in
set_option maxHeartbeats 4000000 in
theorem sp_X6_pass_48_w2 {l : Launch} {K : EC} {M0 : Mem} (hI : In Tru M0) (en_48_1 : rd M0 48 1 = 7) (a1 : Int) (ha1 : 0 ≤ a1 ∧ a1 ≤ 100) (a2 : Int) (ha2 : (-1) ≤ a2 ∧ a2 ≤ (-1)) (a3 : Int) (ha3 : 0 ≤ a3 ∧ a3 ≤ 0)  : Tr l K 2 mX6_pass 0 [(0, (2, 48)), (1, (0, a1)), (2, (0, a2)), (3, (0, a3))] [] M0 (q_X6_pass_48_w2 M0) := by
  have hS : St Tru ws_X6_pass_48_w2 as_X6_pass_48_w2 M0 M0 := St.rf hI
  refine Tr.iload_n (pc := 0) (i := 1) d_X6_pass_0 rfl rfl ?_
  refine Tr.sipush (pc := 1) d_X6_pass_1 rfl (by decide) ?_
  refine Tr.aload_n (pc := 4) (i := 0) d_X6_pass_4 rfl rfl ?_
  refine Tr.getf (pc := 5) d_X6_pass_5 f_6_68 (by decide) (by decide) (ty_48 hS.1.1) ?_
  refine Tr.gen (P := fun v => (-2147483648) ≤ v ∧ v ≤ 2147483647) (ir_48_9 hS.1.2.1) (fun r5 er5 br5 => ?_)
  refine Tr.isub (pc := 8) d_X6_pass_8 ?_
  refine Tr.gen (P := fun v => (-2147483648) ≤ v ∧ v ≤ 2147483647) (w32_b _) (fun r8 er8 br8 => ?_)
  refine Tr.mmin (pc := 9) d_X6_pass_9 ml_6_158 mw_mmin (Nat.le_of_ble_eq_true rfl) ?_
  refine Tr.gen (P := fun v => (v = a1 ∧ a1 ≤ r8) ∨ (v = r8 ∧ r8 ≤ a1)) (f_min_p _ _) (fun r9 er9 br9 => ?_)
  refine Tr.istore (pc := 12) (i := 4) (ls2 := [(4, (0, r9)), (0, (2, 48)), (1, (0, a1)), (2, (0, a2)), (3, (0, a3))]) d_X6_pass_12 (by decide) rfl ?_
  refine Tr.aload_n (pc := 14) (i := 0) d_X6_pass_14 rfl rfl ?_
  refine Tr.getz (pc := 15) d_X6_pass_15 f_6_106 (by decide) (ty_48 hS.1.1) ?_
  refine Tr.gen (P := fun v => 0 ≤ v ∧ v ≤ 1) (ir_48_16 hS.1.2.1) (fun r15 er15 br15 => ?_)
  have J34 : ∀ (M : Mem) (q34_0 : Int), St Tru ws_X6_pass_48_w2 as_X6_pass_48_w2 M0 M → ((-2147483648) ≤ q34_0 ∧ q34_0 ≤ 100) → rd M 48 16 = r15 → rd M 48 9 = r5 → Tr l K 2 mX6_pass 34 [(0, (2, 48)), (1, (0, a1)), (4, (0, r9))] [(0, q34_0)] M (q_X6_pass_48_w2 M0) := by
    intro M q34_0 hS bq34_0 k34_48_16 k34_48_9
    refine Tr.istore (pc := 34) (i := 5) (ls2 := [(5, (0, q34_0)), (0, (2, 48)), (1, (0, a1)), (4, (0, r9))]) d_X6_pass_34 (by decide) rfl ?_
    refine Tr.aload_n (pc := 36) (i := 0) d_X6_pass_36 rfl rfl ?_
    refine Tr.dup (pc := 37) d_X6_pass_37 ne21 ?_
    refine Tr.getf (pc := 38) d_X6_pass_38 f_6_68 (by decide) (by decide) (ty_48 hS.1.1) ?_
    refine Tr.tp r5 k34_48_9 ?_
    refine Tr.iload (pc := 41) (i := 5) d_X6_pass_41 rfl ?_
    refine Tr.iadd (pc := 43) d_X6_pass_43 ?_
    refine Tr.gen (P := fun v => (-2147483648) ≤ v ∧ v ≤ 2147483647) (w32_b _) (fun r43 er43 br43 => ?_)
    refine Tr.putfS (pc := 44) (P := St Tru ws_X6_pass_48_w2 as_X6_pass_48_w2 M0) d_X6_pass_44 f_6_68 (by decide) (by decide) (ty_48 hS.1.1) (st_48_9 hS (by decide) (by omega) trivial) (fun M44 hS w44 => ?_)
    refine Tr.iload (pc := 47) (i := 5) d_X6_pass_47 rfl ?_
    refine Tr.iload_n (pc := 49) (i := 1) d_X6_pass_49 rfl rfl ?_
    refine Tr.icmp_ge (pc := 50) (tgt := 69) d_X6_pass_50 rfl (fun c50 => ?_) (fun c50 => ?_)
    · refine Tr.iload (pc := 69) (i := 5) d_X6_pass_69 rfl ?_
      exact Tr.iret (pc := 71) d_X6_pass_71 rfl ⟨hS, _, rfl, by omega, by omega⟩
    · refine Tr.aload_n (pc := 53) (i := 0) d_X6_pass_53 rfl rfl ?_
      refine Tr.iload (pc := 54) (i := 5) d_X6_pass_54 rfl ?_
      refine Tr.iload (pc := 56) (i := 4) d_X6_pass_56 rfl ?_
      refine Tr.icmp_ne (pc := 58) (tgt := 65) d_X6_pass_58 rfl (fun c58 => ?_) (fun c58 => ?_)
      · refine Tr.iconst (pc := 65) d_X6_pass_65 (by decide) ?_
        refine Tr.putfS (pc := 66) (P := St Tru ws_X6_pass_48_w2 as_X6_pass_48_w2 M0) d_X6_pass_66 f_6_62 (by decide) (by decide) (ty_48 hS.1.1) (st_48_14 hS (by decide) (by omega) trivial) (fun M66 hS w66 => ?_)
        refine Tr.iload (pc := 69) (i := 5) d_X6_pass_69 rfl ?_
        exact Tr.iret (pc := 71) d_X6_pass_71 rfl ⟨hS, _, rfl, by omega, by omega⟩
      · refine Tr.iconst (pc := 61) d_X6_pass_61 (by decide) ?_
        refine Tr.goto (pc := 62) (tgt := 66) d_X6_pass_62 rfl ?_
        refine Tr.putfS (pc := 66) (P := St Tru ws_X6_pass_48_w2 as_X6_pass_48_w2 M0) d_X6_pass_66 f_6_62 (by decide) (by decide) (ty_48 hS.1.1) (st_48_14 hS (by decide) (by omega) trivial) (fun M66 hS w66 => ?_)
        refine Tr.iload (pc := 69) (i := 5) d_X6_pass_69 rfl ?_
        exact Tr.iret (pc := 71) d_X6_pass_71 rfl ⟨hS, _, rfl, by omega, by omega⟩
  refine Tr.if_eq (pc := 18) (tgt := 32) d_X6_pass_18 rfl (fun c18 => ?_) (fun c18 => ?_)
  · refine Tr.iload (pc := 32) (i := 4) d_X6_pass_32 rfl ?_
    refine Tr.pick [1, 2, 0] (ls2 := [(0, (2, 48)), (1, (0, a1)), (4, (0, r9))]) rfl ?_
    exact J34 _ _ hS (by omega) er15 er5
  · refine Tr.aload_n (pc := 21) (i := 0) d_X6_pass_21 rfl rfl ?_
    refine Tr.iload (pc := 22) (i := 4) d_X6_pass_22 rfl ?_
    refine Tr.iload_n (pc := 24) (i := 2) d_X6_pass_24 rfl rfl ?_
    refine Tr.tp (-1) (by omega) ?_
    refine Tr.iload_n (pc := 25) (i := 3) d_X6_pass_25 rfl rfl ?_
    refine Tr.tp 0 (by omega) ?_
    refine Tr.callV (pc := 26) (as := [_, _, _]) d_X6_pass_26 s_6_183 ok_X6_afforded rfl rfl (Nat.le_of_ble_eq_true rfl) (Nat.le_of_ble_eq_true rfl) (by decide) (ty_48 hS.1.1) ?_
    refine Tr.imp (Tr.deep (by decide) (sp_X6_afforded_48_w2 hS.1 ((St.kp hS (by decide) (by decide) (by decide)).trans en_48_1) r9 (by omega) (-1) (by omega) 0 (by omega))) ?_
    rintro M26 _ ⟨h26, r26, rfl, lr26, ur26⟩
    have hS := St.tr hS h26 (by decide) (by decide)
    refine Tr.sc [(0, r26)] rfl ?_
    refine Tr.goto (pc := 29) (tgt := 34) d_X6_pass_29 rfl ?_
    refine Tr.pick [1, 2, 0] (ls2 := [(0, (2, 48)), (1, (0, a1)), (4, (0, r9))]) rfl ?_
    exact J34 _ _ hS (by omega) ((St.kp h26 (by decide) (by decide) (by decide)).trans er15) ((St.kp h26 (by decide) (by decide) (by decide)).trans er5)

def ws_X8_stayUp_63 : List (Int × Int) := [(63, 0)]
def as_X8_stayUp_63 : List Int := [69, 191]
def q_X8_stayUp_63 (M0 M' : Mem) (r : Option PV) : Prop := St Rn ws_X8_stayUp_63 as_X8_stayUp_63 M0 M' ∧ r = none
set_option maxRecDepth 100000 in
set_option maxHeartbeats 4000000 in
theorem sp_X8_stayUp_63 {l : Launch} {K : EC} {M0 : Mem} (hI : In Rn M0)  (a1 : Int) (ha1 : 0 ≤ a1 ∧ a1 ≤ 5) (a2 : Int) (ha2 : 0 ≤ a2 ∧ a2 ≤ 59) (a3 : Int) (ha3 : (-2147483648) ≤ a3 ∧ a3 ≤ 2147483647) (a4 : Int) (ha4 : (-2147483648) ≤ a4 ∧ a4 ≤ 2147483647) (a5 : Int) (ha5 : 1 ≤ a5 ∧ a5 ≤ 1)  : Tr l K 0 mX8_stayUp 0 [(0, (2, 63)), (1, (0, a1)), (2, (0, a2)), (3, (0, a3)), (4, (0, a4)), (5, (0, a5))] [] M0 (q_X8_stayUp_63 M0) := by
  have hS : St Rn ws_X8_stayUp_63 as_X8_stayUp_63 M0 M0 := St.rf hI
  obtain ⟨g63_1, eg63_1⟩ : ∃ v, rd M0 63 1 = v := ⟨_, rfl⟩
  have bg63_1 : (-1000000000) ≤ g63_1 ∧ g63_1 ≤ 1000000000 := by rw [← eg63_1]; exact ir_63_1 hI.2.1
  obtain ⟨g63_0, eg63_0⟩ : ∃ v, rd M0 63 0 = v := ⟨_, rfl⟩
  have bg63_0 : (-2147483648) ≤ g63_0 ∧ g63_0 ≤ 2147483647 := by rw [← eg63_0]; exact ir_63_0 hI.2.1
  refine Tr.aload_n (pc := 0) (i := 0) d_X8_stayUp_0 rfl rfl ?_
  refine Tr.getf (pc := 1) d_X8_stayUp_1 f_8_28 (by decide) (by decide) (ty_63 hS.1.1) ?_
  refine Tr.tp 69 (fx_63_6 hS.1.1) ?_
  refine Tr.iload_n (pc := 4) (i := 1) d_X8_stayUp_4 rfl rfl ?_
  refine Tr.iald (pc := 5) d_X8_stayUp_5 (ty_69 hS.1.1) (by omega) (by omega) ?_
  refine Tr.gen (P := fun v => ((-2147483648) ≤ v ∧ v ≤ 2147483647) ∧ v < g63_0) (by have h8 := tl_r hS (p := a1) (by omega) (by omega) eg63_0; have h9 := (ar_69 hS.1.2.1 (a1)); omega) (fun r5 er5 br5 => ?_)
  have J84 : ∀ (M : Mem) (u84_63_0 : Int), St Rn ws_X8_stayUp_63 as_X8_stayUp_63 M0 M → ((-2147483648) ≤ u84_63_0 ∧ u84_63_0 ≤ 2147483647) → rd M 63 0 = u84_63_0 → rd M 63 1 = g63_1 → (0 ≤ rd M 69 a1) → Tr l K 0 mX8_stayUp 84 [(0, (2, 63)), (1, (0, a1)), (3, (0, a3)), (4, (0, a4)), (5, (0, a5))] [] M (q_X8_stayUp_63 M0) := by
    intro M u84_63_0 hS bu84_63_0 k84_63_0 k84_63_1 t84_0
    refine Tr.aload_n (pc := 84) (i := 0) d_X8_stayUp_84 rfl rfl ?_
    refine Tr.getf (pc := 85) d_X8_stayUp_85 f_8_28 (by decide) (by decide) (ty_63 hS.1.1) ?_
    refine Tr.tp 69 (fx_63_6 hS.1.1) ?_
    refine Tr.iload_n (pc := 88) (i := 1) d_X8_stayUp_88 rfl rfl ?_
    refine Tr.iald (pc := 89) d_X8_stayUp_89 (ty_69 hS.1.1) (by omega) (by omega) ?_
    refine Tr.gen (P := fun v => ((-2147483648) ≤ v ∧ v ≤ 2147483647) ∧ v < u84_63_0) (by have h8 := tl_r hS (p := a1) (by omega) (by omega) k84_63_0; have h9 := (ar_69 hS.1.2.1 (a1)); omega) (fun r89 er89 br89 => ?_)
    refine Tr.istore (pc := 90) (i := 6) (ls2 := [(6, (0, r89)), (0, (2, 63)), (1, (0, a1)), (3, (0, a3)), (4, (0, a4)), (5, (0, a5))]) d_X8_stayUp_90 (by decide) rfl ?_
    refine Tr.aload_n (pc := 92) (i := 0) d_X8_stayUp_92 rfl rfl ?_
    refine Tr.getf (pc := 93) d_X8_stayUp_93 f_8_18 (by decide) (by decide) (ty_63 hS.1.1) ?_
    refine Tr.gen (P := fun v => v = tref g63_1 3) (tl_ref hS k84_63_1 (by decide)) (fun t93 et93 bt93 => ?_)
    refine Tr.iload (pc := 96) (i := 6) d_X8_stayUp_96 rfl ?_
    refine Tr.iload (pc := 98) (i := 4) d_X8_stayUp_98 rfl ?_
    have nk100_0 : rd M 63 0 = u84_63_0 := k84_63_0
    have nn100 := tl_n hS k84_63_1
    have nh100 := tl_hi hS k84_63_1 (j := 3) (by decide) bt93 (i := r89) (by omega) (by omega)
    refine Tr.iastS (pc := 100) (P := St Rn ws_X8_stayUp_63 as_X8_stayUp_63 M0) d_X8_stayUp_100 (tl_tyI hS k84_63_1 (j := 3) (by decide) (by decide) bt93) (by omega) (by omega) (tl_wr hS (by decide) k84_63_1 (j := 3) (by decide) bt93 (by omega) (by omega) (by have hb := (show tlo 3 = (-2147483648) ∧ thi 3 = 2147483647 by decide); omega) (Rn.of hS.1.2.2.2.2 (fun _ => rd_wn _ (fun c => by have := c.1; omega)) (rd_wn _ (fun c => by have := c.1; omega)))) (fun M100 hS w100 => ?_)
    refine Tr.aload_n (pc := 101) (i := 0) d_X8_stayUp_101 rfl rfl ?_
    refine Tr.getf (pc := 102) d_X8_stayUp_102 f_8_21 (by decide) (by decide) (ty_63 hS.1.1) ?_
    refine Tr.gen (P := fun v => v = tref g63_1 4) (tl_ref hS ((Wr.n w100 (by omega)).trans k84_63_1) (by decide)) (fun t102 et102 bt102 => ?_)
    refine Tr.iload (pc := 105) (i := 6) d_X8_stayUp_105 rfl ?_
    refine Tr.dup2 (pc := 107) d_X8_stayUp_107 ne01 ne21 ?_
    have nk108_0 : rd M100 63 0 = u84_63_0 := ((Wr.n w100 (by omega)).trans k84_63_0)
    have nn108 := tl_n hS ((Wr.n w100 (by omega)).trans k84_63_1)
    refine Tr.iald (pc := 108) d_X8_stayUp_108 (tl_tyI hS ((Wr.n w100 (by omega)).trans k84_63_1) (j := 4) (by decide) (by decide) bt102) (by omega) (by omega) ?_
    refine Tr.gen (P := fun v => (-2147483648) ≤ v ∧ v ≤ 2147483647) (tl_eI hS ((Wr.n w100 (by omega)).trans k84_63_1) (j := 4) (by decide) (by decide) bt102 (by omega) (by omega)) (fun r108 er108 br108 => ?_)
    refine Tr.iload (pc := 109) (i := 5) d_X8_stayUp_109 rfl ?_
    refine Tr.tp 1 (by omega) ?_
    refine Tr.if_eq (pc := 111) (tgt := 121) d_X8_stayUp_111 rfl (fun hc => absurd hc (by omega)) (fun _ => ?_)
    refine Tr.iload (pc := 114) (i := 4) d_X8_stayUp_114 rfl ?_
    refine Tr.iload_n (pc := 116) (i := 3) d_X8_stayUp_116 rfl rfl ?_
    refine Tr.isub (pc := 117) d_X8_stayUp_117 ?_
    refine Tr.gen (P := fun v => (-2147483648) ≤ v ∧ v ≤ 2147483647) (w32_b _) (fun r117 er117 br117 => ?_)
    refine Tr.goto (pc := 118) (tgt := 122) d_X8_stayUp_118 rfl ?_
    refine Tr.iadd (pc := 122) d_X8_stayUp_122 ?_
    refine Tr.gen (P := fun v => (-2147483648) ≤ v ∧ v ≤ 2147483647) (w32_b _) (fun r122 er122 br122 => ?_)
    have nk123_0 : rd M100 63 0 = u84_63_0 := ((Wr.n w100 (by omega)).trans k84_63_0)
    have nn123 := tl_n hS ((Wr.n w100 (by omega)).trans k84_63_1)
    have nh123 := tl_hi hS ((Wr.n w100 (by omega)).trans k84_63_1) (j := 4) (by decide) bt102 (i := r89) (by omega) (by omega)
    refine Tr.iastS (pc := 123) (P := St Rn ws_X8_stayUp_63 as_X8_stayUp_63 M0) d_X8_stayUp_123 (tl_tyI hS ((Wr.n w100 (by omega)).trans k84_63_1) (j := 4) (by decide) (by decide) bt102) (by omega) (by omega) (tl_wr hS (by decide) ((Wr.n w100 (by omega)).trans k84_63_1) (j := 4) (by decide) bt102 (by omega) (by omega) (by have hb := (show tlo 4 = (-2147483648) ∧ thi 4 = 2147483647 by decide); omega) (Rn.of hS.1.2.2.2.2 (fun _ => rd_wn _ (fun c => by have := c.1; omega)) (rd_wn _ (fun c => by have := c.1; omega)))) (fun M123 hS w123 => ?_)
    exact Tr.vret (pc := 124) d_X8_stayUp_124 rfl ⟨hS, rfl⟩
  refine Tr.if_ge (pc := 6) (tgt := 84) d_X8_stayUp_6 rfl (fun c6 => ?_) (fun c6 => ?_)
  · refine Tr.pick [0, 1, 3, 4, 5] (ls2 := [(0, (2, 63)), (1, (0, a1)), (3, (0, a3)), (4, (0, a4)), (5, (0, a5))]) rfl ?_
    have jr84_0 : rd M0 69 a1 = r5 := er5
    exact J84 _ _ hS (by omega) eg63_0 eg63_1 (by omega)
  · refine Tr.aload_n (pc := 9) (i := 0) d_X8_stayUp_9 rfl rfl ?_
    refine Tr.getf (pc := 10) d_X8_stayUp_10 f_8_43 (by decide) (by decide) (ty_63 hS.1.1) ?_
    refine Tr.tp g63_0 eg63_0 ?_
    refine Tr.aload_n (pc := 13) (i := 0) d_X8_stayUp_13 rfl rfl ?_
    refine Tr.getf (pc := 14) d_X8_stayUp_14 f_8_9 (by decide) (by decide) (ty_63 hS.1.1) ?_
    refine Tr.gen (P := fun v => v = tref g63_1 1) (tl_ref hS eg63_1 (by decide)) (fun t14 et14 bt14 => ?_)
    have nk17_0 : rd M0 63 0 = g63_0 := eg63_0
    have nn17 := tl_n hS eg63_1
    refine Tr.alen (pc := 17) d_X8_stayUp_17 (tl_tyI hS eg63_1 (j := 1) (by decide) (by decide) bt14) (by decide) (by omega) ?_
    refine Tr.gen (P := fun v => v = ((fN g63_1 : Nat) : Int) ∧ (0 ≤ v ∧ v ≤ 2016)) ⟨rfl, by omega, by omega⟩ (fun r17 er17 br17 => ?_)
    refine Tr.icmp_lt (pc := 18) (tgt := 22) d_X8_stayUp_18 rfl (fun c18 => ?_) (fun c18 => ?_)
    · refine Tr.aload_n (pc := 22) (i := 0) d_X8_stayUp_22 rfl rfl ?_
      refine Tr.getf (pc := 23) d_X8_stayUp_23 f_8_9 (by decide) (by decide) (ty_63 hS.1.1) ?_
      refine Tr.gen (P := fun v => v = tref g63_1 1) (tl_ref hS eg63_1 (by decide)) (fun t23 et23 bt23 => ?_)
      refine Tr.aload_n (pc := 26) (i := 0) d_X8_stayUp_26 rfl rfl ?_
      refine Tr.getf (pc := 27) d_X8_stayUp_27 f_8_43 (by decide) (by decide) (ty_63 hS.1.1) ?_
      refine Tr.tp g63_0 eg63_0 ?_
      refine Tr.iload_n (pc := 30) (i := 1) d_X8_stayUp_30 rfl rfl ?_
      have nk31_0 : rd M0 63 0 = g63_0 := eg63_0
      have nn31 := tl_n hS eg63_1
      have nh31 := tl_hi hS eg63_1 (j := 1) (by decide) bt23 (i := g63_0) (by omega) (by omega)
      refine Tr.iastS (pc := 31) (P := St Rn ws_X8_stayUp_63 as_X8_stayUp_63 M0) d_X8_stayUp_31 (tl_tyI hS eg63_1 (j := 1) (by decide) (by decide) bt23) (by omega) (by omega) (tl_wr hS (by decide) eg63_1 (j := 1) (by decide) bt23 (by omega) (by omega) (by have hb := (show tlo 1 = 0 ∧ thi 1 = 5 by decide); omega) (Rn.of hS.1.2.2.2.2 (fun _ => rd_wn _ (fun c => by have := c.1; omega)) (rd_wn _ (fun c => by have := c.1; omega)))) (fun M31 hS w31 => ?_)
      refine Tr.aload_n (pc := 32) (i := 0) d_X8_stayUp_32 rfl rfl ?_
      refine Tr.getf (pc := 33) d_X8_stayUp_33 f_8_15 (by decide) (by decide) (ty_63 hS.1.1) ?_
      refine Tr.gen (P := fun v => v = tref g63_1 2) (tl_ref hS ((Wr.n w31 (by omega)).trans eg63_1) (by decide)) (fun t33 et33 bt33 => ?_)
      refine Tr.aload_n (pc := 36) (i := 0) d_X8_stayUp_36 rfl rfl ?_
      refine Tr.getf (pc := 37) d_X8_stayUp_37 f_8_43 (by decide) (by decide) (ty_63 hS.1.1) ?_
      refine Tr.tp g63_0 ((Wr.n w31 (by omega)).trans eg63_0) ?_
      refine Tr.iload_n (pc := 40) (i := 3) d_X8_stayUp_40 rfl rfl ?_
      have nk41_0 : rd M31 63 0 = g63_0 := ((Wr.n w31 (by omega)).trans eg63_0)
      have nn41 := tl_n hS ((Wr.n w31 (by omega)).trans eg63_1)
      have nh41 := tl_hi hS ((Wr.n w31 (by omega)).trans eg63_1) (j := 2) (by decide) bt33 (i := g63_0) (by omega) (by omega)
      refine Tr.iastS (pc := 41) (P := St Rn ws_X8_stayUp_63 as_X8_stayUp_63 M0) d_X8_stayUp_41 (tl_tyI hS ((Wr.n w31 (by omega)).trans eg63_1) (j := 2) (by decide) (by decide) bt33) (by omega) (by omega) (tl_wr hS (by decide) ((Wr.n w31 (by omega)).trans eg63_1) (j := 2) (by decide) bt33 (by omega) (by omega) (by have hb := (show tlo 2 = (-2147483648) ∧ thi 2 = 2147483647 by decide); omega) (Rn.of hS.1.2.2.2.2 (fun _ => rd_wn _ (fun c => by have := c.1; omega)) (rd_wn _ (fun c => by have := c.1; omega)))) (fun M41 hS w41 => ?_)
      refine Tr.aload_n (pc := 42) (i := 0) d_X8_stayUp_42 rfl rfl ?_
      refine Tr.getf (pc := 43) d_X8_stayUp_43 f_8_21 (by decide) (by decide) (ty_63 hS.1.1) ?_
      refine Tr.gen (P := fun v => v = tref g63_1 4) (tl_ref hS ((Wr.n w41 (by omega)).trans ((Wr.n w31 (by omega)).trans eg63_1)) (by decide)) (fun t43 et43 bt43 => ?_)
      refine Tr.aload_n (pc := 46) (i := 0) d_X8_stayUp_46 rfl rfl ?_
      refine Tr.getf (pc := 47) d_X8_stayUp_47 f_8_43 (by decide) (by decide) (ty_63 hS.1.1) ?_
      refine Tr.tp g63_0 ((Wr.n w41 (by omega)).trans ((Wr.n w31 (by omega)).trans eg63_0)) ?_
      refine Tr.iconst (pc := 50) d_X8_stayUp_50 (by decide) ?_
      have nk51_0 : rd M41 63 0 = g63_0 := ((Wr.n w41 (by omega)).trans ((Wr.n w31 (by omega)).trans eg63_0))
      have nn51 := tl_n hS ((Wr.n w41 (by omega)).trans ((Wr.n w31 (by omega)).trans eg63_1))
      have nh51 := tl_hi hS ((Wr.n w41 (by omega)).trans ((Wr.n w31 (by omega)).trans eg63_1)) (j := 4) (by decide) bt43 (i := g63_0) (by omega) (by omega)
      refine Tr.iastS (pc := 51) (P := St Rn ws_X8_stayUp_63 as_X8_stayUp_63 M0) d_X8_stayUp_51 (tl_tyI hS ((Wr.n w41 (by omega)).trans ((Wr.n w31 (by omega)).trans eg63_1)) (j := 4) (by decide) (by decide) bt43) (by omega) (by omega) (tl_wr hS (by decide) ((Wr.n w41 (by omega)).trans ((Wr.n w31 (by omega)).trans eg63_1)) (j := 4) (by decide) bt43 (by omega) (by omega) (by have hb := (show tlo 4 = (-2147483648) ∧ thi 4 = 2147483647 by decide); omega) (Rn.of hS.1.2.2.2.2 (fun _ => rd_wn _ (fun c => by have := c.1; omega)) (rd_wn _ (fun c => by have := c.1; omega)))) (fun M51 hS w51 => ?_)
      refine Tr.aload_n (pc := 52) (i := 0) d_X8_stayUp_52 rfl rfl ?_
      refine Tr.getf (pc := 53) d_X8_stayUp_53 f_8_24 (by decide) (by decide) (ty_63 hS.1.1) ?_
      refine Tr.gen (P := fun v => v = tref g63_1 5) (tl_ref hS ((Wr.n w51 (by omega)).trans ((Wr.n w41 (by omega)).trans ((Wr.n w31 (by omega)).trans eg63_1))) (by decide)) (fun t53 et53 bt53 => ?_)
      refine Tr.aload_n (pc := 56) (i := 0) d_X8_stayUp_56 rfl rfl ?_
      refine Tr.getf (pc := 57) d_X8_stayUp_57 f_8_43 (by decide) (by decide) (ty_63 hS.1.1) ?_
      refine Tr.tp g63_0 ((Wr.n w51 (by omega)).trans ((Wr.n w41 (by omega)).trans ((Wr.n w31 (by omega)).trans eg63_0))) ?_
      refine Tr.lconst (pc := 60) (v := 1) d_X8_stayUp_60 rfl (by decide) ?_
      refine Tr.iload_n (pc := 61) (i := 2) d_X8_stayUp_61 rfl rfl ?_
      refine Tr.lshl (pc := 62) d_X8_stayUp_62 ?_
      refine Tr.gen (P := fun v => (-9223372036854775808) ≤ v ∧ v ≤ 9223372036854775807) (i64_b _) (fun r62 er62 br62 => ?_)
      have nk63_0 : rd M51 63 0 = g63_0 := ((Wr.n w51 (by omega)).trans ((Wr.n w41 (by omega)).trans ((Wr.n w31 (by omega)).trans eg63_0)))
      have nn63 := tl_n hS ((Wr.n w51 (by omega)).trans ((Wr.n w41 (by omega)).trans ((Wr.n w31 (by omega)).trans eg63_1)))
      have nh63 := tl_hi hS ((Wr.n w51 (by omega)).trans ((Wr.n w41 (by omega)).trans ((Wr.n w31 (by omega)).trans eg63_1))) (j := 5) (by decide) bt53 (i := g63_0) (by omega) (by omega)
      refine Tr.lastS (pc := 63) (P := St Rn ws_X8_stayUp_63 as_X8_stayUp_63 M0) d_X8_stayUp_63 (tl_tyL hS ((Wr.n w51 (by omega)).trans ((Wr.n w41 (by omega)).trans ((Wr.n w31 (by omega)).trans eg63_1))) bt53) (by omega) (by omega) (tl_wr hS (by decide) ((Wr.n w51 (by omega)).trans ((Wr.n w41 (by omega)).trans ((Wr.n w31 (by omega)).trans eg63_1))) (j := 5) (by decide) bt53 (by omega) (by omega) (by have hb := (show tlo 5 = (-9223372036854775808) ∧ thi 5 = 9223372036854775807 by decide); omega) (Rn.of hS.1.2.2.2.2 (fun _ => rd_wn _ (fun c => by have := c.1; omega)) (rd_wn _ (fun c => by have := c.1; omega)))) (fun M63 hS w63 => ?_)
      refine Tr.aload_n (pc := 64) (i := 0) d_X8_stayUp_64 rfl rfl ?_
      refine Tr.getf (pc := 65) d_X8_stayUp_65 f_8_28 (by decide) (by decide) (ty_63 hS.1.1) ?_
      refine Tr.tp 69 (fx_63_6 hS.1.1) ?_
      refine Tr.iload_n (pc := 68) (i := 1) d_X8_stayUp_68 rfl rfl ?_
      refine Tr.aload_n (pc := 69) (i := 0) d_X8_stayUp_69 rfl rfl ?_
      refine Tr.getf (pc := 70) d_X8_stayUp_70 f_8_43 (by decide) (by decide) (ty_63 hS.1.1) ?_
      refine Tr.tp g63_0 ((Wr.n w63 (by omega)).trans ((Wr.n w51 (by omega)).trans ((Wr.n w41 (by omega)).trans ((Wr.n w31 (by omega)).trans eg63_0)))) ?_
      have kc73_63_0 : rd M63 63 0 = g63_0 := ((Wr.n w63 (by omega)).trans ((Wr.n w51 (by omega)).trans ((Wr.n w41 (by omega)).trans ((Wr.n w31 (by omega)).trans eg63_0))))
      have hS9 := hS
      refine Tr.iastS (pc := 73) (P := St Tru ws_X8_stayUp_63 as_X8_stayUp_63 M0) d_X8_stayUp_73 (ty_69 hS.1.1) (by omega) (by omega) (sa_69 hS.wk (by decide) (by omega) trivial) (fun M73 hS w73 => ?_)
      have hrn : ∀ p : Int, 0 ≤ p → p < 6 → rd M73 69 p < g63_0 + 1 := fun p p0 p1 => by
        have h1 := tl_r hS9 p0 p1 ((Wr.n w63 (by omega)).trans ((Wr.n w51 (by omega)).trans ((Wr.n w41 (by omega)).trans ((Wr.n w31 (by omega)).trans eg63_0))))
        by_cases hp : p = a1
        · rw [hp, w73.1]; omega
        · rw [w73.2 _ _ (fun d => hp d.2)]; omega
      refine Tr.aload_n (pc := 74) (i := 0) d_X8_stayUp_74 rfl rfl ?_
      refine Tr.dup (pc := 75) d_X8_stayUp_75 ne21 ?_
      refine Tr.getf (pc := 76) d_X8_stayUp_76 f_8_43 (by decide) (by decide) (ty_63 hS.1.1) ?_
      refine Tr.tp g63_0 ((Wr.b w73 rfl).trans ((Wr.n w63 (by omega)).trans ((Wr.n w51 (by omega)).trans ((Wr.n w41 (by omega)).trans ((Wr.n w31 (by omega)).trans eg63_0))))) ?_
      refine Tr.iconst (pc := 79) d_X8_stayUp_79 (by decide) ?_
      refine Tr.iadd (pc := 80) d_X8_stayUp_80 ?_
      refine Tr.tp (g63_0 + 1) ((w32_id (by omega)).trans (by omega)) ?_
      have nk81_0 : rd M73 63 0 = g63_0 := ((Wr.b w73 rfl).trans ((Wr.n w63 (by omega)).trans ((Wr.n w51 (by omega)).trans ((Wr.n w41 (by omega)).trans ((Wr.n w31 (by omega)).trans eg63_0)))))
      have nn81 := tl_n hS ((Wr.b w73 rfl).trans ((Wr.n w63 (by omega)).trans ((Wr.n w51 (by omega)).trans ((Wr.n w41 (by omega)).trans ((Wr.n w31 (by omega)).trans eg63_1)))))
      refine Tr.putfS (pc := 81) (P := St Rn ws_X8_stayUp_63 as_X8_stayUp_63 M0) d_X8_stayUp_81 f_8_43 (by decide) (by decide) (ty_63 hS.1.1) (st_up hS (by decide) ((Wr.b w73 rfl).trans ((Wr.n w63 (by omega)).trans ((Wr.n w51 (by omega)).trans ((Wr.n w41 (by omega)).trans ((Wr.n w31 (by omega)).trans eg63_1))))) (by omega) (by omega) (fun p p0 p1 => by have h1 := hrn p p0 p1; omega)) (fun M81 hS w81 => ?_)
      refine Tr.pick [0, 1, 3, 4, 5] (ls2 := [(0, (2, 63)), (1, (0, a1)), (3, (0, a3)), (4, (0, a4)), (5, (0, a5))]) rfl ?_
      have jr84_0 : rd M81 69 a1 = g63_0 := ((Wr.b w81 rfl).trans w73.1)
      exact J84 _ _ hS (by omega) w81.1 ((Wr.b w81 rfl).trans ((Wr.b w73 rfl).trans ((Wr.n w63 (by omega)).trans ((Wr.n w51 (by omega)).trans ((Wr.n w41 (by omega)).trans ((Wr.n w31 (by omega)).trans eg63_1)))))) (by omega)
    · exact Tr.vret (pc := 21) d_X8_stayUp_21 rfl ⟨hS, rfl⟩
