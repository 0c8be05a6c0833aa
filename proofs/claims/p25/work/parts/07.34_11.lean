/-! 34.11 -/
section
def ws_X5_fact_6_w4 : List (Int × Int) := [(6, 0), (6, 1), (6, 5), (6, 6), (35, 11)]
def as_X5_fact_6_w4 : List Int := [44, 45]
def q_X5_fact_6_w4 (M0 M' : Mem) (r : Option PV) : Prop := St Tru ws_X5_fact_6_w4 as_X5_fact_6_w4 M0 M' ∧ ∃ v : Int, r = some (0, v) ∧ 0 ≤ v ∧ v ≤ 1 ∧ ((1 ≤ v ∧ v ≤ 1) → rd M' 6 6 = 4)
set_option maxRecDepth 100000 in
set_option maxHeartbeats 4000000 in
theorem sp_X5_fact_6_w4 {l : Launch} {K : EC} {M0 : Mem} {xq : Int} (hI : In Tru M0) (hE : e_all K xq) (en_6_2 : rd M0 6 2 = 2) (en_6_3 : rd M0 6 3 = 27) (en_6_4 : rd M0 6 4 = 35) (en_6_6 : rd M0 6 6 = 4)   : Tr l K 23 mX5_fact 0 [(0, (2, 6))] [] M0 (q_X5_fact_6_w4 M0) := by
  have hS : St Tru ws_X5_fact_6_w4 as_X5_fact_6_w4 M0 M0 := St.rf hI
  refine Tr.iconst (pc := 0) d_X5_fact_0 (by decide) ?_
  refine Tr.istore_n (pc := 1) (i := 1) (ls2 := [(1, (0, 0)), (0, (2, 6))]) d_X5_fact_1 rfl (by decide) rfl ?_
  refine Tr.iconst (pc := 2) d_X5_fact_2 (by decide) ?_
  refine Tr.istore_n (pc := 3) (i := 2) (ls2 := [(2, (0, 0)), (1, (0, 0)), (0, (2, 6))]) d_X5_fact_3 rfl (by decide) rfl ?_
  have J4 : ∀ (n4 : Nat) (M : Mem) (p4_1 p4_2 : Int), St Tru ws_X5_fact_6_w4 as_X5_fact_6_w4 M0 M → (0 ≤ p4_1 ∧ p4_1 ≤ 1) → (0 ≤ p4_2 ∧ p4_2 ≤ 900) → rd M 6 6 = 4 → (900 - p4_2).toNat < n4 → Tr l K 23 mX5_fact 4 [(0, (2, 6)), (1, (0, p4_1)), (2, (0, p4_2))] [] M (q_X5_fact_6_w4 M0) := by
    intro n4
    induction n4 with
    | zero => intro M p4_1 p4_2 hS bp4_1 bp4_2 k4_6_6 hm4; exact absurd hm4 (Nat.not_lt_zero _)
    | succ n4 J4 =>
      intro M p4_1 p4_2 hS bp4_1 bp4_2 k4_6_6 hm4
      refine Tr.iload_n (pc := 4) (i := 2) d_X5_fact_4 rfl rfl ?_
      refine Tr.sipush (pc := 5) d_X5_fact_5 rfl (by decide) ?_
      have J41 : ∀ (M : Mem), St Tru ws_X5_fact_6_w4 as_X5_fact_6_w4 M0 M → rd M 6 6 = 4 → Tr l K 23 mX5_fact 41 [(0, (2, 6)), (1, (0, p4_1))] [] M (q_X5_fact_6_w4 M0) := by
        intro M  hS  k41_6_6
        refine Tr.aload_n (pc := 41) (i := 0) d_X5_fact_41 rfl rfl ?_
        refine Tr.callV (pc := 42) (as := []) d_X5_fact_42 s_5_221 ok_X5_plainFact rfl rfl (Nat.le_of_ble_eq_true rfl) (Nat.le_of_ble_eq_true rfl) (by decide) (ty_6 hS.1.1) ?_
        refine Tr.imp (Tr.deep (by decide) (sp_X5_plainFact_6_w4 hS.1 hE ((St.kp hS (by decide) (by decide) (by decide)).trans en_6_2) ((St.kp hS (by decide) (by decide) (by decide)).trans en_6_3) ((St.kp hS (by decide) (by decide) (by decide)).trans en_6_4) k41_6_6)) ?_
        rintro M42 _ ⟨h42, r42, rfl, lr42, ur42, x42_6_6⟩
        have hS := St.tr hS h42 (by decide) (by decide)
        refine Tr.sc [(0, r42)] rfl ?_
        refine Tr.istore_n (pc := 45) (i := 2) (ls2 := [(2, (0, r42)), (0, (2, 6)), (1, (0, p4_1))]) d_X5_fact_45 rfl (by decide) rfl ?_
        refine Tr.iload_n (pc := 46) (i := 1) d_X5_fact_46 rfl rfl ?_
        refine Tr.if_eq (pc := 47) (tgt := 59) d_X5_fact_47 rfl (fun c47 => ?_) (fun c47 => ?_)
        · refine Tr.iload_n (pc := 59) (i := 2) d_X5_fact_59 rfl rfl ?_
          exact Tr.zret (pc := 60) d_X5_fact_60 rfl (by omega) ⟨hS, _, rfl, by omega, by omega, fun hq => (x42_6_6 (by omega))⟩
        · refine Tr.aload_n (pc := 50) (i := 0) d_X5_fact_50 rfl rfl ?_
          refine Tr.getf (pc := 51) d_X5_fact_51 f_5_32 (by decide) (by decide) (ty_6 hS.1.1) ?_
          refine Tr.tp 35 ((St.kp hS (by decide) (by decide) (by decide)).trans en_6_4) ?_
          refine Tr.iconst (pc := 54) d_X5_fact_54 (by decide) ?_
          refine Tr.iconst (pc := 55) d_X5_fact_55 (by decide) ?_
          refine Tr.callV (pc := 56) (as := [_, _]) d_X5_fact_56 s_5_215 ok_X4_emit rfl rfl (Nat.le_of_ble_eq_true rfl) (Nat.le_of_ble_eq_true rfl) (by decide) (ty_35 hS.1.1) ?_
          refine Tr.imp (Tr.deep (by decide) (sp_X4_emit_35_w7 hS.1.wk 5 (by omega) 0 (by omega) (by omega))) ?_
          rintro M56 _ ⟨h56, rfl⟩
          have hS := St.tr hS h56 (by decide) (by decide)
          refine Tr.sc [] rfl ?_
          refine Tr.iload_n (pc := 59) (i := 2) d_X5_fact_59 rfl rfl ?_
          exact Tr.zret (pc := 60) d_X5_fact_60 rfl (by omega) ⟨hS, _, rfl, by omega, by omega, fun hq => ((St.kp h56 (by decide) (by decide) (by decide)).trans (x42_6_6 (by omega)))⟩
      refine Tr.icmp_ge (pc := 8) (tgt := 41) d_X5_fact_8 rfl (fun c8 => ?_) (fun c8 => ?_)
      · refine Tr.pick [0, 1] (ls2 := [(0, (2, 6)), (1, (0, p4_1))]) rfl ?_
        exact J41 _ hS k4_6_6
      · refine Tr.aload_n (pc := 11) (i := 0) d_X5_fact_11 rfl rfl ?_
        refine Tr.bipush (pc := 12) d_X5_fact_12 rfl (by decide) ?_
        refine Tr.callV (pc := 14) (as := [_]) d_X5_fact_14 s_5_71 ok_X5_isOwn rfl rfl (Nat.le_of_ble_eq_true rfl) (Nat.le_of_ble_eq_true rfl) (by decide) (ty_6 hS.1.1) ?_
        refine Tr.imp (Tr.deep (by decide) (sp_X5_isOwn_6_w4 hS.1 ((St.kp hS (by decide) (by decide) (by decide)).trans en_6_2) 21 (by omega))) ?_
        rintro M14 _ ⟨h14, r14, rfl, lr14, ur14⟩
        have hS := St.tr hS h14 (by decide) (by decide)
        refine Tr.sc [(0, r14)] rfl ?_
        refine Tr.if_eq (pc := 17) (tgt := 41) d_X5_fact_17 rfl (fun c17 => ?_) (fun c17 => ?_)
        · refine Tr.pick [0, 1] (ls2 := [(0, (2, 6)), (1, (0, p4_1))]) rfl ?_
          exact J41 _ hS ((St.kp h14 (by decide) (by decide) (by decide)).trans k4_6_6)
        · refine Tr.aload_n (pc := 20) (i := 0) d_X5_fact_20 rfl rfl ?_
          refine Tr.callV (pc := 21) (as := []) d_X5_fact_21 s_5_74 ok_X5_goOn rfl rfl (Nat.le_of_ble_eq_true rfl) (Nat.le_of_ble_eq_true rfl) (by decide) (ty_6 hS.1.1) ?_
          refine Tr.imp (Tr.deep (by decide) (sp_X5_goOn_6 hS.1 )) ?_
          rintro M21 _ ⟨h21, r21, rfl, lr21, ur21⟩
          have hS := St.tr hS h21 (by decide) (by decide)
          refine Tr.sc [(0, r21)] rfl ?_
          refine Tr.pop (pc := 24) d_X5_fact_24 ne01 ?_
          refine Tr.iload_n (pc := 25) (i := 1) d_X5_fact_25 rfl rfl ?_
          have J34 : ∀ (M : Mem) (q34_0 : Int), St Tru ws_X5_fact_6_w4 as_X5_fact_6_w4 M0 M → (0 ≤ q34_0 ∧ q34_0 ≤ 1) → rd M 6 6 = 4 → Tr l K 23 mX5_fact 34 [(0, (2, 6)), (2, (0, p4_2))] [(0, q34_0)] M (q_X5_fact_6_w4 M0) := by
            intro M q34_0 hS bq34_0 k34_6_6
            refine Tr.istore_n (pc := 34) (i := 1) (ls2 := [(1, (0, q34_0)), (0, (2, 6)), (2, (0, p4_2))]) d_X5_fact_34 rfl (by decide) rfl ?_
            refine Tr.iincV (pc := 35) (n2 := (p4_2 + 1)) (ls2 := [(2, (0, (p4_2 + 1))), (1, (0, q34_0)), (0, (2, 6))]) d_X5_fact_35 rfl (by decide) ((w32_id (by omega)).trans (by omega)) rfl ?_
            refine Tr.goto (pc := 38) (tgt := 4) d_X5_fact_38 rfl ?_
            refine Tr.pick [2, 1, 0] (ls2 := [(0, (2, 6)), (1, (0, q34_0)), (2, (0, (p4_2 + 1)))]) rfl ?_
            exact J4 _ _ _ hS (by omega) (by omega) k34_6_6 (by omega)
          refine Tr.if_ne (pc := 26) (tgt := 33) d_X5_fact_26 rfl (fun c26 => ?_) (fun c26 => ?_)
          · refine Tr.iconst (pc := 33) d_X5_fact_33 (by decide) ?_
            refine Tr.pick [0, 2] (ls2 := [(0, (2, 6)), (2, (0, p4_2))]) rfl ?_
            exact J34 _ _ hS (by omega) ((St.kp h21 (by decide) (by decide) (by decide)).trans ((St.kp h14 (by decide) (by decide) (by decide)).trans k4_6_6))
          · refine Tr.iconst (pc := 29) d_X5_fact_29 (by decide) ?_
            refine Tr.goto (pc := 30) (tgt := 34) d_X5_fact_30 rfl ?_
            refine Tr.pick [0, 2] (ls2 := [(0, (2, 6)), (2, (0, p4_2))]) rfl ?_
            exact J34 _ _ hS (by omega) ((St.kp h21 (by decide) (by decide) (by decide)).trans ((St.kp h14 (by decide) (by decide) (by decide)).trans k4_6_6))
  refine Tr.pick [2, 1, 0] (ls2 := [(0, (2, 6)), (1, (0, 0)), (2, (0, 0))]) rfl ?_
  exact J4 _ _ _ _ hS (by omega) (by omega) en_6_6 (Nat.lt_succ_self _)

def ws_X5_both_6_w4 : List (Int × Int) := [(6, 0), (6, 1), (6, 5), (6, 6), (35, 11)]
def as_X5_both_6_w4 : List Int := [44, 45]
def q_X5_both_6_w4 (M0 M' : Mem) (r : Option PV) : Prop := St Tru ws_X5_both_6_w4 as_X5_both_6_w4 M0 M' ∧ ∃ v : Int, r = some (0, v) ∧ 0 ≤ v ∧ v ≤ 1 ∧ ((1 ≤ v ∧ v ≤ 1) → rd M' 6 6 = 4)
set_option maxRecDepth 100000 in
set_option maxHeartbeats 4000000 in
theorem sp_X5_both_6_w4 {l : Launch} {K : EC} {M0 : Mem} {xq : Int} (hI : In Tru M0) (hE : e_all K xq) (en_6_2 : rd M0 6 2 = 2) (en_6_3 : rd M0 6 3 = 27) (en_6_4 : rd M0 6 4 = 35) (en_6_6 : rd M0 6 6 = 4)   : Tr l K 24 mX5_both 0 [(0, (2, 6))] [] M0 (q_X5_both_6_w4 M0) := by
  have hS : St Tru ws_X5_both_6_w4 as_X5_both_6_w4 M0 M0 := St.rf hI
  refine Tr.aload_n (pc := 0) (i := 0) d_X5_both_0 rfl rfl ?_
  refine Tr.callV (pc := 1) (as := []) d_X5_both_1 s_5_218 ok_X5_fact rfl rfl (Nat.le_of_ble_eq_true rfl) (Nat.le_of_ble_eq_true rfl) (by decide) (ty_6 hS.1.1) ?_
  refine Tr.imp (Tr.deep (by decide) (sp_X5_fact_6_w4 hS.1 hE ((St.kp hS (by decide) (by decide) (by decide)).trans en_6_2) ((St.kp hS (by decide) (by decide) (by decide)).trans en_6_3) ((St.kp hS (by decide) (by decide) (by decide)).trans en_6_4) en_6_6)) ?_
  rintro M1 _ ⟨h1, r1, rfl, lr1, ur1, x1_6_6⟩
  have hS := St.tr hS h1 (by decide) (by decide)
  refine Tr.sc [(0, r1)] rfl ?_
  refine Tr.istore_n (pc := 4) (i := 1) (ls2 := [(1, (0, r1)), (0, (2, 6))]) d_X5_both_4 rfl (by decide) rfl ?_
  refine Tr.iconst (pc := 5) d_X5_both_5 (by decide) ?_
  refine Tr.istore_n (pc := 6) (i := 2) (ls2 := [(2, (0, 0)), (1, (0, r1)), (0, (2, 6))]) d_X5_both_6 rfl (by decide) rfl ?_
  have J7 : ∀ (n7 : Nat) (M : Mem) (p7_1 p7_2 : Int), St Tru ws_X5_both_6_w4 as_X5_both_6_w4 M0 M → (0 ≤ p7_1 ∧ p7_1 ≤ 1) → (0 ≤ p7_2 ∧ p7_2 ≤ 900) → (p7_1 = 1 → rd M 6 6 = 4) → (900 - p7_2).toNat < n7 → Tr l K 24 mX5_both 7 [(0, (2, 6)), (1, (0, p7_1)), (2, (0, p7_2))] [] M (q_X5_both_6_w4 M0) := by
    intro n7
    induction n7 with
    | zero => intro M p7_1 p7_2 hS bp7_1 bp7_2  y7_p7_1_6_60 hm7; exact absurd hm7 (Nat.not_lt_zero _)
    | succ n7 J7 =>
      intro M p7_1 p7_2 hS bp7_1 bp7_2  y7_p7_1_6_60 hm7
      have y7_p7_1_6_6 : 1 ≤ p7_1 ∧ p7_1 ≤ 1 → rd M 6 6 = 4 := fun hq => y7_p7_1_6_60 (by omega)
      refine Tr.iload_n (pc := 7) (i := 2) d_X5_both_7 rfl rfl ?_
      refine Tr.sipush (pc := 8) d_X5_both_8 rfl (by decide) ?_
      refine Tr.icmp_ge (pc := 11) (tgt := 53) d_X5_both_11 rfl (fun c11 => ?_) (fun c11 => ?_)
      · refine Tr.iload_n (pc := 53) (i := 1) d_X5_both_53 rfl rfl ?_
        exact Tr.zret (pc := 54) d_X5_both_54 rfl (by omega) ⟨hS, _, rfl, by omega, by omega, fun hq => (y7_p7_1_6_6 (by omega))⟩
      · refine Tr.iload_n (pc := 14) (i := 1) d_X5_both_14 rfl rfl ?_
        refine Tr.if_eq (pc := 15) (tgt := 53) d_X5_both_15 rfl (fun c15 => ?_) (fun c15 => ?_)
        · refine Tr.iload_n (pc := 53) (i := 1) d_X5_both_53 rfl rfl ?_
          exact Tr.zret (pc := 54) d_X5_both_54 rfl (by omega) ⟨hS, _, rfl, by omega, by omega, fun hq => absurd hq (by omega)⟩
        · refine Tr.aload_n (pc := 18) (i := 0) d_X5_both_18 rfl rfl ?_
          refine Tr.bipush (pc := 19) d_X5_both_19 rfl (by decide) ?_
          refine Tr.callV (pc := 21) (as := [_]) d_X5_both_21 s_5_71 ok_X5_isOwn rfl rfl (Nat.le_of_ble_eq_true rfl) (Nat.le_of_ble_eq_true rfl) (by decide) (ty_6 hS.1.1) ?_
          refine Tr.imp (Tr.deep (by decide) (sp_X5_isOwn_6_w3 hS.1 ((St.kp hS (by decide) (by decide) (by decide)).trans en_6_2) 20 (by omega))) ?_
          rintro M21 _ ⟨h21, r21, rfl, lr21, ur21⟩
          have hS := St.tr hS h21 (by decide) (by decide)
          refine Tr.sc [(0, r21)] rfl ?_
          refine Tr.if_eq (pc := 24) (tgt := 53) d_X5_both_24 rfl (fun c24 => ?_) (fun c24 => ?_)
          · refine Tr.iload_n (pc := 53) (i := 1) d_X5_both_53 rfl rfl ?_
            exact Tr.zret (pc := 54) d_X5_both_54 rfl (by omega) ⟨hS, _, rfl, by omega, by omega, fun _ => ((St.kp h21 (by decide) (by decide) (by decide)).trans (y7_p7_1_6_6 (by omega)))⟩
          · refine Tr.aload_n (pc := 27) (i := 0) d_X5_both_27 rfl rfl ?_
            refine Tr.callV (pc := 28) (as := []) d_X5_both_28 s_5_74 ok_X5_goOn rfl rfl (Nat.le_of_ble_eq_true rfl) (Nat.le_of_ble_eq_true rfl) (by decide) (ty_6 hS.1.1) ?_
            refine Tr.imp (Tr.deep (by decide) (sp_X5_goOn_6 hS.1 )) ?_
            rintro M28 _ ⟨h28, r28, rfl, lr28, ur28⟩
            have hS := St.tr hS h28 (by decide) (by decide)
            refine Tr.sc [(0, r28)] rfl ?_
            refine Tr.pop (pc := 31) d_X5_both_31 ne01 ?_
            refine Tr.aload_n (pc := 32) (i := 0) d_X5_both_32 rfl rfl ?_
            refine Tr.callV (pc := 33) (as := []) d_X5_both_33 s_5_218 ok_X5_fact rfl rfl (Nat.le_of_ble_eq_true rfl) (Nat.le_of_ble_eq_true rfl) (by decide) (ty_6 hS.1.1) ?_
            refine Tr.imp (Tr.deep (by decide) (sp_X5_fact_6_w4 hS.1 hE ((St.kp hS (by decide) (by decide) (by decide)).trans en_6_2) ((St.kp hS (by decide) (by decide) (by decide)).trans en_6_3) ((St.kp hS (by decide) (by decide) (by decide)).trans en_6_4) ((St.kp h28 (by decide) (by decide) (by decide)).trans ((St.kp h21 (by decide) (by decide) (by decide)).trans (y7_p7_1_6_6 (by omega)))))) ?_
            rintro M33 _ ⟨h33, r33, rfl, lr33, ur33, x33_6_6⟩
            have hS := St.tr hS h33 (by decide) (by decide)
            refine Tr.sc [(0, r33)] rfl ?_
            refine Tr.istore_n (pc := 36) (i := 1) (ls2 := [(1, (0, r33)), (0, (2, 6)), (2, (0, p7_2))]) d_X5_both_36 rfl (by decide) rfl ?_
            refine Tr.aload_n (pc := 37) (i := 0) d_X5_both_37 rfl rfl ?_
            refine Tr.getf (pc := 38) d_X5_both_38 f_5_32 (by decide) (by decide) (ty_6 hS.1.1) ?_
            refine Tr.tp 35 ((St.kp hS (by decide) (by decide) (by decide)).trans en_6_4) ?_
            refine Tr.bipush (pc := 41) d_X5_both_41 rfl (by decide) ?_
            refine Tr.iconst (pc := 43) d_X5_both_43 (by decide) ?_
            refine Tr.callV (pc := 44) (as := [_, _]) d_X5_both_44 s_5_215 ok_X4_emit rfl rfl (Nat.le_of_ble_eq_true rfl) (Nat.le_of_ble_eq_true rfl) (by decide) (ty_35 hS.1.1) ?_
            refine Tr.imp (Tr.deep (by decide) (sp_X4_emit_35_w9 hS.1.wk 16 (by omega) 0 (by omega) (by omega))) ?_
            rintro M44 _ ⟨h44, rfl⟩
            have hS := St.tr hS h44 (by decide) (by decide)
            refine Tr.sc [] rfl ?_
            refine Tr.iincV (pc := 47) (n2 := (p7_2 + 1)) (ls2 := [(2, (0, (p7_2 + 1))), (1, (0, r33)), (0, (2, 6))]) d_X5_both_47 rfl (by decide) ((w32_id (by omega)).trans (by omega)) rfl ?_
            refine Tr.goto (pc := 50) (tgt := 7) d_X5_both_50 rfl ?_
            refine Tr.pick [2, 1, 0] (ls2 := [(0, (2, 6)), (1, (0, r33)), (2, (0, (p7_2 + 1)))]) rfl ?_
            exact J7 _ _ _ hS (by omega) (by omega) (fun hq => ((St.kp h44 (by decide) (by decide) (by decide)).trans (x33_6_6 (by omega)))) (by omega)
  refine Tr.pick [2, 1, 0] (ls2 := [(0, (2, 6)), (1, (0, r1)), (2, (0, 0))]) rfl ?_
  exact J7 _ _ _ _ hS (by omega) (by omega) (fun hq => (x1_6_6 (by omega))) (Nat.lt_succ_self _)

def ws_X5_test_6_w4 : List (Int × Int) := [(6, 0), (6, 1), (6, 5), (6, 6), (35, 11)]
def as_X5_test_6_w4 : List Int := [44, 45]
def q_X5_test_6_w4 (M0 M' : Mem) (r : Option PV) : Prop := St Tru ws_X5_test_6_w4 as_X5_test_6_w4 M0 M' ∧ ∃ v : Int, r = some (0, v) ∧ 0 ≤ v ∧ v ≤ 1 ∧ ((1 ≤ v ∧ v ≤ 1) → rd M' 6 6 = 4)
set_option maxRecDepth 100000 in
set_option maxHeartbeats 4000000 in
theorem sp_X5_test_6_w4 {l : Launch} {K : EC} {M0 : Mem} {xq : Int} (hI : In Tru M0) (hE : e_all K xq) (en_6_2 : rd M0 6 2 = 2) (en_6_3 : rd M0 6 3 = 27) (en_6_4 : rd M0 6 4 = 35) (en_6_6 : rd M0 6 6 = 4)   : Tr l K 25 mX5_test 0 [(0, (2, 6))] [] M0 (q_X5_test_6_w4 M0) := by
  have hS : St Tru ws_X5_test_6_w4 as_X5_test_6_w4 M0 M0 := St.rf hI
  refine Tr.aload_n (pc := 0) (i := 0) d_X5_test_0 rfl rfl ?_
  refine Tr.callV (pc := 1) (as := []) d_X5_test_1 s_5_212 ok_X5_both rfl rfl (Nat.le_of_ble_eq_true rfl) (Nat.le_of_ble_eq_true rfl) (by decide) (ty_6 hS.1.1) ?_
  refine Tr.imp (Tr.deep (by decide) (sp_X5_both_6_w4 hS.1 hE ((St.kp hS (by decide) (by decide) (by decide)).trans en_6_2) ((St.kp hS (by decide) (by decide) (by decide)).trans en_6_3) ((St.kp hS (by decide) (by decide) (by decide)).trans en_6_4) en_6_6)) ?_
  rintro M1 _ ⟨h1, r1, rfl, lr1, ur1, x1_6_6⟩
  have hS := St.tr hS h1 (by decide) (by decide)
  refine Tr.sc [(0, r1)] rfl ?_
  refine Tr.istore_n (pc := 4) (i := 1) (ls2 := [(1, (0, r1)), (0, (2, 6))]) d_X5_test_4 rfl (by decide) rfl ?_
  refine Tr.iconst (pc := 5) d_X5_test_5 (by decide) ?_
  refine Tr.istore_n (pc := 6) (i := 2) (ls2 := [(2, (0, 0)), (1, (0, r1)), (0, (2, 6))]) d_X5_test_6 rfl (by decide) rfl ?_
  have J7 : ∀ (n7 : Nat) (M : Mem) (p7_1 p7_2 : Int), St Tru ws_X5_test_6_w4 as_X5_test_6_w4 M0 M → (0 ≤ p7_1 ∧ p7_1 ≤ 1) → (0 ≤ p7_2 ∧ p7_2 ≤ 900) → (p7_1 = 1 → rd M 6 6 = 4) → (900 - p7_2).toNat < n7 → Tr l K 25 mX5_test 7 [(0, (2, 6)), (1, (0, p7_1)), (2, (0, p7_2))] [] M (q_X5_test_6_w4 M0) := by
    intro n7
    induction n7 with
    | zero => intro M p7_1 p7_2 hS bp7_1 bp7_2  y7_p7_1_6_60 hm7; exact absurd hm7 (Nat.not_lt_zero _)
    | succ n7 J7 =>
      intro M p7_1 p7_2 hS bp7_1 bp7_2  y7_p7_1_6_60 hm7
      have y7_p7_1_6_6 : 1 ≤ p7_1 ∧ p7_1 ≤ 1 → rd M 6 6 = 4 := fun hq => y7_p7_1_6_60 (by omega)
      refine Tr.iload_n (pc := 7) (i := 2) d_X5_test_7 rfl rfl ?_
      refine Tr.sipush (pc := 8) d_X5_test_8 rfl (by decide) ?_
      refine Tr.icmp_ge (pc := 11) (tgt := 53) d_X5_test_11 rfl (fun c11 => ?_) (fun c11 => ?_)
      · refine Tr.iload_n (pc := 53) (i := 1) d_X5_test_53 rfl rfl ?_
        exact Tr.zret (pc := 54) d_X5_test_54 rfl (by omega) ⟨hS, _, rfl, by omega, by omega, fun hq => (y7_p7_1_6_6 (by omega))⟩
      · refine Tr.iload_n (pc := 14) (i := 1) d_X5_test_14 rfl rfl ?_
        refine Tr.if_eq (pc := 15) (tgt := 53) d_X5_test_15 rfl (fun c15 => ?_) (fun c15 => ?_)
        · refine Tr.iload_n (pc := 53) (i := 1) d_X5_test_53 rfl rfl ?_
          exact Tr.zret (pc := 54) d_X5_test_54 rfl (by omega) ⟨hS, _, rfl, by omega, by omega, fun hq => absurd hq (by omega)⟩
        · refine Tr.aload_n (pc := 18) (i := 0) d_X5_test_18 rfl rfl ?_
          refine Tr.bipush (pc := 19) d_X5_test_19 rfl (by decide) ?_
          refine Tr.callV (pc := 21) (as := [_]) d_X5_test_21 s_5_71 ok_X5_isOwn rfl rfl (Nat.le_of_ble_eq_true rfl) (Nat.le_of_ble_eq_true rfl) (by decide) (ty_6 hS.1.1) ?_
          refine Tr.imp (Tr.deep (by decide) (sp_X5_isOwn_6_w3 hS.1 ((St.kp hS (by decide) (by decide) (by decide)).trans en_6_2) 19 (by omega))) ?_
          rintro M21 _ ⟨h21, r21, rfl, lr21, ur21⟩
          have hS := St.tr hS h21 (by decide) (by decide)
          refine Tr.sc [(0, r21)] rfl ?_
          refine Tr.if_eq (pc := 24) (tgt := 53) d_X5_test_24 rfl (fun c24 => ?_) (fun c24 => ?_)
          · refine Tr.iload_n (pc := 53) (i := 1) d_X5_test_53 rfl rfl ?_
            exact Tr.zret (pc := 54) d_X5_test_54 rfl (by omega) ⟨hS, _, rfl, by omega, by omega, fun _ => ((St.kp h21 (by decide) (by decide) (by decide)).trans (y7_p7_1_6_6 (by omega)))⟩
          · refine Tr.aload_n (pc := 27) (i := 0) d_X5_test_27 rfl rfl ?_
            refine Tr.callV (pc := 28) (as := []) d_X5_test_28 s_5_74 ok_X5_goOn rfl rfl (Nat.le_of_ble_eq_true rfl) (Nat.le_of_ble_eq_true rfl) (by decide) (ty_6 hS.1.1) ?_
            refine Tr.imp (Tr.deep (by decide) (sp_X5_goOn_6 hS.1 )) ?_
            rintro M28 _ ⟨h28, r28, rfl, lr28, ur28⟩
            have hS := St.tr hS h28 (by decide) (by decide)
            refine Tr.sc [(0, r28)] rfl ?_
            refine Tr.pop (pc := 31) d_X5_test_31 ne01 ?_
            refine Tr.aload_n (pc := 32) (i := 0) d_X5_test_32 rfl rfl ?_
            refine Tr.callV (pc := 33) (as := []) d_X5_test_33 s_5_212 ok_X5_both rfl rfl (Nat.le_of_ble_eq_true rfl) (Nat.le_of_ble_eq_true rfl) (by decide) (ty_6 hS.1.1) ?_
            refine Tr.imp (Tr.deep (by decide) (sp_X5_both_6_w4 hS.1 hE ((St.kp hS (by decide) (by decide) (by decide)).trans en_6_2) ((St.kp hS (by decide) (by decide) (by decide)).trans en_6_3) ((St.kp hS (by decide) (by decide) (by decide)).trans en_6_4) ((St.kp h28 (by decide) (by decide) (by decide)).trans ((St.kp h21 (by decide) (by decide) (by decide)).trans (y7_p7_1_6_6 (by omega)))))) ?_
            rintro M33 _ ⟨h33, r33, rfl, lr33, ur33, x33_6_6⟩
            have hS := St.tr hS h33 (by decide) (by decide)
            refine Tr.sc [(0, r33)] rfl ?_
            refine Tr.istore_n (pc := 36) (i := 1) (ls2 := [(1, (0, r33)), (0, (2, 6)), (2, (0, p7_2))]) d_X5_test_36 rfl (by decide) rfl ?_
            refine Tr.aload_n (pc := 37) (i := 0) d_X5_test_37 rfl rfl ?_
            refine Tr.getf (pc := 38) d_X5_test_38 f_5_32 (by decide) (by decide) (ty_6 hS.1.1) ?_
            refine Tr.tp 35 ((St.kp hS (by decide) (by decide) (by decide)).trans en_6_4) ?_
            refine Tr.bipush (pc := 41) d_X5_test_41 rfl (by decide) ?_
            refine Tr.iconst (pc := 43) d_X5_test_43 (by decide) ?_
            refine Tr.callV (pc := 44) (as := [_, _]) d_X5_test_44 s_5_215 ok_X4_emit rfl rfl (Nat.le_of_ble_eq_true rfl) (Nat.le_of_ble_eq_true rfl) (by decide) (ty_35 hS.1.1) ?_
            refine Tr.imp (Tr.deep (by decide) (sp_X4_emit_35_w10 hS.1.wk 17 (by omega) 0 (by omega) (by omega))) ?_
            rintro M44 _ ⟨h44, rfl⟩
            have hS := St.tr hS h44 (by decide) (by decide)
            refine Tr.sc [] rfl ?_
            refine Tr.iincV (pc := 47) (n2 := (p7_2 + 1)) (ls2 := [(2, (0, (p7_2 + 1))), (1, (0, r33)), (0, (2, 6))]) d_X5_test_47 rfl (by decide) ((w32_id (by omega)).trans (by omega)) rfl ?_
            refine Tr.goto (pc := 50) (tgt := 7) d_X5_test_50 rfl ?_
            refine Tr.pick [2, 1, 0] (ls2 := [(0, (2, 6)), (1, (0, r33)), (2, (0, (p7_2 + 1)))]) rfl ?_
            exact J7 _ _ _ hS (by omega) (by omega) (fun hq => ((St.kp h44 (by decide) (by decide) (by decide)).trans (x33_6_6 (by omega)))) (by omega)
  refine Tr.pick [2, 1, 0] (ls2 := [(0, (2, 6)), (1, (0, r1)), (2, (0, 0))]) rfl ?_
  exact J7 _ _ _ _ hS (by omega) (by omega) (fun hq => (x1_6_6 (by omega))) (Nat.lt_succ_self _)

def ws_X5_plainFact_6_w3 : List (Int × Int) := [(6, 0), (6, 1), (6, 5), (6, 6), (35, 11)]
def as_X5_plainFact_6_w3 : List Int := [44, 45]
def q_X5_plainFact_6_w3 (M0 M' : Mem) (r : Option PV) : Prop := St Tru ws_X5_plainFact_6_w3 as_X5_plainFact_6_w3 M0 M' ∧ ∃ v : Int, r = some (0, v) ∧ 0 ≤ v ∧ v ≤ 1 ∧ ((1 ≤ v ∧ v ≤ 1) → rd M' 6 6 = 3)
set_option maxRecDepth 100000 in
set_option maxHeartbeats 4000000 in
theorem sp_X5_plainFact_6_w3 {l : Launch} {K : EC} {M0 : Mem} {xq : Int} (hI : In Tru M0) (hE : e_all K xq) (en_6_2 : rd M0 6 2 = 2) (en_6_3 : rd M0 6 3 = 27) (en_6_4 : rd M0 6 4 = 35) (en_6_6 : rd M0 6 6 = 3)   : Tr l K 26 mX5_plainFact 0 [(0, (2, 6))] [] M0 (q_X5_plainFact_6_w3 M0) := by
  have hS : St Tru ws_X5_plainFact_6_w3 as_X5_plainFact_6_w3 M0 M0 := St.rf hI
  refine Tr.aload_n (pc := 0) (i := 0) d_X5_plainFact_0 rfl rfl ?_
  refine Tr.bipush (pc := 1) d_X5_plainFact_1 rfl (by decide) ?_
  refine Tr.callV (pc := 3) (as := [_]) d_X5_plainFact_3 s_5_77 ok_X5_isSign rfl rfl (Nat.le_of_ble_eq_true rfl) (Nat.le_of_ble_eq_true rfl) (by decide) (ty_6 hS.1.1) ?_
  refine Tr.imp (Tr.deep (by decide) (sp_X5_isSign_6_w1 hS.1 ((St.kp hS (by decide) (by decide) (by decide)).trans en_6_2) 91 (by omega))) ?_
  rintro M3 _ ⟨h3, r3, rfl, lr3, ur3⟩
  have hS := St.tr hS h3 (by decide) (by decide)
  refine Tr.sc [(0, r3)] rfl ?_
  refine Tr.if_eq (pc := 6) (tgt := 40) d_X5_plainFact_6 rfl (fun c6 => ?_) (fun c6 => ?_)
  · refine Tr.aload_n (pc := 40) (i := 0) d_X5_plainFact_40 rfl rfl ?_
    refine Tr.bipush (pc := 41) d_X5_plainFact_41 rfl (by decide) ?_
    refine Tr.callV (pc := 43) (as := [_]) d_X5_plainFact_43 s_5_71 ok_X5_isOwn rfl rfl (Nat.le_of_ble_eq_true rfl) (Nat.le_of_ble_eq_true rfl) (by decide) (ty_6 hS.1.1) ?_
    refine Tr.imp (Tr.deep (by decide) (sp_X5_isOwn_6_w4 hS.1 ((St.kp hS (by decide) (by decide) (by decide)).trans en_6_2) 22 (by omega))) ?_
    rintro M43 _ ⟨h43, r43, rfl, lr43, ur43⟩
    have hS := St.tr hS h43 (by decide) (by decide)
    refine Tr.sc [(0, r43)] rfl ?_
    refine Tr.if_eq (pc := 46) (tgt := 63) d_X5_plainFact_46 rfl (fun c46 => ?_) (fun c46 => ?_)
    · refine Tr.aload_n (pc := 63) (i := 0) d_X5_plainFact_63 rfl rfl ?_
      refine Tr.bipush (pc := 64) d_X5_plainFact_64 rfl (by decide) ?_
      refine Tr.callV (pc := 66) (as := [_]) d_X5_plainFact_66 s_5_71 ok_X5_isOwn rfl rfl (Nat.le_of_ble_eq_true rfl) (Nat.le_of_ble_eq_true rfl) (by decide) (ty_6 hS.1.1) ?_
      refine Tr.imp (Tr.deep (by decide) (sp_X5_isOwn_6_w4 hS.1 ((St.kp hS (by decide) (by decide) (by decide)).trans en_6_2) 23 (by omega))) ?_
      rintro M66 _ ⟨h66, r66, rfl, lr66, ur66⟩
      have hS := St.tr hS h66 (by decide) (by decide)
      refine Tr.sc [(0, r66)] rfl ?_
      refine Tr.if_eq (pc := 69) (tgt := 106) d_X5_plainFact_69 rfl (fun c69 => ?_) (fun c69 => ?_)
      · refine Tr.aload_n (pc := 106) (i := 0) d_X5_plainFact_106 rfl rfl ?_
        refine Tr.callV (pc := 107) (as := []) d_X5_plainFact_107 s_5_174 ok_X5_sum rfl rfl (Nat.le_of_ble_eq_true rfl) (Nat.le_of_ble_eq_true rfl) (by decide) (ty_6 hS.1.1) ?_
        refine Tr.imp (Tr.deep (by decide) (sp_X5_sum_6_w3 hS.1 hE ((St.kp hS (by decide) (by decide) (by decide)).trans en_6_2) ((St.kp hS (by decide) (by decide) (by decide)).trans en_6_3) ((St.kp hS (by decide) (by decide) (by decide)).trans en_6_4) ((St.kp h66 (by decide) (by decide) (by decide)).trans ((St.kp h43 (by decide) (by decide) (by decide)).trans ((St.kp h3 (by decide) (by decide) (by decide)).trans en_6_6))))) ?_
        rintro M107 _ ⟨h107, r107, rfl, lr107, ur107, x107_6_6⟩
        have hS := St.tr hS h107 (by decide) (by decide)
        refine Tr.sc [(0, r107)] rfl ?_
        refine Tr.if_ne (pc := 110) (tgt := 115) d_X5_plainFact_110 rfl (fun c110 => ?_) (fun c110 => ?_)
        · refine Tr.aload_n (pc := 115) (i := 0) d_X5_plainFact_115 rfl rfl ?_
          refine Tr.bipush (pc := 116) d_X5_plainFact_116 rfl (by decide) ?_
          refine Tr.callV (pc := 118) (as := [_]) d_X5_plainFact_118 s_5_77 ok_X5_isSign rfl rfl (Nat.le_of_ble_eq_true rfl) (Nat.le_of_ble_eq_true rfl) (by decide) (ty_6 hS.1.1) ?_
          refine Tr.imp (Tr.deep (by decide) (sp_X5_isSign_6_w3 hS.1 ((St.kp hS (by decide) (by decide) (by decide)).trans en_6_2) 60 (by omega))) ?_
          rintro M118 _ ⟨h118, r118, rfl, lr118, ur118⟩
          have hS := St.tr hS h118 (by decide) (by decide)
          refine Tr.sc [(0, r118)] rfl ?_
          have J158 : ∀ (M : Mem) (q158_0 : Int), St Tru ws_X5_plainFact_6_w3 as_X5_plainFact_6_w3 M0 M → ((-1) ≤ q158_0 ∧ q158_0 ≤ 15) → rd M 6 6 = 3 → Tr l K 26 mX5_plainFact 158 [(0, (2, 6))] [(0, q158_0)] M (q_X5_plainFact_6_w3 M0) := by
            intro M q158_0 hS bq158_0 k158_6_6
            refine Tr.istore_n (pc := 158) (i := 1) (ls2 := [(1, (0, q158_0)), (0, (2, 6))]) d_X5_plainFact_158 rfl (by decide) rfl ?_
            refine Tr.iload_n (pc := 159) (i := 1) d_X5_plainFact_159 rfl rfl ?_
            refine Tr.if_ge (pc := 160) (tgt := 169) d_X5_plainFact_160 rfl (fun c160 => ?_) (fun c160 => ?_)
            · refine Tr.aload_n (pc := 169) (i := 0) d_X5_plainFact_169 rfl rfl ?_
              refine Tr.callV (pc := 170) (as := []) d_X5_plainFact_170 s_5_74 ok_X5_goOn rfl rfl (Nat.le_of_ble_eq_true rfl) (Nat.le_of_ble_eq_true rfl) (by decide) (ty_6 hS.1.1) ?_
              refine Tr.imp (Tr.deep (by decide) (sp_X5_goOn_6 hS.1 )) ?_
              rintro M170 _ ⟨h170, r170, rfl, lr170, ur170⟩
              have hS := St.tr hS h170 (by decide) (by decide)
              refine Tr.sc [(0, r170)] rfl ?_
              refine Tr.pop (pc := 173) d_X5_plainFact_173 ne01 ?_
              refine Tr.aload_n (pc := 174) (i := 0) d_X5_plainFact_174 rfl rfl ?_
              refine Tr.callV (pc := 175) (as := []) d_X5_plainFact_175 s_5_174 ok_X5_sum rfl rfl (Nat.le_of_ble_eq_true rfl) (Nat.le_of_ble_eq_true rfl) (by decide) (ty_6 hS.1.1) ?_
              refine Tr.imp (Tr.deep (by decide) (sp_X5_sum_6_w3 hS.1 hE ((St.kp hS (by decide) (by decide) (by decide)).trans en_6_2) ((St.kp hS (by decide) (by decide) (by decide)).trans en_6_3) ((St.kp hS (by decide) (by decide) (by decide)).trans en_6_4) ((St.kp h170 (by decide) (by decide) (by decide)).trans k158_6_6))) ?_
              rintro M175 _ ⟨h175, r175, rfl, lr175, ur175, x175_6_6⟩
              have hS := St.tr hS h175 (by decide) (by decide)
              refine Tr.sc [(0, r175)] rfl ?_
              refine Tr.istore_n (pc := 178) (i := 2) (ls2 := [(2, (0, r175)), (1, (0, q158_0)), (0, (2, 6))]) d_X5_plainFact_178 rfl (by decide) rfl ?_
              refine Tr.aload_n (pc := 179) (i := 0) d_X5_plainFact_179 rfl rfl ?_
              refine Tr.getf (pc := 180) d_X5_plainFact_180 f_5_32 (by decide) (by decide) (ty_6 hS.1.1) ?_
              refine Tr.tp 35 ((St.kp hS (by decide) (by decide) (by decide)).trans en_6_4) ?_
              refine Tr.iload_n (pc := 183) (i := 1) d_X5_plainFact_183 rfl rfl ?_
              refine Tr.iconst (pc := 184) d_X5_plainFact_184 (by decide) ?_
              refine Tr.callV (pc := 185) (as := [_, _]) d_X5_plainFact_185 s_5_215 ok_X4_emit rfl rfl (Nat.le_of_ble_eq_true rfl) (Nat.le_of_ble_eq_true rfl) (by decide) (ty_35 hS.1.1) ?_
              refine Tr.imp (Tr.deep (by decide) (sp_X4_emit_35_w8 hS.1.wk q158_0 (by omega) 0 (by omega) (by omega))) ?_
              rintro M185 _ ⟨h185, rfl⟩
              have hS := St.tr hS h185 (by decide) (by decide)
              refine Tr.sc [] rfl ?_
              refine Tr.iload_n (pc := 188) (i := 2) d_X5_plainFact_188 rfl rfl ?_
              exact Tr.zret (pc := 189) d_X5_plainFact_189 rfl (by omega) ⟨hS, _, rfl, by omega, by omega, fun hq => ((St.kp h185 (by decide) (by decide) (by decide)).trans (x175_6_6 (by omega)))⟩
            · refine Tr.aload_n (pc := 163) (i := 0) d_X5_plainFact_163 rfl rfl ?_
              refine Tr.iconst (pc := 164) d_X5_plainFact_164 (by decide) ?_
              refine Tr.callV (pc := 165) (as := [_]) d_X5_plainFact_165 s_5_56 ok_X5_refuse rfl rfl (Nat.le_of_ble_eq_true rfl) (Nat.le_of_ble_eq_true rfl) (by decide) (ty_6 hS.1.1) ?_
              refine Tr.imp (Tr.deep (by decide) (sp_X5_refuse_6_w1 hS.1 ((St.kp hS (by decide) (by decide) (by decide)).trans en_6_2) 1 (by omega))) ?_
              rintro M165 _ ⟨h165, r165, rfl, lr165, ur165⟩
              have hS := St.tr hS h165 (by decide) (by decide)
              refine Tr.sc [(0, r165)] rfl ?_
              exact Tr.zret (pc := 168) d_X5_plainFact_168 rfl (by omega) ⟨hS, _, rfl, by omega, by omega, fun hq => absurd hq (by omega)⟩
          refine Tr.if_eq (pc := 121) (tgt := 129) d_X5_plainFact_121 rfl (fun c121 => ?_) (fun c121 => ?_)
          · refine Tr.aload_n (pc := 129) (i := 0) d_X5_plainFact_129 rfl rfl ?_
            refine Tr.bipush (pc := 130) d_X5_plainFact_130 rfl (by decide) ?_
            refine Tr.callV (pc := 132) (as := [_]) d_X5_plainFact_132 s_5_77 ok_X5_isSign rfl rfl (Nat.le_of_ble_eq_true rfl) (Nat.le_of_ble_eq_true rfl) (by decide) (ty_6 hS.1.1) ?_
            refine Tr.imp (Tr.deep (by decide) (sp_X5_isSign_6_w4 hS.1 ((St.kp hS (by decide) (by decide) (by decide)).trans en_6_2) 62 (by omega))) ?_
            rintro M132 _ ⟨h132, r132, rfl, lr132, ur132⟩
            have hS := St.tr hS h132 (by decide) (by decide)
            refine Tr.sc [(0, r132)] rfl ?_
            refine Tr.if_eq (pc := 135) (tgt := 143) d_X5_plainFact_135 rfl (fun c135 => ?_) (fun c135 => ?_)
            · refine Tr.aload_n (pc := 143) (i := 0) d_X5_plainFact_143 rfl rfl ?_
              refine Tr.bipush (pc := 144) d_X5_plainFact_144 rfl (by decide) ?_
              refine Tr.callV (pc := 146) (as := [_]) d_X5_plainFact_146 s_5_77 ok_X5_isSign rfl rfl (Nat.le_of_ble_eq_true rfl) (Nat.le_of_ble_eq_true rfl) (by decide) (ty_6 hS.1.1) ?_
              refine Tr.imp (Tr.deep (by decide) (sp_X5_isSign_6_w4 hS.1 ((St.kp hS (by decide) (by decide) (by decide)).trans en_6_2) 61 (by omega))) ?_
              rintro M146 _ ⟨h146, r146, rfl, lr146, ur146⟩
              have hS := St.tr hS h146 (by decide) (by decide)
              refine Tr.sc [(0, r146)] rfl ?_
              refine Tr.if_eq (pc := 149) (tgt := 157) d_X5_plainFact_149 rfl (fun c149 => ?_) (fun c149 => ?_)
              · refine Tr.iconst (pc := 157) d_X5_plainFact_157 (by decide) ?_
                refine Tr.pick [0] (ls2 := [(0, (2, 6))]) rfl ?_
                exact J158 _ _ hS (by omega) ((St.kp h146 (by decide) (by decide) (by decide)).trans ((St.kp h132 (by decide) (by decide) (by decide)).trans ((St.kp h118 (by decide) (by decide) (by decide)).trans (x107_6_6 (by omega)))))
              · refine Tr.bipush (pc := 152) d_X5_plainFact_152 rfl (by decide) ?_
                refine Tr.goto (pc := 154) (tgt := 158) d_X5_plainFact_154 rfl ?_
                refine Tr.pick [0] (ls2 := [(0, (2, 6))]) rfl ?_
                exact J158 _ _ hS (by omega) ((St.kp h146 (by decide) (by decide) (by decide)).trans ((St.kp h132 (by decide) (by decide) (by decide)).trans ((St.kp h118 (by decide) (by decide) (by decide)).trans (x107_6_6 (by omega)))))
            · refine Tr.bipush (pc := 138) d_X5_plainFact_138 rfl (by decide) ?_
              refine Tr.goto (pc := 140) (tgt := 158) d_X5_plainFact_140 rfl ?_
              refine Tr.pick [0] (ls2 := [(0, (2, 6))]) rfl ?_
              exact J158 _ _ hS (by omega) ((St.kp h132 (by decide) (by decide) (by decide)).trans ((St.kp h118 (by decide) (by decide) (by decide)).trans (x107_6_6 (by omega))))
          · refine Tr.bipush (pc := 124) d_X5_plainFact_124 rfl (by decide) ?_
            refine Tr.goto (pc := 126) (tgt := 158) d_X5_plainFact_126 rfl ?_
            refine Tr.pick [0] (ls2 := [(0, (2, 6))]) rfl ?_
            exact J158 _ _ hS (by omega) ((St.kp h118 (by decide) (by decide) (by decide)).trans (x107_6_6 (by omega)))
        · refine Tr.iconst (pc := 113) d_X5_plainFact_113 (by decide) ?_
          exact Tr.zret (pc := 114) d_X5_plainFact_114 rfl (by omega) ⟨hS, _, rfl, by omega, by omega, fun hq => absurd hq (by omega)⟩
      · refine Tr.aload_n (pc := 72) (i := 0) d_X5_plainFact_72 rfl rfl ?_
        refine Tr.callV (pc := 73) (as := []) d_X5_plainFact_73 s_5_74 ok_X5_goOn rfl rfl (Nat.le_of_ble_eq_true rfl) (Nat.le_of_ble_eq_true rfl) (by decide) (ty_6 hS.1.1) ?_
        refine Tr.imp (Tr.deep (by decide) (sp_X5_goOn_6 hS.1 )) ?_
        rintro M73 _ ⟨h73, r73, rfl, lr73, ur73⟩
        have hS := St.tr hS h73 (by decide) (by decide)
        refine Tr.sc [(0, r73)] rfl ?_
        refine Tr.pop (pc := 76) d_X5_plainFact_76 ne01 ?_
        refine Tr.aload_n (pc := 77) (i := 0) d_X5_plainFact_77 rfl rfl ?_
        refine Tr.iconst (pc := 78) d_X5_plainFact_78 (by decide) ?_
        refine Tr.callV (pc := 79) (as := [_]) d_X5_plainFact_79 s_5_186 ok_X5_takeName rfl rfl (Nat.le_of_ble_eq_true rfl) (Nat.le_of_ble_eq_true rfl) (by decide) (ty_6 hS.1.1) ?_
        refine Tr.imp (Tr.deep (by decide) (sp_X5_takeName_6_v0 hS.1 hE ((St.kp hS (by decide) (by decide) (by decide)).trans en_6_2) ((St.kp hS (by decide) (by decide) (by decide)).trans en_6_3))) ?_
        rintro M79 _ ⟨h79, r79, rfl, lr79, ur79⟩
        have hS := St.tr hS h79 (by decide) (by decide)
        refine Tr.sc [(0, r79)] rfl ?_
        refine Tr.istore_n (pc := 82) (i := 1) (ls2 := [(1, (0, r79)), (0, (2, 6))]) d_X5_plainFact_82 rfl (by decide) rfl ?_
        refine Tr.aload_n (pc := 83) (i := 0) d_X5_plainFact_83 rfl rfl ?_
        refine Tr.getf (pc := 84) d_X5_plainFact_84 f_5_32 (by decide) (by decide) (ty_6 hS.1.1) ?_
        refine Tr.tp 35 ((St.kp hS (by decide) (by decide) (by decide)).trans en_6_4) ?_
        refine Tr.iconst (pc := 87) d_X5_plainFact_87 (by decide) ?_
        refine Tr.iload_n (pc := 88) (i := 1) d_X5_plainFact_88 rfl rfl ?_
        refine Tr.iconst (pc := 89) d_X5_plainFact_89 (by decide) ?_
        refine Tr.mmax (pc := 90) d_X5_plainFact_90 ml_5_192 mw_mmax (Nat.le_of_ble_eq_true rfl) ?_
        refine Tr.gen (P := fun v => (v = r79 ∧ 0 ≤ r79) ∨ (v = 0 ∧ r79 ≤ 0)) (f_max_p _ _) (fun r90 er90 br90 => ?_)
        refine Tr.callV (pc := 93) (as := [_, _]) d_X5_plainFact_93 s_5_215 ok_X4_emit rfl rfl (Nat.le_of_ble_eq_true rfl) (Nat.le_of_ble_eq_true rfl) (by decide) (ty_35 hS.1.1) ?_
        refine Tr.imp (Tr.deep (by decide) (sp_X4_emit_35_w7 hS.1.wk 4 (by omega) r90 (by omega) (by omega))) ?_
        rintro M93 _ ⟨h93, rfl⟩
        have hS := St.tr hS h93 (by decide) (by decide)
        refine Tr.sc [] rfl ?_
        refine Tr.iload_n (pc := 96) (i := 1) d_X5_plainFact_96 rfl rfl ?_
        refine Tr.if_lt (pc := 97) (tgt := 104) d_X5_plainFact_97 rfl (fun c97 => ?_) (fun c97 => ?_)
        · refine Tr.iconst (pc := 104) d_X5_plainFact_104 (by decide) ?_
          exact Tr.zret (pc := 105) d_X5_plainFact_105 rfl (by omega) ⟨hS, _, rfl, by omega, by omega, fun hq => absurd hq (by omega)⟩
        · refine Tr.iconst (pc := 100) d_X5_plainFact_100 (by decide) ?_
          refine Tr.goto (pc := 101) (tgt := 105) d_X5_plainFact_101 rfl ?_
          exact Tr.zret (pc := 105) d_X5_plainFact_105 rfl (by omega) ⟨hS, _, rfl, by omega, by omega, fun _ => ((St.kp h93 (by decide) (by decide) (by decide)).trans ((St.kp h79 (by decide) (by decide) (by decide)).trans ((St.kp h73 (by decide) (by decide) (by decide)).trans ((St.kp h66 (by decide) (by decide) (by decide)).trans ((St.kp h43 (by decide) (by decide) (by decide)).trans ((St.kp h3 (by decide) (by decide) (by decide)).trans en_6_6))))))⟩
    · refine Tr.aload_n (pc := 49) (i := 0) d_X5_plainFact_49 rfl rfl ?_
      refine Tr.getf (pc := 50) d_X5_plainFact_50 f_5_32 (by decide) (by decide) (ty_6 hS.1.1) ?_
      refine Tr.tp 35 ((St.kp hS (by decide) (by decide) (by decide)).trans en_6_4) ?_
      refine Tr.iconst (pc := 53) d_X5_plainFact_53 (by decide) ?_
      refine Tr.iconst (pc := 54) d_X5_plainFact_54 (by decide) ?_
      refine Tr.callV (pc := 55) (as := [_, _]) d_X5_plainFact_55 s_5_215 ok_X4_emit rfl rfl (Nat.le_of_ble_eq_true rfl) (Nat.le_of_ble_eq_true rfl) (by decide) (ty_35 hS.1.1) ?_
      refine Tr.imp (Tr.deep (by decide) (sp_X4_emit_35_w3 hS.1.wk 0 (by omega) 1 (by omega) (by omega))) ?_
      rintro M55 _ ⟨h55, rfl⟩
      have hS := St.tr hS h55 (by decide) (by decide)
      refine Tr.sc [] rfl ?_
      refine Tr.aload_n (pc := 58) (i := 0) d_X5_plainFact_58 rfl rfl ?_
      refine Tr.callV (pc := 59) (as := []) d_X5_plainFact_59 s_5_74 ok_X5_goOn rfl rfl (Nat.le_of_ble_eq_true rfl) (Nat.le_of_ble_eq_true rfl) (by decide) (ty_6 hS.1.1) ?_
      refine Tr.imp (Tr.deep (by decide) (sp_X5_goOn_6 hS.1 )) ?_
      rintro M59 _ ⟨h59, r59, rfl, lr59, ur59⟩
      have hS := St.tr hS h59 (by decide) (by decide)
      refine Tr.sc [(0, r59)] rfl ?_
      exact Tr.zret (pc := 62) d_X5_plainFact_62 rfl (by omega) ⟨hS, _, rfl, by omega, by omega, fun _ => ((St.kp h59 (by decide) (by decide) (by decide)).trans ((St.kp h55 (by decide) (by decide) (by decide)).trans ((St.kp h43 (by decide) (by decide) (by decide)).trans ((St.kp h3 (by decide) (by decide) (by decide)).trans en_6_6))))⟩
  · refine Tr.aload_n (pc := 9) (i := 0) d_X5_plainFact_9 rfl rfl ?_
    refine Tr.bipush (pc := 10) d_X5_plainFact_10 rfl (by decide) ?_
    refine Tr.callV (pc := 12) (as := [_]) d_X5_plainFact_12 s_5_206 ok_X5_takeOpening rfl rfl (Nat.le_of_ble_eq_true rfl) (Nat.le_of_ble_eq_true rfl) (by decide) (ty_6 hS.1.1) ?_
    refine Tr.imp (Tr.deep (by decide) (sp_X5_takeOpening_6_w12 hS.1 ((St.kp hS (by decide) (by decide) (by decide)).trans en_6_2) ((St.kp h3 (by decide) (by decide) (by decide)).trans en_6_6) 91 (by omega))) ?_
    rintro M12 _ ⟨h12, r12, rfl, lr12, ur12, x12_6_6⟩
    have hS := St.tr hS h12 (by decide) (by decide)
    refine Tr.sc [(0, r12)] rfl ?_
    refine Tr.if_eq (pc := 15) (tgt := 38) d_X5_plainFact_15 rfl (fun c15 => ?_) (fun c15 => ?_)
    · refine Tr.iconst (pc := 38) d_X5_plainFact_38 (by decide) ?_
      exact Tr.zret (pc := 39) d_X5_plainFact_39 rfl (by omega) ⟨hS, _, rfl, by omega, by omega, fun hq => absurd hq (by omega)⟩
    · refine Tr.aload_n (pc := 18) (i := 0) d_X5_plainFact_18 rfl rfl ?_
      refine Tr.callV (pc := 19) (as := []) d_X5_plainFact_19 s_5_177 ok_X5_test rfl rfl (Nat.le_of_ble_eq_true rfl) (Nat.le_of_ble_eq_true rfl) (by decide) (ty_6 hS.1.1) ?_
      refine Tr.imp (Tr.deep (by decide) (sp_X5_test_6_w4 hS.1 hE ((St.kp hS (by decide) (by decide) (by decide)).trans en_6_2) ((St.kp hS (by decide) (by decide) (by decide)).trans en_6_3) ((St.kp hS (by decide) (by decide) (by decide)).trans en_6_4) (x12_6_6 (by omega)))) ?_
      rintro M19 _ ⟨h19, r19, rfl, lr19, ur19, x19_6_6⟩
      have hS := St.tr hS h19 (by decide) (by decide)
      refine Tr.sc [(0, r19)] rfl ?_
      refine Tr.if_eq (pc := 22) (tgt := 38) d_X5_plainFact_22 rfl (fun c22 => ?_) (fun c22 => ?_)
      · refine Tr.iconst (pc := 38) d_X5_plainFact_38 (by decide) ?_
        exact Tr.zret (pc := 39) d_X5_plainFact_39 rfl (by omega) ⟨hS, _, rfl, by omega, by omega, fun hq => absurd hq (by omega)⟩
      · refine Tr.aload_n (pc := 25) (i := 0) d_X5_plainFact_25 rfl rfl ?_
        refine Tr.bipush (pc := 26) d_X5_plainFact_26 rfl (by decide) ?_
        refine Tr.callV (pc := 28) (as := [_]) d_X5_plainFact_28 s_5_209 ok_X5_takeClosing rfl rfl (Nat.le_of_ble_eq_true rfl) (Nat.le_of_ble_eq_true rfl) (by decide) (ty_6 hS.1.1) ?_
        refine Tr.imp (Tr.deep (by decide) (sp_X5_takeClosing_6_w12 hS.1 ((St.kp hS (by decide) (by decide) (by decide)).trans en_6_2) (x19_6_6 (by omega)) 93 (by omega))) ?_
        rintro M28 _ ⟨h28, r28, rfl, lr28, ur28, x28_6_6⟩
        have hS := St.tr hS h28 (by decide) (by decide)
        refine Tr.sc [(0, r28)] rfl ?_
        refine Tr.if_eq (pc := 31) (tgt := 38) d_X5_plainFact_31 rfl (fun c31 => ?_) (fun c31 => ?_)
        · refine Tr.iconst (pc := 38) d_X5_plainFact_38 (by decide) ?_
          exact Tr.zret (pc := 39) d_X5_plainFact_39 rfl (by omega) ⟨hS, _, rfl, by omega, by omega, fun hq => absurd hq (by omega)⟩
        · refine Tr.iconst (pc := 34) d_X5_plainFact_34 (by decide) ?_
          refine Tr.goto (pc := 35) (tgt := 39) d_X5_plainFact_35 rfl ?_
          exact Tr.zret (pc := 39) d_X5_plainFact_39 rfl (by omega) ⟨hS, _, rfl, by omega, by omega, fun _ => (x28_6_6 (by omega))⟩

def ws_X5_fact_6_w3 : List (Int × Int) := [(6, 0), (6, 1), (6, 5), (6, 6), (35, 11)]
def as_X5_fact_6_w3 : List Int := [44, 45]
def q_X5_fact_6_w3 (M0 M' : Mem) (r : Option PV) : Prop := St Tru ws_X5_fact_6_w3 as_X5_fact_6_w3 M0 M' ∧ ∃ v : Int, r = some (0, v) ∧ 0 ≤ v ∧ v ≤ 1 ∧ ((1 ≤ v ∧ v ≤ 1) → rd M' 6 6 = 3)
set_option maxRecDepth 100000 in
set_option maxHeartbeats 4000000 in
theorem sp_X5_fact_6_w3 {l : Launch} {K : EC} {M0 : Mem} {xq : Int} (hI : In Tru M0) (hE : e_all K xq) (en_6_2 : rd M0 6 2 = 2) (en_6_3 : rd M0 6 3 = 27) (en_6_4 : rd M0 6 4 = 35) (en_6_6 : rd M0 6 6 = 3)   : Tr l K 27 mX5_fact 0 [(0, (2, 6))] [] M0 (q_X5_fact_6_w3 M0) := by
  have hS : St Tru ws_X5_fact_6_w3 as_X5_fact_6_w3 M0 M0 := St.rf hI
  refine Tr.iconst (pc := 0) d_X5_fact_0 (by decide) ?_
  refine Tr.istore_n (pc := 1) (i := 1) (ls2 := [(1, (0, 0)), (0, (2, 6))]) d_X5_fact_1 rfl (by decide) rfl ?_
  refine Tr.iconst (pc := 2) d_X5_fact_2 (by decide) ?_
  refine Tr.istore_n (pc := 3) (i := 2) (ls2 := [(2, (0, 0)), (1, (0, 0)), (0, (2, 6))]) d_X5_fact_3 rfl (by decide) rfl ?_
  have J4 : ∀ (n4 : Nat) (M : Mem) (p4_1 p4_2 : Int), St Tru ws_X5_fact_6_w3 as_X5_fact_6_w3 M0 M → (0 ≤ p4_1 ∧ p4_1 ≤ 1) → (0 ≤ p4_2 ∧ p4_2 ≤ 900) → rd M 6 6 = 3 → (900 - p4_2).toNat < n4 → Tr l K 27 mX5_fact 4 [(0, (2, 6)), (1, (0, p4_1)), (2, (0, p4_2))] [] M (q_X5_fact_6_w3 M0) := by
    intro n4
    induction n4 with
    | zero => intro M p4_1 p4_2 hS bp4_1 bp4_2 k4_6_6 hm4; exact absurd hm4 (Nat.not_lt_zero _)
    | succ n4 J4 =>
      intro M p4_1 p4_2 hS bp4_1 bp4_2 k4_6_6 hm4
      refine Tr.iload_n (pc := 4) (i := 2) d_X5_fact_4 rfl rfl ?_
      refine Tr.sipush (pc := 5) d_X5_fact_5 rfl (by decide) ?_
      have J41 : ∀ (M : Mem), St Tru ws_X5_fact_6_w3 as_X5_fact_6_w3 M0 M → rd M 6 6 = 3 → Tr l K 27 mX5_fact 41 [(0, (2, 6)), (1, (0, p4_1))] [] M (q_X5_fact_6_w3 M0) := by
        intro M  hS  k41_6_6
        refine Tr.aload_n (pc := 41) (i := 0) d_X5_fact_41 rfl rfl ?_
        refine Tr.callV (pc := 42) (as := []) d_X5_fact_42 s_5_221 ok_X5_plainFact rfl rfl (Nat.le_of_ble_eq_true rfl) (Nat.le_of_ble_eq_true rfl) (by decide) (ty_6 hS.1.1) ?_
        refine Tr.imp (Tr.deep (by decide) (sp_X5_plainFact_6_w3 hS.1 hE ((St.kp hS (by decide) (by decide) (by decide)).trans en_6_2) ((St.kp hS (by decide) (by decide) (by decide)).trans en_6_3) ((St.kp hS (by decide) (by decide) (by decide)).trans en_6_4) k41_6_6)) ?_
        rintro M42 _ ⟨h42, r42, rfl, lr42, ur42, x42_6_6⟩
        have hS := St.tr hS h42 (by decide) (by decide)
        refine Tr.sc [(0, r42)] rfl ?_
        refine Tr.istore_n (pc := 45) (i := 2) (ls2 := [(2, (0, r42)), (0, (2, 6)), (1, (0, p4_1))]) d_X5_fact_45 rfl (by decide) rfl ?_
        refine Tr.iload_n (pc := 46) (i := 1) d_X5_fact_46 rfl rfl ?_
        refine Tr.if_eq (pc := 47) (tgt := 59) d_X5_fact_47 rfl (fun c47 => ?_) (fun c47 => ?_)
        · refine Tr.iload_n (pc := 59) (i := 2) d_X5_fact_59 rfl rfl ?_
          exact Tr.zret (pc := 60) d_X5_fact_60 rfl (by omega) ⟨hS, _, rfl, by omega, by omega, fun hq => (x42_6_6 (by omega))⟩
        · refine Tr.aload_n (pc := 50) (i := 0) d_X5_fact_50 rfl rfl ?_
          refine Tr.getf (pc := 51) d_X5_fact_51 f_5_32 (by decide) (by decide) (ty_6 hS.1.1) ?_
          refine Tr.tp 35 ((St.kp hS (by decide) (by decide) (by decide)).trans en_6_4) ?_
          refine Tr.iconst (pc := 54) d_X5_fact_54 (by decide) ?_
          refine Tr.iconst (pc := 55) d_X5_fact_55 (by decide) ?_
          refine Tr.callV (pc := 56) (as := [_, _]) d_X5_fact_56 s_5_215 ok_X4_emit rfl rfl (Nat.le_of_ble_eq_true rfl) (Nat.le_of_ble_eq_true rfl) (by decide) (ty_35 hS.1.1) ?_
          refine Tr.imp (Tr.deep (by decide) (sp_X4_emit_35_w7 hS.1.wk 5 (by omega) 0 (by omega) (by omega))) ?_
          rintro M56 _ ⟨h56, rfl⟩
          have hS := St.tr hS h56 (by decide) (by decide)
          refine Tr.sc [] rfl ?_
          refine Tr.iload_n (pc := 59) (i := 2) d_X5_fact_59 rfl rfl ?_
          exact Tr.zret (pc := 60) d_X5_fact_60 rfl (by omega) ⟨hS, _, rfl, by omega, by omega, fun hq => ((St.kp h56 (by decide) (by decide) (by decide)).trans (x42_6_6 (by omega)))⟩
      refine Tr.icmp_ge (pc := 8) (tgt := 41) d_X5_fact_8 rfl (fun c8 => ?_) (fun c8 => ?_)
      · refine Tr.pick [0, 1] (ls2 := [(0, (2, 6)), (1, (0, p4_1))]) rfl ?_
        exact J41 _ hS k4_6_6
      · refine Tr.aload_n (pc := 11) (i := 0) d_X5_fact_11 rfl rfl ?_
        refine Tr.bipush (pc := 12) d_X5_fact_12 rfl (by decide) ?_
        refine Tr.callV (pc := 14) (as := [_]) d_X5_fact_14 s_5_71 ok_X5_isOwn rfl rfl (Nat.le_of_ble_eq_true rfl) (Nat.le_of_ble_eq_true rfl) (by decide) (ty_6 hS.1.1) ?_
        refine Tr.imp (Tr.deep (by decide) (sp_X5_isOwn_6_w4 hS.1 ((St.kp hS (by decide) (by decide) (by decide)).trans en_6_2) 21 (by omega))) ?_
        rintro M14 _ ⟨h14, r14, rfl, lr14, ur14⟩
        have hS := St.tr hS h14 (by decide) (by decide)
        refine Tr.sc [(0, r14)] rfl ?_
        refine Tr.if_eq (pc := 17) (tgt := 41) d_X5_fact_17 rfl (fun c17 => ?_) (fun c17 => ?_)
        · refine Tr.pick [0, 1] (ls2 := [(0, (2, 6)), (1, (0, p4_1))]) rfl ?_
          exact J41 _ hS ((St.kp h14 (by decide) (by decide) (by decide)).trans k4_6_6)
        · refine Tr.aload_n (pc := 20) (i := 0) d_X5_fact_20 rfl rfl ?_
          refine Tr.callV (pc := 21) (as := []) d_X5_fact_21 s_5_74 ok_X5_goOn rfl rfl (Nat.le_of_ble_eq_true rfl) (Nat.le_of_ble_eq_true rfl) (by decide) (ty_6 hS.1.1) ?_
          refine Tr.imp (Tr.deep (by decide) (sp_X5_goOn_6 hS.1 )) ?_
          rintro M21 _ ⟨h21, r21, rfl, lr21, ur21⟩
          have hS := St.tr hS h21 (by decide) (by decide)
          refine Tr.sc [(0, r21)] rfl ?_
          refine Tr.pop (pc := 24) d_X5_fact_24 ne01 ?_
          refine Tr.iload_n (pc := 25) (i := 1) d_X5_fact_25 rfl rfl ?_
          have J34 : ∀ (M : Mem) (q34_0 : Int), St Tru ws_X5_fact_6_w3 as_X5_fact_6_w3 M0 M → (0 ≤ q34_0 ∧ q34_0 ≤ 1) → rd M 6 6 = 3 → Tr l K 27 mX5_fact 34 [(0, (2, 6)), (2, (0, p4_2))] [(0, q34_0)] M (q_X5_fact_6_w3 M0) := by
            intro M q34_0 hS bq34_0 k34_6_6
            refine Tr.istore_n (pc := 34) (i := 1) (ls2 := [(1, (0, q34_0)), (0, (2, 6)), (2, (0, p4_2))]) d_X5_fact_34 rfl (by decide) rfl ?_
            refine Tr.iincV (pc := 35) (n2 := (p4_2 + 1)) (ls2 := [(2, (0, (p4_2 + 1))), (1, (0, q34_0)), (0, (2, 6))]) d_X5_fact_35 rfl (by decide) ((w32_id (by omega)).trans (by omega)) rfl ?_
            refine Tr.goto (pc := 38) (tgt := 4) d_X5_fact_38 rfl ?_
            refine Tr.pick [2, 1, 0] (ls2 := [(0, (2, 6)), (1, (0, q34_0)), (2, (0, (p4_2 + 1)))]) rfl ?_
            exact J4 _ _ _ hS (by omega) (by omega) k34_6_6 (by omega)
          refine Tr.if_ne (pc := 26) (tgt := 33) d_X5_fact_26 rfl (fun c26 => ?_) (fun c26 => ?_)
          · refine Tr.iconst (pc := 33) d_X5_fact_33 (by decide) ?_
            refine Tr.pick [0, 2] (ls2 := [(0, (2, 6)), (2, (0, p4_2))]) rfl ?_
            exact J34 _ _ hS (by omega) ((St.kp h21 (by decide) (by decide) (by decide)).trans ((St.kp h14 (by decide) (by decide) (by decide)).trans k4_6_6))
          · refine Tr.iconst (pc := 29) d_X5_fact_29 (by decide) ?_
            refine Tr.goto (pc := 30) (tgt := 34) d_X5_fact_30 rfl ?_
            refine Tr.pick [0, 2] (ls2 := [(0, (2, 6)), (2, (0, p4_2))]) rfl ?_
            exact J34 _ _ hS (by omega) ((St.kp h21 (by decide) (by decide) (by decide)).trans ((St.kp h14 (by decide) (by decide) (by decide)).trans k4_6_6))
  refine Tr.pick [2, 1, 0] (ls2 := [(0, (2, 6)), (1, (0, 0)), (2, (0, 0))]) rfl ?_
  exact J4 _ _ _ _ hS (by omega) (by omega) en_6_6 (Nat.lt_succ_self _)

def ws_X5_both_6_w3 : List (Int × Int) := [(6, 0), (6, 1), (6, 5), (6, 6), (35, 11)]
def as_X5_both_6_w3 : List Int := [44, 45]
def q_X5_both_6_w3 (M0 M' : Mem) (r : Option PV) : Prop := St Tru ws_X5_both_6_w3 as_X5_both_6_w3 M0 M' ∧ ∃ v : Int, r = some (0, v) ∧ 0 ≤ v ∧ v ≤ 1 ∧ ((1 ≤ v ∧ v ≤ 1) → rd M' 6 6 = 3)
set_option maxRecDepth 100000 in
set_option maxHeartbeats 4000000 in
theorem sp_X5_both_6_w3 {l : Launch} {K : EC} {M0 : Mem} {xq : Int} (hI : In Tru M0) (hE : e_all K xq) (en_6_2 : rd M0 6 2 = 2) (en_6_3 : rd M0 6 3 = 27) (en_6_4 : rd M0 6 4 = 35) (en_6_6 : rd M0 6 6 = 3)   : Tr l K 28 mX5_both 0 [(0, (2, 6))] [] M0 (q_X5_both_6_w3 M0) := by
  have hS : St Tru ws_X5_both_6_w3 as_X5_both_6_w3 M0 M0 := St.rf hI
  refine Tr.aload_n (pc := 0) (i := 0) d_X5_both_0 rfl rfl ?_
  refine Tr.callV (pc := 1) (as := []) d_X5_both_1 s_5_218 ok_X5_fact rfl rfl (Nat.le_of_ble_eq_true rfl) (Nat.le_of_ble_eq_true rfl) (by decide) (ty_6 hS.1.1) ?_
  refine Tr.imp (Tr.deep (by decide) (sp_X5_fact_6_w3 hS.1 hE ((St.kp hS (by decide) (by decide) (by decide)).trans en_6_2) ((St.kp hS (by decide) (by decide) (by decide)).trans en_6_3) ((St.kp hS (by decide) (by decide) (by decide)).trans en_6_4) en_6_6)) ?_
  rintro M1 _ ⟨h1, r1, rfl, lr1, ur1, x1_6_6⟩
  have hS := St.tr hS h1 (by decide) (by decide)
  refine Tr.sc [(0, r1)] rfl ?_
  refine Tr.istore_n (pc := 4) (i := 1) (ls2 := [(1, (0, r1)), (0, (2, 6))]) d_X5_both_4 rfl (by decide) rfl ?_
  refine Tr.iconst (pc := 5) d_X5_both_5 (by decide) ?_
  refine Tr.istore_n (pc := 6) (i := 2) (ls2 := [(2, (0, 0)), (1, (0, r1)), (0, (2, 6))]) d_X5_both_6 rfl (by decide) rfl ?_
  have J7 : ∀ (n7 : Nat) (M : Mem) (p7_1 p7_2 : Int), St Tru ws_X5_both_6_w3 as_X5_both_6_w3 M0 M → (0 ≤ p7_1 ∧ p7_1 ≤ 1) → (0 ≤ p7_2 ∧ p7_2 ≤ 900) → (p7_1 = 1 → rd M 6 6 = 3) → (900 - p7_2).toNat < n7 → Tr l K 28 mX5_both 7 [(0, (2, 6)), (1, (0, p7_1)), (2, (0, p7_2))] [] M (q_X5_both_6_w3 M0) := by
    intro n7
    induction n7 with
    | zero => intro M p7_1 p7_2 hS bp7_1 bp7_2  y7_p7_1_6_60 hm7; exact absurd hm7 (Nat.not_lt_zero _)
    | succ n7 J7 =>
      intro M p7_1 p7_2 hS bp7_1 bp7_2  y7_p7_1_6_60 hm7
      have y7_p7_1_6_6 : 1 ≤ p7_1 ∧ p7_1 ≤ 1 → rd M 6 6 = 3 := fun hq => y7_p7_1_6_60 (by omega)
      refine Tr.iload_n (pc := 7) (i := 2) d_X5_both_7 rfl rfl ?_
      refine Tr.sipush (pc := 8) d_X5_both_8 rfl (by decide) ?_
      refine Tr.icmp_ge (pc := 11) (tgt := 53) d_X5_both_11 rfl (fun c11 => ?_) (fun c11 => ?_)
      · refine Tr.iload_n (pc := 53) (i := 1) d_X5_both_53 rfl rfl ?_
        exact Tr.zret (pc := 54) d_X5_both_54 rfl (by omega) ⟨hS, _, rfl, by omega, by omega, fun hq => (y7_p7_1_6_6 (by omega))⟩
      · refine Tr.iload_n (pc := 14) (i := 1) d_X5_both_14 rfl rfl ?_
        refine Tr.if_eq (pc := 15) (tgt := 53) d_X5_both_15 rfl (fun c15 => ?_) (fun c15 => ?_)
        · refine Tr.iload_n (pc := 53) (i := 1) d_X5_both_53 rfl rfl ?_
          exact Tr.zret (pc := 54) d_X5_both_54 rfl (by omega) ⟨hS, _, rfl, by omega, by omega, fun hq => absurd hq (by omega)⟩
        · refine Tr.aload_n (pc := 18) (i := 0) d_X5_both_18 rfl rfl ?_
          refine Tr.bipush (pc := 19) d_X5_both_19 rfl (by decide) ?_
          refine Tr.callV (pc := 21) (as := [_]) d_X5_both_21 s_5_71 ok_X5_isOwn rfl rfl (Nat.le_of_ble_eq_true rfl) (Nat.le_of_ble_eq_true rfl) (by decide) (ty_6 hS.1.1) ?_
          refine Tr.imp (Tr.deep (by decide) (sp_X5_isOwn_6_w3 hS.1 ((St.kp hS (by decide) (by decide) (by decide)).trans en_6_2) 20 (by omega))) ?_
          rintro M21 _ ⟨h21, r21, rfl, lr21, ur21⟩
          have hS := St.tr hS h21 (by decide) (by decide)
          refine Tr.sc [(0, r21)] rfl ?_
          refine Tr.if_eq (pc := 24) (tgt := 53) d_X5_both_24 rfl (fun c24 => ?_) (fun c24 => ?_)
          · refine Tr.iload_n (pc := 53) (i := 1) d_X5_both_53 rfl rfl ?_
            exact Tr.zret (pc := 54) d_X5_both_54 rfl (by omega) ⟨hS, _, rfl, by omega, by omega, fun _ => ((St.kp h21 (by decide) (by decide) (by decide)).trans (y7_p7_1_6_6 (by omega)))⟩
          · refine Tr.aload_n (pc := 27) (i := 0) d_X5_both_27 rfl rfl ?_
            refine Tr.callV (pc := 28) (as := []) d_X5_both_28 s_5_74 ok_X5_goOn rfl rfl (Nat.le_of_ble_eq_true rfl) (Nat.le_of_ble_eq_true rfl) (by decide) (ty_6 hS.1.1) ?_
            refine Tr.imp (Tr.deep (by decide) (sp_X5_goOn_6 hS.1 )) ?_
            rintro M28 _ ⟨h28, r28, rfl, lr28, ur28⟩
            have hS := St.tr hS h28 (by decide) (by decide)
            refine Tr.sc [(0, r28)] rfl ?_
            refine Tr.pop (pc := 31) d_X5_both_31 ne01 ?_
            refine Tr.aload_n (pc := 32) (i := 0) d_X5_both_32 rfl rfl ?_
            refine Tr.callV (pc := 33) (as := []) d_X5_both_33 s_5_218 ok_X5_fact rfl rfl (Nat.le_of_ble_eq_true rfl) (Nat.le_of_ble_eq_true rfl) (by decide) (ty_6 hS.1.1) ?_
            refine Tr.imp (Tr.deep (by decide) (sp_X5_fact_6_w3 hS.1 hE ((St.kp hS (by decide) (by decide) (by decide)).trans en_6_2) ((St.kp hS (by decide) (by decide) (by decide)).trans en_6_3) ((St.kp hS (by decide) (by decide) (by decide)).trans en_6_4) ((St.kp h28 (by decide) (by decide) (by decide)).trans ((St.kp h21 (by decide) (by decide) (by decide)).trans (y7_p7_1_6_6 (by omega)))))) ?_
            rintro M33 _ ⟨h33, r33, rfl, lr33, ur33, x33_6_6⟩
            have hS := St.tr hS h33 (by decide) (by decide)
            refine Tr.sc [(0, r33)] rfl ?_
            refine Tr.istore_n (pc := 36) (i := 1) (ls2 := [(1, (0, r33)), (0, (2, 6)), (2, (0, p7_2))]) d_X5_both_36 rfl (by decide) rfl ?_
            refine Tr.aload_n (pc := 37) (i := 0) d_X5_both_37 rfl rfl ?_
            refine Tr.getf (pc := 38) d_X5_both_38 f_5_32 (by decide) (by decide) (ty_6 hS.1.1) ?_
            refine Tr.tp 35 ((St.kp hS (by decide) (by decide) (by decide)).trans en_6_4) ?_
            refine Tr.bipush (pc := 41) d_X5_both_41 rfl (by decide) ?_
            refine Tr.iconst (pc := 43) d_X5_both_43 (by decide) ?_
            refine Tr.callV (pc := 44) (as := [_, _]) d_X5_both_44 s_5_215 ok_X4_emit rfl rfl (Nat.le_of_ble_eq_true rfl) (Nat.le_of_ble_eq_true rfl) (by decide) (ty_35 hS.1.1) ?_
            refine Tr.imp (Tr.deep (by decide) (sp_X4_emit_35_w9 hS.1.wk 16 (by omega) 0 (by omega) (by omega))) ?_
            rintro M44 _ ⟨h44, rfl⟩
            have hS := St.tr hS h44 (by decide) (by decide)
            refine Tr.sc [] rfl ?_
            refine Tr.iincV (pc := 47) (n2 := (p7_2 + 1)) (ls2 := [(2, (0, (p7_2 + 1))), (1, (0, r33)), (0, (2, 6))]) d_X5_both_47 rfl (by decide) ((w32_id (by omega)).trans (by omega)) rfl ?_
            refine Tr.goto (pc := 50) (tgt := 7) d_X5_both_50 rfl ?_
            refine Tr.pick [2, 1, 0] (ls2 := [(0, (2, 6)), (1, (0, r33)), (2, (0, (p7_2 + 1)))]) rfl ?_
            exact J7 _ _ _ hS (by omega) (by omega) (fun hq => ((St.kp h44 (by decide) (by decide) (by decide)).trans (x33_6_6 (by omega)))) (by omega)
  refine Tr.pick [2, 1, 0] (ls2 := [(0, (2, 6)), (1, (0, r1)), (2, (0, 0))]) rfl ?_
  exact J7 _ _ _ _ hS (by omega) (by omega) (fun hq => (x1_6_6 (by omega))) (Nat.lt_succ_self _)

def ws_X5_test_6_w3 : List (Int × Int) := [(6, 0), (6, 1), (6, 5), (6, 6), (35, 11)]
def as_X5_test_6_w3 : List Int := [44, 45]
def q_X5_test_6_w3 (M0 M' : Mem) (r : Option PV) : Prop := St Tru ws_X5_test_6_w3 as_X5_test_6_w3 M0 M' ∧ ∃ v : Int, r = some (0, v) ∧ 0 ≤ v ∧ v ≤ 1 ∧ ((1 ≤ v ∧ v ≤ 1) → rd M' 6 6 = 3)
set_option maxRecDepth 100000 in
set_option maxHeartbeats 4000000 in
theorem sp_X5_test_6_w3 {l : Launch} {K : EC} {M0 : Mem} {xq : Int} (hI : In Tru M0) (hE : e_all K xq) (en_6_2 : rd M0 6 2 = 2) (en_6_3 : rd M0 6 3 = 27) (en_6_4 : rd M0 6 4 = 35) (en_6_6 : rd M0 6 6 = 3)   : Tr l K 29 mX5_test 0 [(0, (2, 6))] [] M0 (q_X5_test_6_w3 M0) := by
  have hS : St Tru ws_X5_test_6_w3 as_X5_test_6_w3 M0 M0 := St.rf hI
  refine Tr.aload_n (pc := 0) (i := 0) d_X5_test_0 rfl rfl ?_
  refine Tr.callV (pc := 1) (as := []) d_X5_test_1 s_5_212 ok_X5_both rfl rfl (Nat.le_of_ble_eq_true rfl) (Nat.le_of_ble_eq_true rfl) (by decide) (ty_6 hS.1.1) ?_
  refine Tr.imp (Tr.deep (by decide) (sp_X5_both_6_w3 hS.1 hE ((St.kp hS (by decide) (by decide) (by decide)).trans en_6_2) ((St.kp hS (by decide) (by decide) (by decide)).trans en_6_3) ((St.kp hS (by decide) (by decide) (by decide)).trans en_6_4) en_6_6)) ?_
  rintro M1 _ ⟨h1, r1, rfl, lr1, ur1, x1_6_6⟩
  have hS := St.tr hS h1 (by decide) (by decide)
  refine Tr.sc [(0, r1)] rfl ?_
  refine Tr.istore_n (pc := 4) (i := 1) (ls2 := [(1, (0, r1)), (0, (2, 6))]) d_X5_test_4 rfl (by decide) rfl ?_
  refine Tr.iconst (pc := 5) d_X5_test_5 (by decide) ?_
  refine Tr.istore_n (pc := 6) (i := 2) (ls2 := [(2, (0, 0)), (1, (0, r1)), (0, (2, 6))]) d_X5_test_6 rfl (by decide) rfl ?_
  have J7 : ∀ (n7 : Nat) (M : Mem) (p7_1 p7_2 : Int), St Tru ws_X5_test_6_w3 as_X5_test_6_w3 M0 M → (0 ≤ p7_1 ∧ p7_1 ≤ 1) → (0 ≤ p7_2 ∧ p7_2 ≤ 900) → (p7_1 = 1 → rd M 6 6 = 3) → (900 - p7_2).toNat < n7 → Tr l K 29 mX5_test 7 [(0, (2, 6)), (1, (0, p7_1)), (2, (0, p7_2))] [] M (q_X5_test_6_w3 M0) := by
    intro n7
    induction n7 with
    | zero => intro M p7_1 p7_2 hS bp7_1 bp7_2  y7_p7_1_6_60 hm7; exact absurd hm7 (Nat.not_lt_zero _)
    | succ n7 J7 =>
      intro M p7_1 p7_2 hS bp7_1 bp7_2  y7_p7_1_6_60 hm7
      have y7_p7_1_6_6 : 1 ≤ p7_1 ∧ p7_1 ≤ 1 → rd M 6 6 = 3 := fun hq => y7_p7_1_6_60 (by omega)
      refine Tr.iload_n (pc := 7) (i := 2) d_X5_test_7 rfl rfl ?_
      refine Tr.sipush (pc := 8) d_X5_test_8 rfl (by decide) ?_
      refine Tr.icmp_ge (pc := 11) (tgt := 53) d_X5_test_11 rfl (fun c11 => ?_) (fun c11 => ?_)
      · refine Tr.iload_n (pc := 53) (i := 1) d_X5_test_53 rfl rfl ?_
        exact Tr.zret (pc := 54) d_X5_test_54 rfl (by omega) ⟨hS, _, rfl, by omega, by omega, fun hq => (y7_p7_1_6_6 (by omega))⟩
      · refine Tr.iload_n (pc := 14) (i := 1) d_X5_test_14 rfl rfl ?_
        refine Tr.if_eq (pc := 15) (tgt := 53) d_X5_test_15 rfl (fun c15 => ?_) (fun c15 => ?_)
        · refine Tr.iload_n (pc := 53) (i := 1) d_X5_test_53 rfl rfl ?_
          exact Tr.zret (pc := 54) d_X5_test_54 rfl (by omega) ⟨hS, _, rfl, by omega, by omega, fun hq => absurd hq (by omega)⟩
        · refine Tr.aload_n (pc := 18) (i := 0) d_X5_test_18 rfl rfl ?_
          refine Tr.bipush (pc := 19) d_X5_test_19 rfl (by decide) ?_
          refine Tr.callV (pc := 21) (as := [_]) d_X5_test_21 s_5_71 ok_X5_isOwn rfl rfl (Nat.le_of_ble_eq_true rfl) (Nat.le_of_ble_eq_true rfl) (by decide) (ty_6 hS.1.1) ?_
          refine Tr.imp (Tr.deep (by decide) (sp_X5_isOwn_6_w3 hS.1 ((St.kp hS (by decide) (by decide) (by decide)).trans en_6_2) 19 (by omega))) ?_
          rintro M21 _ ⟨h21, r21, rfl, lr21, ur21⟩
          have hS := St.tr hS h21 (by decide) (by decide)
          refine Tr.sc [(0, r21)] rfl ?_
          refine Tr.if_eq (pc := 24) (tgt := 53) d_X5_test_24 rfl (fun c24 => ?_) (fun c24 => ?_)
          · refine Tr.iload_n (pc := 53) (i := 1) d_X5_test_53 rfl rfl ?_
            exact Tr.zret (pc := 54) d_X5_test_54 rfl (by omega) ⟨hS, _, rfl, by omega, by omega, fun _ => ((St.kp h21 (by decide) (by decide) (by decide)).trans (y7_p7_1_6_6 (by omega)))⟩
          · refine Tr.aload_n (pc := 27) (i := 0) d_X5_test_27 rfl rfl ?_
            refine Tr.callV (pc := 28) (as := []) d_X5_test_28 s_5_74 ok_X5_goOn rfl rfl (Nat.le_of_ble_eq_true rfl) (Nat.le_of_ble_eq_true rfl) (by decide) (ty_6 hS.1.1) ?_
            refine Tr.imp (Tr.deep (by decide) (sp_X5_goOn_6 hS.1 )) ?_
            rintro M28 _ ⟨h28, r28, rfl, lr28, ur28⟩
            have hS := St.tr hS h28 (by decide) (by decide)
            refine Tr.sc [(0, r28)] rfl ?_
            refine Tr.pop (pc := 31) d_X5_test_31 ne01 ?_
            refine Tr.aload_n (pc := 32) (i := 0) d_X5_test_32 rfl rfl ?_
            refine Tr.callV (pc := 33) (as := []) d_X5_test_33 s_5_212 ok_X5_both rfl rfl (Nat.le_of_ble_eq_true rfl) (Nat.le_of_ble_eq_true rfl) (by decide) (ty_6 hS.1.1) ?_
            refine Tr.imp (Tr.deep (by decide) (sp_X5_both_6_w3 hS.1 hE ((St.kp hS (by decide) (by decide) (by decide)).trans en_6_2) ((St.kp hS (by decide) (by decide) (by decide)).trans en_6_3) ((St.kp hS (by decide) (by decide) (by decide)).trans en_6_4) ((St.kp h28 (by decide) (by decide) (by decide)).trans ((St.kp h21 (by decide) (by decide) (by decide)).trans (y7_p7_1_6_6 (by omega)))))) ?_
            rintro M33 _ ⟨h33, r33, rfl, lr33, ur33, x33_6_6⟩
            have hS := St.tr hS h33 (by decide) (by decide)
            refine Tr.sc [(0, r33)] rfl ?_
            refine Tr.istore_n (pc := 36) (i := 1) (ls2 := [(1, (0, r33)), (0, (2, 6)), (2, (0, p7_2))]) d_X5_test_36 rfl (by decide) rfl ?_
            refine Tr.aload_n (pc := 37) (i := 0) d_X5_test_37 rfl rfl ?_
            refine Tr.getf (pc := 38) d_X5_test_38 f_5_32 (by decide) (by decide) (ty_6 hS.1.1) ?_
            refine Tr.tp 35 ((St.kp hS (by decide) (by decide) (by decide)).trans en_6_4) ?_
            refine Tr.bipush (pc := 41) d_X5_test_41 rfl (by decide) ?_
            refine Tr.iconst (pc := 43) d_X5_test_43 (by decide) ?_
            refine Tr.callV (pc := 44) (as := [_, _]) d_X5_test_44 s_5_215 ok_X4_emit rfl rfl (Nat.le_of_ble_eq_true rfl) (Nat.le_of_ble_eq_true rfl) (by decide) (ty_35 hS.1.1) ?_
            refine Tr.imp (Tr.deep (by decide) (sp_X4_emit_35_w10 hS.1.wk 17 (by omega) 0 (by omega) (by omega))) ?_
            rintro M44 _ ⟨h44, rfl⟩
            have hS := St.tr hS h44 (by decide) (by decide)
            refine Tr.sc [] rfl ?_
            refine Tr.iincV (pc := 47) (n2 := (p7_2 + 1)) (ls2 := [(2, (0, (p7_2 + 1))), (1, (0, r33)), (0, (2, 6))]) d_X5_test_47 rfl (by decide) ((w32_id (by omega)).trans (by omega)) rfl ?_
            refine Tr.goto (pc := 50) (tgt := 7) d_X5_test_50 rfl ?_
            refine Tr.pick [2, 1, 0] (ls2 := [(0, (2, 6)), (1, (0, r33)), (2, (0, (p7_2 + 1)))]) rfl ?_
            exact J7 _ _ _ hS (by omega) (by omega) (fun hq => ((St.kp h44 (by decide) (by decide) (by decide)).trans (x33_6_6 (by omega)))) (by omega)
  refine Tr.pick [2, 1, 0] (ls2 := [(0, (2, 6)), (1, (0, r1)), (2, (0, 0))]) rfl ?_
  exact J7 _ _ _ _ hS (by omega) (by omega) (fun hq => (x1_6_6 (by omega))) (Nat.lt_succ_self _)

def ws_X5_plainFact_6_w2 : List (Int × Int) := [(6, 0), (6, 1), (6, 5), (6, 6), (35, 11)]
def as_X5_plainFact_6_w2 : List Int := [44, 45]
def q_X5_plainFact_6_w2 (M0 M' : Mem) (r : Option PV) : Prop := St Tru ws_X5_plainFact_6_w2 as_X5_plainFact_6_w2 M0 M' ∧ ∃ v : Int, r = some (0, v) ∧ 0 ≤ v ∧ v ≤ 1 ∧ ((1 ≤ v ∧ v ≤ 1) → rd M' 6 6 = 2)
set_option maxRecDepth 100000 in
set_option maxHeartbeats 4000000 in
theorem sp_X5_plainFact_6_w2 {l : Launch} {K : EC} {M0 : Mem} {xq : Int} (hI : In Tru M0) (hE : e_all K xq) (en_6_2 : rd M0 6 2 = 2) (en_6_3 : rd M0 6 3 = 27) (en_6_4 : rd M0 6 4 = 35) (en_6_6 : rd M0 6 6 = 2)   : Tr l K 30 mX5_plainFact 0 [(0, (2, 6))] [] M0 (q_X5_plainFact_6_w2 M0) := by
  have hS : St Tru ws_X5_plainFact_6_w2 as_X5_plainFact_6_w2 M0 M0 := St.rf hI
  refine Tr.aload_n (pc := 0) (i := 0) d_X5_plainFact_0 rfl rfl ?_
  refine Tr.bipush (pc := 1) d_X5_plainFact_1 rfl (by decide) ?_
  refine Tr.callV (pc := 3) (as := [_]) d_X5_plainFact_3 s_5_77 ok_X5_isSign rfl rfl (Nat.le_of_ble_eq_true rfl) (Nat.le_of_ble_eq_true rfl) (by decide) (ty_6 hS.1.1) ?_
  refine Tr.imp (Tr.deep (by decide) (sp_X5_isSign_6_w1 hS.1 ((St.kp hS (by decide) (by decide) (by decide)).trans en_6_2) 91 (by omega))) ?_
  rintro M3 _ ⟨h3, r3, rfl, lr3, ur3⟩
  have hS := St.tr hS h3 (by decide) (by decide)
  refine Tr.sc [(0, r3)] rfl ?_
  refine Tr.if_eq (pc := 6) (tgt := 40) d_X5_plainFact_6 rfl (fun c6 => ?_) (fun c6 => ?_)
  · refine Tr.aload_n (pc := 40) (i := 0) d_X5_plainFact_40 rfl rfl ?_
    refine Tr.bipush (pc := 41) d_X5_plainFact_41 rfl (by decide) ?_
    refine Tr.callV (pc := 43) (as := [_]) d_X5_plainFact_43 s_5_71 ok_X5_isOwn rfl rfl (Nat.le_of_ble_eq_true rfl) (Nat.le_of_ble_eq_true rfl) (by decide) (ty_6 hS.1.1) ?_
    refine Tr.imp (Tr.deep (by decide) (sp_X5_isOwn_6_w4 hS.1 ((St.kp hS (by decide) (by decide) (by decide)).trans en_6_2) 22 (by omega))) ?_
    rintro M43 _ ⟨h43, r43, rfl, lr43, ur43⟩
    have hS := St.tr hS h43 (by decide) (by decide)
    refine Tr.sc [(0, r43)] rfl ?_
    refine Tr.if_eq (pc := 46) (tgt := 63) d_X5_plainFact_46 rfl (fun c46 => ?_) (fun c46 => ?_)
    · refine Tr.aload_n (pc := 63) (i := 0) d_X5_plainFact_63 rfl rfl ?_
      refine Tr.bipush (pc := 64) d_X5_plainFact_64 rfl (by decide) ?_
      refine Tr.callV (pc := 66) (as := [_]) d_X5_plainFact_66 s_5_71 ok_X5_isOwn rfl rfl (Nat.le_of_ble_eq_true rfl) (Nat.le_of_ble_eq_true rfl) (by decide) (ty_6 hS.1.1) ?_
      refine Tr.imp (Tr.deep (by decide) (sp_X5_isOwn_6_w4 hS.1 ((St.kp hS (by decide) (by decide) (by decide)).trans en_6_2) 23 (by omega))) ?_
      rintro M66 _ ⟨h66, r66, rfl, lr66, ur66⟩
      have hS := St.tr hS h66 (by decide) (by decide)
      refine Tr.sc [(0, r66)] rfl ?_
      refine Tr.if_eq (pc := 69) (tgt := 106) d_X5_plainFact_69 rfl (fun c69 => ?_) (fun c69 => ?_)
      · refine Tr.aload_n (pc := 106) (i := 0) d_X5_plainFact_106 rfl rfl ?_
        refine Tr.callV (pc := 107) (as := []) d_X5_plainFact_107 s_5_174 ok_X5_sum rfl rfl (Nat.le_of_ble_eq_true rfl) (Nat.le_of_ble_eq_true rfl) (by decide) (ty_6 hS.1.1) ?_
        refine Tr.imp (Tr.deep (by decide) (sp_X5_sum_6_w2 hS.1 hE ((St.kp hS (by decide) (by decide) (by decide)).trans en_6_2) ((St.kp hS (by decide) (by decide) (by decide)).trans en_6_3) ((St.kp hS (by decide) (by decide) (by decide)).trans en_6_4) ((St.kp h66 (by decide) (by decide) (by decide)).trans ((St.kp h43 (by decide) (by decide) (by decide)).trans ((St.kp h3 (by decide) (by decide) (by decide)).trans en_6_6))))) ?_
        rintro M107 _ ⟨h107, r107, rfl, lr107, ur107, x107_6_6⟩
        have hS := St.tr hS h107 (by decide) (by decide)
        refine Tr.sc [(0, r107)] rfl ?_
        refine Tr.if_ne (pc := 110) (tgt := 115) d_X5_plainFact_110 rfl (fun c110 => ?_) (fun c110 => ?_)
        · refine Tr.aload_n (pc := 115) (i := 0) d_X5_plainFact_115 rfl rfl ?_
          refine Tr.bipush (pc := 116) d_X5_plainFact_116 rfl (by decide) ?_
          refine Tr.callV (pc := 118) (as := [_]) d_X5_plainFact_118 s_5_77 ok_X5_isSign rfl rfl (Nat.le_of_ble_eq_true rfl) (Nat.le_of_ble_eq_true rfl) (by decide) (ty_6 hS.1.1) ?_
          refine Tr.imp (Tr.deep (by decide) (sp_X5_isSign_6_w3 hS.1 ((St.kp hS (by decide) (by decide) (by decide)).trans en_6_2) 60 (by omega))) ?_
          rintro M118 _ ⟨h118, r118, rfl, lr118, ur118⟩
          have hS := St.tr hS h118 (by decide) (by decide)
          refine Tr.sc [(0, r118)] rfl ?_
          have J158 : ∀ (M : Mem) (q158_0 : Int), St Tru ws_X5_plainFact_6_w2 as_X5_plainFact_6_w2 M0 M → ((-1) ≤ q158_0 ∧ q158_0 ≤ 15) → rd M 6 6 = 2 → Tr l K 30 mX5_plainFact 158 [(0, (2, 6))] [(0, q158_0)] M (q_X5_plainFact_6_w2 M0) := by
            intro M q158_0 hS bq158_0 k158_6_6
            refine Tr.istore_n (pc := 158) (i := 1) (ls2 := [(1, (0, q158_0)), (0, (2, 6))]) d_X5_plainFact_158 rfl (by decide) rfl ?_
            refine Tr.iload_n (pc := 159) (i := 1) d_X5_plainFact_159 rfl rfl ?_
            refine Tr.if_ge (pc := 160) (tgt := 169) d_X5_plainFact_160 rfl (fun c160 => ?_) (fun c160 => ?_)
            · refine Tr.aload_n (pc := 169) (i := 0) d_X5_plainFact_169 rfl rfl ?_
              refine Tr.callV (pc := 170) (as := []) d_X5_plainFact_170 s_5_74 ok_X5_goOn rfl rfl (Nat.le_of_ble_eq_true rfl) (Nat.le_of_ble_eq_true rfl) (by decide) (ty_6 hS.1.1) ?_
              refine Tr.imp (Tr.deep (by decide) (sp_X5_goOn_6 hS.1 )) ?_
              rintro M170 _ ⟨h170, r170, rfl, lr170, ur170⟩
              have hS := St.tr hS h170 (by decide) (by decide)
              refine Tr.sc [(0, r170)] rfl ?_
              refine Tr.pop (pc := 173) d_X5_plainFact_173 ne01 ?_
              refine Tr.aload_n (pc := 174) (i := 0) d_X5_plainFact_174 rfl rfl ?_
              refine Tr.callV (pc := 175) (as := []) d_X5_plainFact_175 s_5_174 ok_X5_sum rfl rfl (Nat.le_of_ble_eq_true rfl) (Nat.le_of_ble_eq_true rfl) (by decide) (ty_6 hS.1.1) ?_
              refine Tr.imp (Tr.deep (by decide) (sp_X5_sum_6_w2 hS.1 hE ((St.kp hS (by decide) (by decide) (by decide)).trans en_6_2) ((St.kp hS (by decide) (by decide) (by decide)).trans en_6_3) ((St.kp hS (by decide) (by decide) (by decide)).trans en_6_4) ((St.kp h170 (by decide) (by decide) (by decide)).trans k158_6_6))) ?_
              rintro M175 _ ⟨h175, r175, rfl, lr175, ur175, x175_6_6⟩
              have hS := St.tr hS h175 (by decide) (by decide)
              refine Tr.sc [(0, r175)] rfl ?_
              refine Tr.istore_n (pc := 178) (i := 2) (ls2 := [(2, (0, r175)), (1, (0, q158_0)), (0, (2, 6))]) d_X5_plainFact_178 rfl (by decide) rfl ?_
              refine Tr.aload_n (pc := 179) (i := 0) d_X5_plainFact_179 rfl rfl ?_
              refine Tr.getf (pc := 180) d_X5_plainFact_180 f_5_32 (by decide) (by decide) (ty_6 hS.1.1) ?_
              refine Tr.tp 35 ((St.kp hS (by decide) (by decide) (by decide)).trans en_6_4) ?_
              refine Tr.iload_n (pc := 183) (i := 1) d_X5_plainFact_183 rfl rfl ?_
              refine Tr.iconst (pc := 184) d_X5_plainFact_184 (by decide) ?_
              refine Tr.callV (pc := 185) (as := [_, _]) d_X5_plainFact_185 s_5_215 ok_X4_emit rfl rfl (Nat.le_of_ble_eq_true rfl) (Nat.le_of_ble_eq_true rfl) (by decide) (ty_35 hS.1.1) ?_
              refine Tr.imp (Tr.deep (by decide) (sp_X4_emit_35_w8 hS.1.wk q158_0 (by omega) 0 (by omega) (by omega))) ?_
              rintro M185 _ ⟨h185, rfl⟩
              have hS := St.tr hS h185 (by decide) (by decide)
              refine Tr.sc [] rfl ?_
              refine Tr.iload_n (pc := 188) (i := 2) d_X5_plainFact_188 rfl rfl ?_
              exact Tr.zret (pc := 189) d_X5_plainFact_189 rfl (by omega) ⟨hS, _, rfl, by omega, by omega, fun hq => ((St.kp h185 (by decide) (by decide) (by decide)).trans (x175_6_6 (by omega)))⟩
            · refine Tr.aload_n (pc := 163) (i := 0) d_X5_plainFact_163 rfl rfl ?_
              refine Tr.iconst (pc := 164) d_X5_plainFact_164 (by decide) ?_
              refine Tr.callV (pc := 165) (as := [_]) d_X5_plainFact_165 s_5_56 ok_X5_refuse rfl rfl (Nat.le_of_ble_eq_true rfl) (Nat.le_of_ble_eq_true rfl) (by decide) (ty_6 hS.1.1) ?_
              refine Tr.imp (Tr.deep (by decide) (sp_X5_refuse_6_w1 hS.1 ((St.kp hS (by decide) (by decide) (by decide)).trans en_6_2) 1 (by omega))) ?_
              rintro M165 _ ⟨h165, r165, rfl, lr165, ur165⟩
              have hS := St.tr hS h165 (by decide) (by decide)
              refine Tr.sc [(0, r165)] rfl ?_
              exact Tr.zret (pc := 168) d_X5_plainFact_168 rfl (by omega) ⟨hS, _, rfl, by omega, by omega, fun hq => absurd hq (by omega)⟩
          refine Tr.if_eq (pc := 121) (tgt := 129) d_X5_plainFact_121 rfl (fun c121 => ?_) (fun c121 => ?_)
          · refine Tr.aload_n (pc := 129) (i := 0) d_X5_plainFact_129 rfl rfl ?_
            refine Tr.bipush (pc := 130) d_X5_plainFact_130 rfl (by decide) ?_
            refine Tr.callV (pc := 132) (as := [_]) d_X5_plainFact_132 s_5_77 ok_X5_isSign rfl rfl (Nat.le_of_ble_eq_true rfl) (Nat.le_of_ble_eq_true rfl) (by decide) (ty_6 hS.1.1) ?_
            refine Tr.imp (Tr.deep (by decide) (sp_X5_isSign_6_w4 hS.1 ((St.kp hS (by decide) (by decide) (by decide)).trans en_6_2) 62 (by omega))) ?_
            rintro M132 _ ⟨h132, r132, rfl, lr132, ur132⟩
            have hS := St.tr hS h132 (by decide) (by decide)
            refine Tr.sc [(0, r132)] rfl ?_
            refine Tr.if_eq (pc := 135) (tgt := 143) d_X5_plainFact_135 rfl (fun c135 => ?_) (fun c135 => ?_)
            · refine Tr.aload_n (pc := 143) (i := 0) d_X5_plainFact_143 rfl rfl ?_
              refine Tr.bipush (pc := 144) d_X5_plainFact_144 rfl (by decide) ?_
              refine Tr.callV (pc := 146) (as := [_]) d_X5_plainFact_146 s_5_77 ok_X5_isSign rfl rfl (Nat.le_of_ble_eq_true rfl) (Nat.le_of_ble_eq_true rfl) (by decide) (ty_6 hS.1.1) ?_
              refine Tr.imp (Tr.deep (by decide) (sp_X5_isSign_6_w4 hS.1 ((St.kp hS (by decide) (by decide) (by decide)).trans en_6_2) 61 (by omega))) ?_
              rintro M146 _ ⟨h146, r146, rfl, lr146, ur146⟩
              have hS := St.tr hS h146 (by decide) (by decide)
              refine Tr.sc [(0, r146)] rfl ?_
              refine Tr.if_eq (pc := 149) (tgt := 157) d_X5_plainFact_149 rfl (fun c149 => ?_) (fun c149 => ?_)
              · refine Tr.iconst (pc := 157) d_X5_plainFact_157 (by decide) ?_
                refine Tr.pick [0] (ls2 := [(0, (2, 6))]) rfl ?_
                exact J158 _ _ hS (by omega) ((St.kp h146 (by decide) (by decide) (by decide)).trans ((St.kp h132 (by decide) (by decide) (by decide)).trans ((St.kp h118 (by decide) (by decide) (by decide)).trans (x107_6_6 (by omega)))))
              · refine Tr.bipush (pc := 152) d_X5_plainFact_152 rfl (by decide) ?_
                refine Tr.goto (pc := 154) (tgt := 158) d_X5_plainFact_154 rfl ?_
                refine Tr.pick [0] (ls2 := [(0, (2, 6))]) rfl ?_
                exact J158 _ _ hS (by omega) ((St.kp h146 (by decide) (by decide) (by decide)).trans ((St.kp h132 (by decide) (by decide) (by decide)).trans ((St.kp h118 (by decide) (by decide) (by decide)).trans (x107_6_6 (by omega)))))
            · refine Tr.bipush (pc := 138) d_X5_plainFact_138 rfl (by decide) ?_
              refine Tr.goto (pc := 140) (tgt := 158) d_X5_plainFact_140 rfl ?_
              refine Tr.pick [0] (ls2 := [(0, (2, 6))]) rfl ?_
              exact J158 _ _ hS (by omega) ((St.kp h132 (by decide) (by decide) (by decide)).trans ((St.kp h118 (by decide) (by decide) (by decide)).trans (x107_6_6 (by omega))))
          · refine Tr.bipush (pc := 124) d_X5_plainFact_124 rfl (by decide) ?_
            refine Tr.goto (pc := 126) (tgt := 158) d_X5_plainFact_126 rfl ?_
            refine Tr.pick [0] (ls2 := [(0, (2, 6))]) rfl ?_
            exact J158 _ _ hS (by omega) ((St.kp h118 (by decide) (by decide) (by decide)).trans (x107_6_6 (by omega)))
        · refine Tr.iconst (pc := 113) d_X5_plainFact_113 (by decide) ?_
          exact Tr.zret (pc := 114) d_X5_plainFact_114 rfl (by omega) ⟨hS, _, rfl, by omega, by omega, fun hq => absurd hq (by omega)⟩
      · refine Tr.aload_n (pc := 72) (i := 0) d_X5_plainFact_72 rfl rfl ?_
        refine Tr.callV (pc := 73) (as := []) d_X5_plainFact_73 s_5_74 ok_X5_goOn rfl rfl (Nat.le_of_ble_eq_true rfl) (Nat.le_of_ble_eq_true rfl) (by decide) (ty_6 hS.1.1) ?_
        refine Tr.imp (Tr.deep (by decide) (sp_X5_goOn_6 hS.1 )) ?_
        rintro M73 _ ⟨h73, r73, rfl, lr73, ur73⟩
        have hS := St.tr hS h73 (by decide) (by decide)
        refine Tr.sc [(0, r73)] rfl ?_
        refine Tr.pop (pc := 76) d_X5_plainFact_76 ne01 ?_
        refine Tr.aload_n (pc := 77) (i := 0) d_X5_plainFact_77 rfl rfl ?_
        refine Tr.iconst (pc := 78) d_X5_plainFact_78 (by decide) ?_
        refine Tr.callV (pc := 79) (as := [_]) d_X5_plainFact_79 s_5_186 ok_X5_takeName rfl rfl (Nat.le_of_ble_eq_true rfl) (Nat.le_of_ble_eq_true rfl) (by decide) (ty_6 hS.1.1) ?_
        refine Tr.imp (Tr.deep (by decide) (sp_X5_takeName_6_v0 hS.1 hE ((St.kp hS (by decide) (by decide) (by decide)).trans en_6_2) ((St.kp hS (by decide) (by decide) (by decide)).trans en_6_3))) ?_
        rintro M79 _ ⟨h79, r79, rfl, lr79, ur79⟩
        have hS := St.tr hS h79 (by decide) (by decide)
        refine Tr.sc [(0, r79)] rfl ?_
        refine Tr.istore_n (pc := 82) (i := 1) (ls2 := [(1, (0, r79)), (0, (2, 6))]) d_X5_plainFact_82 rfl (by decide) rfl ?_
        refine Tr.aload_n (pc := 83) (i := 0) d_X5_plainFact_83 rfl rfl ?_
        refine Tr.getf (pc := 84) d_X5_plainFact_84 f_5_32 (by decide) (by decide) (ty_6 hS.1.1) ?_
        refine Tr.tp 35 ((St.kp hS (by decide) (by decide) (by decide)).trans en_6_4) ?_
        refine Tr.iconst (pc := 87) d_X5_plainFact_87 (by decide) ?_
        refine Tr.iload_n (pc := 88) (i := 1) d_X5_plainFact_88 rfl rfl ?_
        refine Tr.iconst (pc := 89) d_X5_plainFact_89 (by decide) ?_
        refine Tr.mmax (pc := 90) d_X5_plainFact_90 ml_5_192 mw_mmax (Nat.le_of_ble_eq_true rfl) ?_
        refine Tr.gen (P := fun v => (v = r79 ∧ 0 ≤ r79) ∨ (v = 0 ∧ r79 ≤ 0)) (f_max_p _ _) (fun r90 er90 br90 => ?_)
        refine Tr.callV (pc := 93) (as := [_, _]) d_X5_plainFact_93 s_5_215 ok_X4_emit rfl rfl (Nat.le_of_ble_eq_true rfl) (Nat.le_of_ble_eq_true rfl) (by decide) (ty_35 hS.1.1) ?_
        refine Tr.imp (Tr.deep (by decide) (sp_X4_emit_35_w7 hS.1.wk 4 (by omega) r90 (by omega) (by omega))) ?_
        rintro M93 _ ⟨h93, rfl⟩
        have hS := St.tr hS h93 (by decide) (by decide)
        refine Tr.sc [] rfl ?_
        refine Tr.iload_n (pc := 96) (i := 1) d_X5_plainFact_96 rfl rfl ?_
        refine Tr.if_lt (pc := 97) (tgt := 104) d_X5_plainFact_97 rfl (fun c97 => ?_) (fun c97 => ?_)
        · refine Tr.iconst (pc := 104) d_X5_plainFact_104 (by decide) ?_
          exact Tr.zret (pc := 105) d_X5_plainFact_105 rfl (by omega) ⟨hS, _, rfl, by omega, by omega, fun hq => absurd hq (by omega)⟩
        · refine Tr.iconst (pc := 100) d_X5_plainFact_100 (by decide) ?_
          refine Tr.goto (pc := 101) (tgt := 105) d_X5_plainFact_101 rfl ?_
          exact Tr.zret (pc := 105) d_X5_plainFact_105 rfl (by omega) ⟨hS, _, rfl, by omega, by omega, fun _ => ((St.kp h93 (by decide) (by decide) (by decide)).trans ((St.kp h79 (by decide) (by decide) (by decide)).trans ((St.kp h73 (by decide) (by decide) (by decide)).trans ((St.kp h66 (by decide) (by decide) (by decide)).trans ((St.kp h43 (by decide) (by decide) (by decide)).trans ((St.kp h3 (by decide) (by decide) (by decide)).trans en_6_6))))))⟩
    · refine Tr.aload_n (pc := 49) (i := 0) d_X5_plainFact_49 rfl rfl ?_
      refine Tr.getf (pc := 50) d_X5_plainFact_50 f_5_32 (by decide) (by decide) (ty_6 hS.1.1) ?_
      refine Tr.tp 35 ((St.kp hS (by decide) (by decide) (by decide)).trans en_6_4) ?_
      refine Tr.iconst (pc := 53) d_X5_plainFact_53 (by decide) ?_
      refine Tr.iconst (pc := 54) d_X5_plainFact_54 (by decide) ?_
      refine Tr.callV (pc := 55) (as := [_, _]) d_X5_plainFact_55 s_5_215 ok_X4_emit rfl rfl (Nat.le_of_ble_eq_true rfl) (Nat.le_of_ble_eq_true rfl) (by decide) (ty_35 hS.1.1) ?_
      refine Tr.imp (Tr.deep (by decide) (sp_X4_emit_35_w3 hS.1.wk 0 (by omega) 1 (by omega) (by omega))) ?_
      rintro M55 _ ⟨h55, rfl⟩
      have hS := St.tr hS h55 (by decide) (by decide)
      refine Tr.sc [] rfl ?_
      refine Tr.aload_n (pc := 58) (i := 0) d_X5_plainFact_58 rfl rfl ?_
      refine Tr.callV (pc := 59) (as := []) d_X5_plainFact_59 s_5_74 ok_X5_goOn rfl rfl (Nat.le_of_ble_eq_true rfl) (Nat.le_of_ble_eq_true rfl) (by decide) (ty_6 hS.1.1) ?_
      refine Tr.imp (Tr.deep (by decide) (sp_X5_goOn_6 hS.1 )) ?_
      rintro M59 _ ⟨h59, r59, rfl, lr59, ur59⟩
      have hS := St.tr hS h59 (by decide) (by decide)
      refine Tr.sc [(0, r59)] rfl ?_
      exact Tr.zret (pc := 62) d_X5_plainFact_62 rfl (by omega) ⟨hS, _, rfl, by omega, by omega, fun _ => ((St.kp h59 (by decide) (by decide) (by decide)).trans ((St.kp h55 (by decide) (by decide) (by decide)).trans ((St.kp h43 (by decide) (by decide) (by decide)).trans ((St.kp h3 (by decide) (by decide) (by decide)).trans en_6_6))))⟩
  · refine Tr.aload_n (pc := 9) (i := 0) d_X5_plainFact_9 rfl rfl ?_
    refine Tr.bipush (pc := 10) d_X5_plainFact_10 rfl (by decide) ?_
    refine Tr.callV (pc := 12) (as := [_]) d_X5_plainFact_12 s_5_206 ok_X5_takeOpening rfl rfl (Nat.le_of_ble_eq_true rfl) (Nat.le_of_ble_eq_true rfl) (by decide) (ty_6 hS.1.1) ?_
    refine Tr.imp (Tr.deep (by decide) (sp_X5_takeOpening_6_w11 hS.1 ((St.kp hS (by decide) (by decide) (by decide)).trans en_6_2) ((St.kp h3 (by decide) (by decide) (by decide)).trans en_6_6) 91 (by omega))) ?_
    rintro M12 _ ⟨h12, r12, rfl, lr12, ur12, x12_6_6⟩
    have hS := St.tr hS h12 (by decide) (by decide)
    refine Tr.sc [(0, r12)] rfl ?_
    refine Tr.if_eq (pc := 15) (tgt := 38) d_X5_plainFact_15 rfl (fun c15 => ?_) (fun c15 => ?_)
    · refine Tr.iconst (pc := 38) d_X5_plainFact_38 (by decide) ?_
      exact Tr.zret (pc := 39) d_X5_plainFact_39 rfl (by omega) ⟨hS, _, rfl, by omega, by omega, fun hq => absurd hq (by omega)⟩
    · refine Tr.aload_n (pc := 18) (i := 0) d_X5_plainFact_18 rfl rfl ?_
      refine Tr.callV (pc := 19) (as := []) d_X5_plainFact_19 s_5_177 ok_X5_test rfl rfl (Nat.le_of_ble_eq_true rfl) (Nat.le_of_ble_eq_true rfl) (by decide) (ty_6 hS.1.1) ?_
      refine Tr.imp (Tr.deep (by decide) (sp_X5_test_6_w3 hS.1 hE ((St.kp hS (by decide) (by decide) (by decide)).trans en_6_2) ((St.kp hS (by decide) (by decide) (by decide)).trans en_6_3) ((St.kp hS (by decide) (by decide) (by decide)).trans en_6_4) (x12_6_6 (by omega)))) ?_
      rintro M19 _ ⟨h19, r19, rfl, lr19, ur19, x19_6_6⟩
      have hS := St.tr hS h19 (by decide) (by decide)
      refine Tr.sc [(0, r19)] rfl ?_
      refine Tr.if_eq (pc := 22) (tgt := 38) d_X5_plainFact_22 rfl (fun c22 => ?_) (fun c22 => ?_)
      · refine Tr.iconst (pc := 38) d_X5_plainFact_38 (by decide) ?_
        exact Tr.zret (pc := 39) d_X5_plainFact_39 rfl (by omega) ⟨hS, _, rfl, by omega, by omega, fun hq => absurd hq (by omega)⟩
      · refine Tr.aload_n (pc := 25) (i := 0) d_X5_plainFact_25 rfl rfl ?_
        refine Tr.bipush (pc := 26) d_X5_plainFact_26 rfl (by decide) ?_
        refine Tr.callV (pc := 28) (as := [_]) d_X5_plainFact_28 s_5_209 ok_X5_takeClosing rfl rfl (Nat.le_of_ble_eq_true rfl) (Nat.le_of_ble_eq_true rfl) (by decide) (ty_6 hS.1.1) ?_
        refine Tr.imp (Tr.deep (by decide) (sp_X5_takeClosing_6_w13 hS.1 ((St.kp hS (by decide) (by decide) (by decide)).trans en_6_2) (x19_6_6 (by omega)) 93 (by omega))) ?_
        rintro M28 _ ⟨h28, r28, rfl, lr28, ur28, x28_6_6⟩
        have hS := St.tr hS h28 (by decide) (by decide)
        refine Tr.sc [(0, r28)] rfl ?_
        refine Tr.if_eq (pc := 31) (tgt := 38) d_X5_plainFact_31 rfl (fun c31 => ?_) (fun c31 => ?_)
        · refine Tr.iconst (pc := 38) d_X5_plainFact_38 (by decide) ?_
          exact Tr.zret (pc := 39) d_X5_plainFact_39 rfl (by omega) ⟨hS, _, rfl, by omega, by omega, fun hq => absurd hq (by omega)⟩
        · refine Tr.iconst (pc := 34) d_X5_plainFact_34 (by decide) ?_
          refine Tr.goto (pc := 35) (tgt := 39) d_X5_plainFact_35 rfl ?_
          exact Tr.zret (pc := 39) d_X5_plainFact_39 rfl (by omega) ⟨hS, _, rfl, by omega, by omega, fun _ => (x28_6_6 (by omega))⟩
end
/-! 34.12 -/
section
def ws_X5_fact_6_w2 : List (Int × Int) := [(6, 0), (6, 1), (6, 5), (6, 6), (35, 11)]
def as_X5_fact_6_w2 : List Int := [44, 45]
def q_X5_fact_6_w2 (M0 M' : Mem) (r : Option PV) : Prop := St Tru ws_X5_fact_6_w2 as_X5_fact_6_w2 M0 M' ∧ ∃ v : Int, r = some (0, v) ∧ 0 ≤ v ∧ v ≤ 1 ∧ ((1 ≤ v ∧ v ≤ 1) → rd M' 6 6 = 2)
set_option maxRecDepth 100000 in
set_option maxHeartbeats 4000000 in
theorem sp_X5_fact_6_w2 {l : Launch} {K : EC} {M0 : Mem} {xq : Int} (hI : In Tru M0) (hE : e_all K xq) (en_6_2 : rd M0 6 2 = 2) (en_6_3 : rd M0 6 3 = 27) (en_6_4 : rd M0 6 4 = 35) (en_6_6 : rd M0 6 6 = 2)   : Tr l K 31 mX5_fact 0 [(0, (2, 6))] [] M0 (q_X5_fact_6_w2 M0) := by
  have hS : St Tru ws_X5_fact_6_w2 as_X5_fact_6_w2 M0 M0 := St.rf hI
  refine Tr.iconst (pc := 0) d_X5_fact_0 (by decide) ?_
  refine Tr.istore_n (pc := 1) (i := 1) (ls2 := [(1, (0, 0)), (0, (2, 6))]) d_X5_fact_1 rfl (by decide) rfl ?_
  refine Tr.iconst (pc := 2) d_X5_fact_2 (by decide) ?_
  refine Tr.istore_n (pc := 3) (i := 2) (ls2 := [(2, (0, 0)), (1, (0, 0)), (0, (2, 6))]) d_X5_fact_3 rfl (by decide) rfl ?_
  have J4 : ∀ (n4 : Nat) (M : Mem) (p4_1 p4_2 : Int), St Tru ws_X5_fact_6_w2 as_X5_fact_6_w2 M0 M → (0 ≤ p4_1 ∧ p4_1 ≤ 1) → (0 ≤ p4_2 ∧ p4_2 ≤ 900) → rd M 6 6 = 2 → (900 - p4_2).toNat < n4 → Tr l K 31 mX5_fact 4 [(0, (2, 6)), (1, (0, p4_1)), (2, (0, p4_2))] [] M (q_X5_fact_6_w2 M0) := by
    intro n4
    induction n4 with
    | zero => intro M p4_1 p4_2 hS bp4_1 bp4_2 k4_6_6 hm4; exact absurd hm4 (Nat.not_lt_zero _)
    | succ n4 J4 =>
      intro M p4_1 p4_2 hS bp4_1 bp4_2 k4_6_6 hm4
      refine Tr.iload_n (pc := 4) (i := 2) d_X5_fact_4 rfl rfl ?_
      refine Tr.sipush (pc := 5) d_X5_fact_5 rfl (by decide) ?_
      have J41 : ∀ (M : Mem), St Tru ws_X5_fact_6_w2 as_X5_fact_6_w2 M0 M → rd M 6 6 = 2 → Tr l K 31 mX5_fact 41 [(0, (2, 6)), (1, (0, p4_1))] [] M (q_X5_fact_6_w2 M0) := by
        intro M  hS  k41_6_6
        refine Tr.aload_n (pc := 41) (i := 0) d_X5_fact_41 rfl rfl ?_
        refine Tr.callV (pc := 42) (as := []) d_X5_fact_42 s_5_221 ok_X5_plainFact rfl rfl (Nat.le_of_ble_eq_true rfl) (Nat.le_of_ble_eq_true rfl) (by decide) (ty_6 hS.1.1) ?_
        refine Tr.imp (Tr.deep (by decide) (sp_X5_plainFact_6_w2 hS.1 hE ((St.kp hS (by decide) (by decide) (by decide)).trans en_6_2) ((St.kp hS (by decide) (by decide) (by decide)).trans en_6_3) ((St.kp hS (by decide) (by decide) (by decide)).trans en_6_4) k41_6_6)) ?_
        rintro M42 _ ⟨h42, r42, rfl, lr42, ur42, x42_6_6⟩
        have hS := St.tr hS h42 (by decide) (by decide)
        refine Tr.sc [(0, r42)] rfl ?_
        refine Tr.istore_n (pc := 45) (i := 2) (ls2 := [(2, (0, r42)), (0, (2, 6)), (1, (0, p4_1))]) d_X5_fact_45 rfl (by decide) rfl ?_
        refine Tr.iload_n (pc := 46) (i := 1) d_X5_fact_46 rfl rfl ?_
        refine Tr.if_eq (pc := 47) (tgt := 59) d_X5_fact_47 rfl (fun c47 => ?_) (fun c47 => ?_)
        · refine Tr.iload_n (pc := 59) (i := 2) d_X5_fact_59 rfl rfl ?_
          exact Tr.zret (pc := 60) d_X5_fact_60 rfl (by omega) ⟨hS, _, rfl, by omega, by omega, fun hq => (x42_6_6 (by omega))⟩
        · refine Tr.aload_n (pc := 50) (i := 0) d_X5_fact_50 rfl rfl ?_
          refine Tr.getf (pc := 51) d_X5_fact_51 f_5_32 (by decide) (by decide) (ty_6 hS.1.1) ?_
          refine Tr.tp 35 ((St.kp hS (by decide) (by decide) (by decide)).trans en_6_4) ?_
          refine Tr.iconst (pc := 54) d_X5_fact_54 (by decide) ?_
          refine Tr.iconst (pc := 55) d_X5_fact_55 (by decide) ?_
          refine Tr.callV (pc := 56) (as := [_, _]) d_X5_fact_56 s_5_215 ok_X4_emit rfl rfl (Nat.le_of_ble_eq_true rfl) (Nat.le_of_ble_eq_true rfl) (by decide) (ty_35 hS.1.1) ?_
          refine Tr.imp (Tr.deep (by decide) (sp_X4_emit_35_w7 hS.1.wk 5 (by omega) 0 (by omega) (by omega))) ?_
          rintro M56 _ ⟨h56, rfl⟩
          have hS := St.tr hS h56 (by decide) (by decide)
          refine Tr.sc [] rfl ?_
          refine Tr.iload_n (pc := 59) (i := 2) d_X5_fact_59 rfl rfl ?_
          exact Tr.zret (pc := 60) d_X5_fact_60 rfl (by omega) ⟨hS, _, rfl, by omega, by omega, fun hq => ((St.kp h56 (by decide) (by decide) (by decide)).trans (x42_6_6 (by omega)))⟩
      refine Tr.icmp_ge (pc := 8) (tgt := 41) d_X5_fact_8 rfl (fun c8 => ?_) (fun c8 => ?_)
      · refine Tr.pick [0, 1] (ls2 := [(0, (2, 6)), (1, (0, p4_1))]) rfl ?_
        exact J41 _ hS k4_6_6
      · refine Tr.aload_n (pc := 11) (i := 0) d_X5_fact_11 rfl rfl ?_
        refine Tr.bipush (pc := 12) d_X5_fact_12 rfl (by decide) ?_
        refine Tr.callV (pc := 14) (as := [_]) d_X5_fact_14 s_5_71 ok_X5_isOwn rfl rfl (Nat.le_of_ble_eq_true rfl) (Nat.le_of_ble_eq_true rfl) (by decide) (ty_6 hS.1.1) ?_
        refine Tr.imp (Tr.deep (by decide) (sp_X5_isOwn_6_w4 hS.1 ((St.kp hS (by decide) (by decide) (by decide)).trans en_6_2) 21 (by omega))) ?_
        rintro M14 _ ⟨h14, r14, rfl, lr14, ur14⟩
        have hS := St.tr hS h14 (by decide) (by decide)
        refine Tr.sc [(0, r14)] rfl ?_
        refine Tr.if_eq (pc := 17) (tgt := 41) d_X5_fact_17 rfl (fun c17 => ?_) (fun c17 => ?_)
        · refine Tr.pick [0, 1] (ls2 := [(0, (2, 6)), (1, (0, p4_1))]) rfl ?_
          exact J41 _ hS ((St.kp h14 (by decide) (by decide) (by decide)).trans k4_6_6)
        · refine Tr.aload_n (pc := 20) (i := 0) d_X5_fact_20 rfl rfl ?_
          refine Tr.callV (pc := 21) (as := []) d_X5_fact_21 s_5_74 ok_X5_goOn rfl rfl (Nat.le_of_ble_eq_true rfl) (Nat.le_of_ble_eq_true rfl) (by decide) (ty_6 hS.1.1) ?_
          refine Tr.imp (Tr.deep (by decide) (sp_X5_goOn_6 hS.1 )) ?_
          rintro M21 _ ⟨h21, r21, rfl, lr21, ur21⟩
          have hS := St.tr hS h21 (by decide) (by decide)
          refine Tr.sc [(0, r21)] rfl ?_
          refine Tr.pop (pc := 24) d_X5_fact_24 ne01 ?_
          refine Tr.iload_n (pc := 25) (i := 1) d_X5_fact_25 rfl rfl ?_
          have J34 : ∀ (M : Mem) (q34_0 : Int), St Tru ws_X5_fact_6_w2 as_X5_fact_6_w2 M0 M → (0 ≤ q34_0 ∧ q34_0 ≤ 1) → rd M 6 6 = 2 → Tr l K 31 mX5_fact 34 [(0, (2, 6)), (2, (0, p4_2))] [(0, q34_0)] M (q_X5_fact_6_w2 M0) := by
            intro M q34_0 hS bq34_0 k34_6_6
            refine Tr.istore_n (pc := 34) (i := 1) (ls2 := [(1, (0, q34_0)), (0, (2, 6)), (2, (0, p4_2))]) d_X5_fact_34 rfl (by decide) rfl ?_
            refine Tr.iincV (pc := 35) (n2 := (p4_2 + 1)) (ls2 := [(2, (0, (p4_2 + 1))), (1, (0, q34_0)), (0, (2, 6))]) d_X5_fact_35 rfl (by decide) ((w32_id (by omega)).trans (by omega)) rfl ?_
            refine Tr.goto (pc := 38) (tgt := 4) d_X5_fact_38 rfl ?_
            refine Tr.pick [2, 1, 0] (ls2 := [(0, (2, 6)), (1, (0, q34_0)), (2, (0, (p4_2 + 1)))]) rfl ?_
            exact J4 _ _ _ hS (by omega) (by omega) k34_6_6 (by omega)
          refine Tr.if_ne (pc := 26) (tgt := 33) d_X5_fact_26 rfl (fun c26 => ?_) (fun c26 => ?_)
          · refine Tr.iconst (pc := 33) d_X5_fact_33 (by decide) ?_
            refine Tr.pick [0, 2] (ls2 := [(0, (2, 6)), (2, (0, p4_2))]) rfl ?_
            exact J34 _ _ hS (by omega) ((St.kp h21 (by decide) (by decide) (by decide)).trans ((St.kp h14 (by decide) (by decide) (by decide)).trans k4_6_6))
          · refine Tr.iconst (pc := 29) d_X5_fact_29 (by decide) ?_
            refine Tr.goto (pc := 30) (tgt := 34) d_X5_fact_30 rfl ?_
            refine Tr.pick [0, 2] (ls2 := [(0, (2, 6)), (2, (0, p4_2))]) rfl ?_
            exact J34 _ _ hS (by omega) ((St.kp h21 (by decide) (by decide) (by decide)).trans ((St.kp h14 (by decide) (by decide) (by decide)).trans k4_6_6))
  refine Tr.pick [2, 1, 0] (ls2 := [(0, (2, 6)), (1, (0, 0)), (2, (0, 0))]) rfl ?_
  exact J4 _ _ _ _ hS (by omega) (by omega) en_6_6 (Nat.lt_succ_self _)

def ws_X5_both_6_w2 : List (Int × Int) := [(6, 0), (6, 1), (6, 5), (6, 6), (35, 11)]
def as_X5_both_6_w2 : List Int := [44, 45]
def q_X5_both_6_w2 (M0 M' : Mem) (r : Option PV) : Prop := St Tru ws_X5_both_6_w2 as_X5_both_6_w2 M0 M' ∧ ∃ v : Int, r = some (0, v) ∧ 0 ≤ v ∧ v ≤ 1 ∧ ((1 ≤ v ∧ v ≤ 1) → rd M' 6 6 = 2)
set_option maxRecDepth 100000 in
set_option maxHeartbeats 4000000 in
theorem sp_X5_both_6_w2 {l : Launch} {K : EC} {M0 : Mem} {xq : Int} (hI : In Tru M0) (hE : e_all K xq) (en_6_2 : rd M0 6 2 = 2) (en_6_3 : rd M0 6 3 = 27) (en_6_4 : rd M0 6 4 = 35) (en_6_6 : rd M0 6 6 = 2)   : Tr l K 32 mX5_both 0 [(0, (2, 6))] [] M0 (q_X5_both_6_w2 M0) := by
  have hS : St Tru ws_X5_both_6_w2 as_X5_both_6_w2 M0 M0 := St.rf hI
  refine Tr.aload_n (pc := 0) (i := 0) d_X5_both_0 rfl rfl ?_
  refine Tr.callV (pc := 1) (as := []) d_X5_both_1 s_5_218 ok_X5_fact rfl rfl (Nat.le_of_ble_eq_true rfl) (Nat.le_of_ble_eq_true rfl) (by decide) (ty_6 hS.1.1) ?_
  refine Tr.imp (Tr.deep (by decide) (sp_X5_fact_6_w2 hS.1 hE ((St.kp hS (by decide) (by decide) (by decide)).trans en_6_2) ((St.kp hS (by decide) (by decide) (by decide)).trans en_6_3) ((St.kp hS (by decide) (by decide) (by decide)).trans en_6_4) en_6_6)) ?_
  rintro M1 _ ⟨h1, r1, rfl, lr1, ur1, x1_6_6⟩
  have hS := St.tr hS h1 (by decide) (by decide)
  refine Tr.sc [(0, r1)] rfl ?_
  refine Tr.istore_n (pc := 4) (i := 1) (ls2 := [(1, (0, r1)), (0, (2, 6))]) d_X5_both_4 rfl (by decide) rfl ?_
  refine Tr.iconst (pc := 5) d_X5_both_5 (by decide) ?_
  refine Tr.istore_n (pc := 6) (i := 2) (ls2 := [(2, (0, 0)), (1, (0, r1)), (0, (2, 6))]) d_X5_both_6 rfl (by decide) rfl ?_
  have J7 : ∀ (n7 : Nat) (M : Mem) (p7_1 p7_2 : Int), St Tru ws_X5_both_6_w2 as_X5_both_6_w2 M0 M → (0 ≤ p7_1 ∧ p7_1 ≤ 1) → (0 ≤ p7_2 ∧ p7_2 ≤ 900) → (p7_1 = 1 → rd M 6 6 = 2) → (900 - p7_2).toNat < n7 → Tr l K 32 mX5_both 7 [(0, (2, 6)), (1, (0, p7_1)), (2, (0, p7_2))] [] M (q_X5_both_6_w2 M0) := by
    intro n7
    induction n7 with
    | zero => intro M p7_1 p7_2 hS bp7_1 bp7_2  y7_p7_1_6_60 hm7; exact absurd hm7 (Nat.not_lt_zero _)
    | succ n7 J7 =>
      intro M p7_1 p7_2 hS bp7_1 bp7_2  y7_p7_1_6_60 hm7
      have y7_p7_1_6_6 : 1 ≤ p7_1 ∧ p7_1 ≤ 1 → rd M 6 6 = 2 := fun hq => y7_p7_1_6_60 (by omega)
      refine Tr.iload_n (pc := 7) (i := 2) d_X5_both_7 rfl rfl ?_
      refine Tr.sipush (pc := 8) d_X5_both_8 rfl (by decide) ?_
      refine Tr.icmp_ge (pc := 11) (tgt := 53) d_X5_both_11 rfl (fun c11 => ?_) (fun c11 => ?_)
      · refine Tr.iload_n (pc := 53) (i := 1) d_X5_both_53 rfl rfl ?_
        exact Tr.zret (pc := 54) d_X5_both_54 rfl (by omega) ⟨hS, _, rfl, by omega, by omega, fun hq => (y7_p7_1_6_6 (by omega))⟩
      · refine Tr.iload_n (pc := 14) (i := 1) d_X5_both_14 rfl rfl ?_
        refine Tr.if_eq (pc := 15) (tgt := 53) d_X5_both_15 rfl (fun c15 => ?_) (fun c15 => ?_)
        · refine Tr.iload_n (pc := 53) (i := 1) d_X5_both_53 rfl rfl ?_
          exact Tr.zret (pc := 54) d_X5_both_54 rfl (by omega) ⟨hS, _, rfl, by omega, by omega, fun hq => absurd hq (by omega)⟩
        · refine Tr.aload_n (pc := 18) (i := 0) d_X5_both_18 rfl rfl ?_
          refine Tr.bipush (pc := 19) d_X5_both_19 rfl (by decide) ?_
          refine Tr.callV (pc := 21) (as := [_]) d_X5_both_21 s_5_71 ok_X5_isOwn rfl rfl (Nat.le_of_ble_eq_true rfl) (Nat.le_of_ble_eq_true rfl) (by decide) (ty_6 hS.1.1) ?_
          refine Tr.imp (Tr.deep (by decide) (sp_X5_isOwn_6_w3 hS.1 ((St.kp hS (by decide) (by decide) (by decide)).trans en_6_2) 20 (by omega))) ?_
          rintro M21 _ ⟨h21, r21, rfl, lr21, ur21⟩
          have hS := St.tr hS h21 (by decide) (by decide)
          refine Tr.sc [(0, r21)] rfl ?_
          refine Tr.if_eq (pc := 24) (tgt := 53) d_X5_both_24 rfl (fun c24 => ?_) (fun c24 => ?_)
          · refine Tr.iload_n (pc := 53) (i := 1) d_X5_both_53 rfl rfl ?_
            exact Tr.zret (pc := 54) d_X5_both_54 rfl (by omega) ⟨hS, _, rfl, by omega, by omega, fun _ => ((St.kp h21 (by decide) (by decide) (by decide)).trans (y7_p7_1_6_6 (by omega)))⟩
          · refine Tr.aload_n (pc := 27) (i := 0) d_X5_both_27 rfl rfl ?_
            refine Tr.callV (pc := 28) (as := []) d_X5_both_28 s_5_74 ok_X5_goOn rfl rfl (Nat.le_of_ble_eq_true rfl) (Nat.le_of_ble_eq_true rfl) (by decide) (ty_6 hS.1.1) ?_
            refine Tr.imp (Tr.deep (by decide) (sp_X5_goOn_6 hS.1 )) ?_
            rintro M28 _ ⟨h28, r28, rfl, lr28, ur28⟩
            have hS := St.tr hS h28 (by decide) (by decide)
            refine Tr.sc [(0, r28)] rfl ?_
            refine Tr.pop (pc := 31) d_X5_both_31 ne01 ?_
            refine Tr.aload_n (pc := 32) (i := 0) d_X5_both_32 rfl rfl ?_
            refine Tr.callV (pc := 33) (as := []) d_X5_both_33 s_5_218 ok_X5_fact rfl rfl (Nat.le_of_ble_eq_true rfl) (Nat.le_of_ble_eq_true rfl) (by decide) (ty_6 hS.1.1) ?_
            refine Tr.imp (Tr.deep (by decide) (sp_X5_fact_6_w2 hS.1 hE ((St.kp hS (by decide) (by decide) (by decide)).trans en_6_2) ((St.kp hS (by decide) (by decide) (by decide)).trans en_6_3) ((St.kp hS (by decide) (by decide) (by decide)).trans en_6_4) ((St.kp h28 (by decide) (by decide) (by decide)).trans ((St.kp h21 (by decide) (by decide) (by decide)).trans (y7_p7_1_6_6 (by omega)))))) ?_
            rintro M33 _ ⟨h33, r33, rfl, lr33, ur33, x33_6_6⟩
            have hS := St.tr hS h33 (by decide) (by decide)
            refine Tr.sc [(0, r33)] rfl ?_
            refine Tr.istore_n (pc := 36) (i := 1) (ls2 := [(1, (0, r33)), (0, (2, 6)), (2, (0, p7_2))]) d_X5_both_36 rfl (by decide) rfl ?_
            refine Tr.aload_n (pc := 37) (i := 0) d_X5_both_37 rfl rfl ?_
            refine Tr.getf (pc := 38) d_X5_both_38 f_5_32 (by decide) (by decide) (ty_6 hS.1.1) ?_
            refine Tr.tp 35 ((St.kp hS (by decide) (by decide) (by decide)).trans en_6_4) ?_
            refine Tr.bipush (pc := 41) d_X5_both_41 rfl (by decide) ?_
            refine Tr.iconst (pc := 43) d_X5_both_43 (by decide) ?_
            refine Tr.callV (pc := 44) (as := [_, _]) d_X5_both_44 s_5_215 ok_X4_emit rfl rfl (Nat.le_of_ble_eq_true rfl) (Nat.le_of_ble_eq_true rfl) (by decide) (ty_35 hS.1.1) ?_
            refine Tr.imp (Tr.deep (by decide) (sp_X4_emit_35_w9 hS.1.wk 16 (by omega) 0 (by omega) (by omega))) ?_
            rintro M44 _ ⟨h44, rfl⟩
            have hS := St.tr hS h44 (by decide) (by decide)
            refine Tr.sc [] rfl ?_
            refine Tr.iincV (pc := 47) (n2 := (p7_2 + 1)) (ls2 := [(2, (0, (p7_2 + 1))), (1, (0, r33)), (0, (2, 6))]) d_X5_both_47 rfl (by decide) ((w32_id (by omega)).trans (by omega)) rfl ?_
            refine Tr.goto (pc := 50) (tgt := 7) d_X5_both_50 rfl ?_
            refine Tr.pick [2, 1, 0] (ls2 := [(0, (2, 6)), (1, (0, r33)), (2, (0, (p7_2 + 1)))]) rfl ?_
            exact J7 _ _ _ hS (by omega) (by omega) (fun hq => ((St.kp h44 (by decide) (by decide) (by decide)).trans (x33_6_6 (by omega)))) (by omega)
  refine Tr.pick [2, 1, 0] (ls2 := [(0, (2, 6)), (1, (0, r1)), (2, (0, 0))]) rfl ?_
  exact J7 _ _ _ _ hS (by omega) (by omega) (fun hq => (x1_6_6 (by omega))) (Nat.lt_succ_self _)

def ws_X5_test_6_w2 : List (Int × Int) := [(6, 0), (6, 1), (6, 5), (6, 6), (35, 11)]
def as_X5_test_6_w2 : List Int := [44, 45]
def q_X5_test_6_w2 (M0 M' : Mem) (r : Option PV) : Prop := St Tru ws_X5_test_6_w2 as_X5_test_6_w2 M0 M' ∧ ∃ v : Int, r = some (0, v) ∧ 0 ≤ v ∧ v ≤ 1 ∧ ((1 ≤ v ∧ v ≤ 1) → rd M' 6 6 = 2)
set_option maxRecDepth 100000 in
set_option maxHeartbeats 4000000 in
theorem sp_X5_test_6_w2 {l : Launch} {K : EC} {M0 : Mem} {xq : Int} (hI : In Tru M0) (hE : e_all K xq) (en_6_2 : rd M0 6 2 = 2) (en_6_3 : rd M0 6 3 = 27) (en_6_4 : rd M0 6 4 = 35) (en_6_6 : rd M0 6 6 = 2)   : Tr l K 33 mX5_test 0 [(0, (2, 6))] [] M0 (q_X5_test_6_w2 M0) := by
  have hS : St Tru ws_X5_test_6_w2 as_X5_test_6_w2 M0 M0 := St.rf hI
  refine Tr.aload_n (pc := 0) (i := 0) d_X5_test_0 rfl rfl ?_
  refine Tr.callV (pc := 1) (as := []) d_X5_test_1 s_5_212 ok_X5_both rfl rfl (Nat.le_of_ble_eq_true rfl) (Nat.le_of_ble_eq_true rfl) (by decide) (ty_6 hS.1.1) ?_
  refine Tr.imp (Tr.deep (by decide) (sp_X5_both_6_w2 hS.1 hE ((St.kp hS (by decide) (by decide) (by decide)).trans en_6_2) ((St.kp hS (by decide) (by decide) (by decide)).trans en_6_3) ((St.kp hS (by decide) (by decide) (by decide)).trans en_6_4) en_6_6)) ?_
  rintro M1 _ ⟨h1, r1, rfl, lr1, ur1, x1_6_6⟩
  have hS := St.tr hS h1 (by decide) (by decide)
  refine Tr.sc [(0, r1)] rfl ?_
  refine Tr.istore_n (pc := 4) (i := 1) (ls2 := [(1, (0, r1)), (0, (2, 6))]) d_X5_test_4 rfl (by decide) rfl ?_
  refine Tr.iconst (pc := 5) d_X5_test_5 (by decide) ?_
  refine Tr.istore_n (pc := 6) (i := 2) (ls2 := [(2, (0, 0)), (1, (0, r1)), (0, (2, 6))]) d_X5_test_6 rfl (by decide) rfl ?_
  have J7 : ∀ (n7 : Nat) (M : Mem) (p7_1 p7_2 : Int), St Tru ws_X5_test_6_w2 as_X5_test_6_w2 M0 M → (0 ≤ p7_1 ∧ p7_1 ≤ 1) → (0 ≤ p7_2 ∧ p7_2 ≤ 900) → (p7_1 = 1 → rd M 6 6 = 2) → (900 - p7_2).toNat < n7 → Tr l K 33 mX5_test 7 [(0, (2, 6)), (1, (0, p7_1)), (2, (0, p7_2))] [] M (q_X5_test_6_w2 M0) := by
    intro n7
    induction n7 with
    | zero => intro M p7_1 p7_2 hS bp7_1 bp7_2  y7_p7_1_6_60 hm7; exact absurd hm7 (Nat.not_lt_zero _)
    | succ n7 J7 =>
      intro M p7_1 p7_2 hS bp7_1 bp7_2  y7_p7_1_6_60 hm7
      have y7_p7_1_6_6 : 1 ≤ p7_1 ∧ p7_1 ≤ 1 → rd M 6 6 = 2 := fun hq => y7_p7_1_6_60 (by omega)
      refine Tr.iload_n (pc := 7) (i := 2) d_X5_test_7 rfl rfl ?_
      refine Tr.sipush (pc := 8) d_X5_test_8 rfl (by decide) ?_
      refine Tr.icmp_ge (pc := 11) (tgt := 53) d_X5_test_11 rfl (fun c11 => ?_) (fun c11 => ?_)
      · refine Tr.iload_n (pc := 53) (i := 1) d_X5_test_53 rfl rfl ?_
        exact Tr.zret (pc := 54) d_X5_test_54 rfl (by omega) ⟨hS, _, rfl, by omega, by omega, fun hq => (y7_p7_1_6_6 (by omega))⟩
      · refine Tr.iload_n (pc := 14) (i := 1) d_X5_test_14 rfl rfl ?_
        refine Tr.if_eq (pc := 15) (tgt := 53) d_X5_test_15 rfl (fun c15 => ?_) (fun c15 => ?_)
        · refine Tr.iload_n (pc := 53) (i := 1) d_X5_test_53 rfl rfl ?_
          exact Tr.zret (pc := 54) d_X5_test_54 rfl (by omega) ⟨hS, _, rfl, by omega, by omega, fun hq => absurd hq (by omega)⟩
        · refine Tr.aload_n (pc := 18) (i := 0) d_X5_test_18 rfl rfl ?_
          refine Tr.bipush (pc := 19) d_X5_test_19 rfl (by decide) ?_
          refine Tr.callV (pc := 21) (as := [_]) d_X5_test_21 s_5_71 ok_X5_isOwn rfl rfl (Nat.le_of_ble_eq_true rfl) (Nat.le_of_ble_eq_true rfl) (by decide) (ty_6 hS.1.1) ?_
          refine Tr.imp (Tr.deep (by decide) (sp_X5_isOwn_6_w3 hS.1 ((St.kp hS (by decide) (by decide) (by decide)).trans en_6_2) 19 (by omega))) ?_
          rintro M21 _ ⟨h21, r21, rfl, lr21, ur21⟩
          have hS := St.tr hS h21 (by decide) (by decide)
          refine Tr.sc [(0, r21)] rfl ?_
          refine Tr.if_eq (pc := 24) (tgt := 53) d_X5_test_24 rfl (fun c24 => ?_) (fun c24 => ?_)
          · refine Tr.iload_n (pc := 53) (i := 1) d_X5_test_53 rfl rfl ?_
            exact Tr.zret (pc := 54) d_X5_test_54 rfl (by omega) ⟨hS, _, rfl, by omega, by omega, fun _ => ((St.kp h21 (by decide) (by decide) (by decide)).trans (y7_p7_1_6_6 (by omega)))⟩
          · refine Tr.aload_n (pc := 27) (i := 0) d_X5_test_27 rfl rfl ?_
            refine Tr.callV (pc := 28) (as := []) d_X5_test_28 s_5_74 ok_X5_goOn rfl rfl (Nat.le_of_ble_eq_true rfl) (Nat.le_of_ble_eq_true rfl) (by decide) (ty_6 hS.1.1) ?_
            refine Tr.imp (Tr.deep (by decide) (sp_X5_goOn_6 hS.1 )) ?_
            rintro M28 _ ⟨h28, r28, rfl, lr28, ur28⟩
            have hS := St.tr hS h28 (by decide) (by decide)
            refine Tr.sc [(0, r28)] rfl ?_
            refine Tr.pop (pc := 31) d_X5_test_31 ne01 ?_
            refine Tr.aload_n (pc := 32) (i := 0) d_X5_test_32 rfl rfl ?_
            refine Tr.callV (pc := 33) (as := []) d_X5_test_33 s_5_212 ok_X5_both rfl rfl (Nat.le_of_ble_eq_true rfl) (Nat.le_of_ble_eq_true rfl) (by decide) (ty_6 hS.1.1) ?_
            refine Tr.imp (Tr.deep (by decide) (sp_X5_both_6_w2 hS.1 hE ((St.kp hS (by decide) (by decide) (by decide)).trans en_6_2) ((St.kp hS (by decide) (by decide) (by decide)).trans en_6_3) ((St.kp hS (by decide) (by decide) (by decide)).trans en_6_4) ((St.kp h28 (by decide) (by decide) (by decide)).trans ((St.kp h21 (by decide) (by decide) (by decide)).trans (y7_p7_1_6_6 (by omega)))))) ?_
            rintro M33 _ ⟨h33, r33, rfl, lr33, ur33, x33_6_6⟩
            have hS := St.tr hS h33 (by decide) (by decide)
            refine Tr.sc [(0, r33)] rfl ?_
            refine Tr.istore_n (pc := 36) (i := 1) (ls2 := [(1, (0, r33)), (0, (2, 6)), (2, (0, p7_2))]) d_X5_test_36 rfl (by decide) rfl ?_
            refine Tr.aload_n (pc := 37) (i := 0) d_X5_test_37 rfl rfl ?_
            refine Tr.getf (pc := 38) d_X5_test_38 f_5_32 (by decide) (by decide) (ty_6 hS.1.1) ?_
            refine Tr.tp 35 ((St.kp hS (by decide) (by decide) (by decide)).trans en_6_4) ?_
            refine Tr.bipush (pc := 41) d_X5_test_41 rfl (by decide) ?_
            refine Tr.iconst (pc := 43) d_X5_test_43 (by decide) ?_
            refine Tr.callV (pc := 44) (as := [_, _]) d_X5_test_44 s_5_215 ok_X4_emit rfl rfl (Nat.le_of_ble_eq_true rfl) (Nat.le_of_ble_eq_true rfl) (by decide) (ty_35 hS.1.1) ?_
            refine Tr.imp (Tr.deep (by decide) (sp_X4_emit_35_w10 hS.1.wk 17 (by omega) 0 (by omega) (by omega))) ?_
            rintro M44 _ ⟨h44, rfl⟩
            have hS := St.tr hS h44 (by decide) (by decide)
            refine Tr.sc [] rfl ?_
            refine Tr.iincV (pc := 47) (n2 := (p7_2 + 1)) (ls2 := [(2, (0, (p7_2 + 1))), (1, (0, r33)), (0, (2, 6))]) d_X5_test_47 rfl (by decide) ((w32_id (by omega)).trans (by omega)) rfl ?_
            refine Tr.goto (pc := 50) (tgt := 7) d_X5_test_50 rfl ?_
            refine Tr.pick [2, 1, 0] (ls2 := [(0, (2, 6)), (1, (0, r33)), (2, (0, (p7_2 + 1)))]) rfl ?_
            exact J7 _ _ _ hS (by omega) (by omega) (fun hq => ((St.kp h44 (by decide) (by decide) (by decide)).trans (x33_6_6 (by omega)))) (by omega)
  refine Tr.pick [2, 1, 0] (ls2 := [(0, (2, 6)), (1, (0, r1)), (2, (0, 0))]) rfl ?_
  exact J7 _ _ _ _ hS (by omega) (by omega) (fun hq => (x1_6_6 (by omega))) (Nat.lt_succ_self _)

def ws_X5_plainFact_6_w1 : List (Int × Int) := [(6, 0), (6, 1), (6, 5), (6, 6), (35, 11)]
def as_X5_plainFact_6_w1 : List Int := [44, 45]
def q_X5_plainFact_6_w1 (M0 M' : Mem) (r : Option PV) : Prop := St Tru ws_X5_plainFact_6_w1 as_X5_plainFact_6_w1 M0 M' ∧ ∃ v : Int, r = some (0, v) ∧ 0 ≤ v ∧ v ≤ 1 ∧ ((1 ≤ v ∧ v ≤ 1) → rd M' 6 6 = 1)
set_option maxRecDepth 100000 in
set_option maxHeartbeats 4000000 in
theorem sp_X5_plainFact_6_w1 {l : Launch} {K : EC} {M0 : Mem} {xq : Int} (hI : In Tru M0) (hE : e_all K xq) (en_6_2 : rd M0 6 2 = 2) (en_6_3 : rd M0 6 3 = 27) (en_6_4 : rd M0 6 4 = 35) (en_6_6 : rd M0 6 6 = 1)   : Tr l K 34 mX5_plainFact 0 [(0, (2, 6))] [] M0 (q_X5_plainFact_6_w1 M0) := by
  have hS : St Tru ws_X5_plainFact_6_w1 as_X5_plainFact_6_w1 M0 M0 := St.rf hI
  refine Tr.aload_n (pc := 0) (i := 0) d_X5_plainFact_0 rfl rfl ?_
  refine Tr.bipush (pc := 1) d_X5_plainFact_1 rfl (by decide) ?_
  refine Tr.callV (pc := 3) (as := [_]) d_X5_plainFact_3 s_5_77 ok_X5_isSign rfl rfl (Nat.le_of_ble_eq_true rfl) (Nat.le_of_ble_eq_true rfl) (by decide) (ty_6 hS.1.1) ?_
  refine Tr.imp (Tr.deep (by decide) (sp_X5_isSign_6_w1 hS.1 ((St.kp hS (by decide) (by decide) (by decide)).trans en_6_2) 91 (by omega))) ?_
  rintro M3 _ ⟨h3, r3, rfl, lr3, ur3⟩
  have hS := St.tr hS h3 (by decide) (by decide)
  refine Tr.sc [(0, r3)] rfl ?_
  refine Tr.if_eq (pc := 6) (tgt := 40) d_X5_plainFact_6 rfl (fun c6 => ?_) (fun c6 => ?_)
  · refine Tr.aload_n (pc := 40) (i := 0) d_X5_plainFact_40 rfl rfl ?_
    refine Tr.bipush (pc := 41) d_X5_plainFact_41 rfl (by decide) ?_
    refine Tr.callV (pc := 43) (as := [_]) d_X5_plainFact_43 s_5_71 ok_X5_isOwn rfl rfl (Nat.le_of_ble_eq_true rfl) (Nat.le_of_ble_eq_true rfl) (by decide) (ty_6 hS.1.1) ?_
    refine Tr.imp (Tr.deep (by decide) (sp_X5_isOwn_6_w4 hS.1 ((St.kp hS (by decide) (by decide) (by decide)).trans en_6_2) 22 (by omega))) ?_
    rintro M43 _ ⟨h43, r43, rfl, lr43, ur43⟩
    have hS := St.tr hS h43 (by decide) (by decide)
    refine Tr.sc [(0, r43)] rfl ?_
    refine Tr.if_eq (pc := 46) (tgt := 63) d_X5_plainFact_46 rfl (fun c46 => ?_) (fun c46 => ?_)
    · refine Tr.aload_n (pc := 63) (i := 0) d_X5_plainFact_63 rfl rfl ?_
      refine Tr.bipush (pc := 64) d_X5_plainFact_64 rfl (by decide) ?_
      refine Tr.callV (pc := 66) (as := [_]) d_X5_plainFact_66 s_5_71 ok_X5_isOwn rfl rfl (Nat.le_of_ble_eq_true rfl) (Nat.le_of_ble_eq_true rfl) (by decide) (ty_6 hS.1.1) ?_
      refine Tr.imp (Tr.deep (by decide) (sp_X5_isOwn_6_w4 hS.1 ((St.kp hS (by decide) (by decide) (by decide)).trans en_6_2) 23 (by omega))) ?_
      rintro M66 _ ⟨h66, r66, rfl, lr66, ur66⟩
      have hS := St.tr hS h66 (by decide) (by decide)
      refine Tr.sc [(0, r66)] rfl ?_
      refine Tr.if_eq (pc := 69) (tgt := 106) d_X5_plainFact_69 rfl (fun c69 => ?_) (fun c69 => ?_)
      · refine Tr.aload_n (pc := 106) (i := 0) d_X5_plainFact_106 rfl rfl ?_
        refine Tr.callV (pc := 107) (as := []) d_X5_plainFact_107 s_5_174 ok_X5_sum rfl rfl (Nat.le_of_ble_eq_true rfl) (Nat.le_of_ble_eq_true rfl) (by decide) (ty_6 hS.1.1) ?_
        refine Tr.imp (Tr.deep (by decide) (sp_X5_sum_6_w1 hS.1 hE ((St.kp hS (by decide) (by decide) (by decide)).trans en_6_2) ((St.kp hS (by decide) (by decide) (by decide)).trans en_6_3) ((St.kp hS (by decide) (by decide) (by decide)).trans en_6_4) ((St.kp h66 (by decide) (by decide) (by decide)).trans ((St.kp h43 (by decide) (by decide) (by decide)).trans ((St.kp h3 (by decide) (by decide) (by decide)).trans en_6_6))))) ?_
        rintro M107 _ ⟨h107, r107, rfl, lr107, ur107, x107_6_6⟩
        have hS := St.tr hS h107 (by decide) (by decide)
        refine Tr.sc [(0, r107)] rfl ?_
        refine Tr.if_ne (pc := 110) (tgt := 115) d_X5_plainFact_110 rfl (fun c110 => ?_) (fun c110 => ?_)
        · refine Tr.aload_n (pc := 115) (i := 0) d_X5_plainFact_115 rfl rfl ?_
          refine Tr.bipush (pc := 116) d_X5_plainFact_116 rfl (by decide) ?_
          refine Tr.callV (pc := 118) (as := [_]) d_X5_plainFact_118 s_5_77 ok_X5_isSign rfl rfl (Nat.le_of_ble_eq_true rfl) (Nat.le_of_ble_eq_true rfl) (by decide) (ty_6 hS.1.1) ?_
          refine Tr.imp (Tr.deep (by decide) (sp_X5_isSign_6_w3 hS.1 ((St.kp hS (by decide) (by decide) (by decide)).trans en_6_2) 60 (by omega))) ?_
          rintro M118 _ ⟨h118, r118, rfl, lr118, ur118⟩
          have hS := St.tr hS h118 (by decide) (by decide)
          refine Tr.sc [(0, r118)] rfl ?_
          have J158 : ∀ (M : Mem) (q158_0 : Int), St Tru ws_X5_plainFact_6_w1 as_X5_plainFact_6_w1 M0 M → ((-1) ≤ q158_0 ∧ q158_0 ≤ 15) → rd M 6 6 = 1 → Tr l K 34 mX5_plainFact 158 [(0, (2, 6))] [(0, q158_0)] M (q_X5_plainFact_6_w1 M0) := by
            intro M q158_0 hS bq158_0 k158_6_6
            refine Tr.istore_n (pc := 158) (i := 1) (ls2 := [(1, (0, q158_0)), (0, (2, 6))]) d_X5_plainFact_158 rfl (by decide) rfl ?_
            refine Tr.iload_n (pc := 159) (i := 1) d_X5_plainFact_159 rfl rfl ?_
            refine Tr.if_ge (pc := 160) (tgt := 169) d_X5_plainFact_160 rfl (fun c160 => ?_) (fun c160 => ?_)
            · refine Tr.aload_n (pc := 169) (i := 0) d_X5_plainFact_169 rfl rfl ?_
              refine Tr.callV (pc := 170) (as := []) d_X5_plainFact_170 s_5_74 ok_X5_goOn rfl rfl (Nat.le_of_ble_eq_true rfl) (Nat.le_of_ble_eq_true rfl) (by decide) (ty_6 hS.1.1) ?_
              refine Tr.imp (Tr.deep (by decide) (sp_X5_goOn_6 hS.1 )) ?_
              rintro M170 _ ⟨h170, r170, rfl, lr170, ur170⟩
              have hS := St.tr hS h170 (by decide) (by decide)
              refine Tr.sc [(0, r170)] rfl ?_
              refine Tr.pop (pc := 173) d_X5_plainFact_173 ne01 ?_
              refine Tr.aload_n (pc := 174) (i := 0) d_X5_plainFact_174 rfl rfl ?_
              refine Tr.callV (pc := 175) (as := []) d_X5_plainFact_175 s_5_174 ok_X5_sum rfl rfl (Nat.le_of_ble_eq_true rfl) (Nat.le_of_ble_eq_true rfl) (by decide) (ty_6 hS.1.1) ?_
              refine Tr.imp (Tr.deep (by decide) (sp_X5_sum_6_w1 hS.1 hE ((St.kp hS (by decide) (by decide) (by decide)).trans en_6_2) ((St.kp hS (by decide) (by decide) (by decide)).trans en_6_3) ((St.kp hS (by decide) (by decide) (by decide)).trans en_6_4) ((St.kp h170 (by decide) (by decide) (by decide)).trans k158_6_6))) ?_
              rintro M175 _ ⟨h175, r175, rfl, lr175, ur175, x175_6_6⟩
              have hS := St.tr hS h175 (by decide) (by decide)
              refine Tr.sc [(0, r175)] rfl ?_
              refine Tr.istore_n (pc := 178) (i := 2) (ls2 := [(2, (0, r175)), (1, (0, q158_0)), (0, (2, 6))]) d_X5_plainFact_178 rfl (by decide) rfl ?_
              refine Tr.aload_n (pc := 179) (i := 0) d_X5_plainFact_179 rfl rfl ?_
              refine Tr.getf (pc := 180) d_X5_plainFact_180 f_5_32 (by decide) (by decide) (ty_6 hS.1.1) ?_
              refine Tr.tp 35 ((St.kp hS (by decide) (by decide) (by decide)).trans en_6_4) ?_
              refine Tr.iload_n (pc := 183) (i := 1) d_X5_plainFact_183 rfl rfl ?_
              refine Tr.iconst (pc := 184) d_X5_plainFact_184 (by decide) ?_
              refine Tr.callV (pc := 185) (as := [_, _]) d_X5_plainFact_185 s_5_215 ok_X4_emit rfl rfl (Nat.le_of_ble_eq_true rfl) (Nat.le_of_ble_eq_true rfl) (by decide) (ty_35 hS.1.1) ?_
              refine Tr.imp (Tr.deep (by decide) (sp_X4_emit_35_w8 hS.1.wk q158_0 (by omega) 0 (by omega) (by omega))) ?_
              rintro M185 _ ⟨h185, rfl⟩
              have hS := St.tr hS h185 (by decide) (by decide)
              refine Tr.sc [] rfl ?_
              refine Tr.iload_n (pc := 188) (i := 2) d_X5_plainFact_188 rfl rfl ?_
              exact Tr.zret (pc := 189) d_X5_plainFact_189 rfl (by omega) ⟨hS, _, rfl, by omega, by omega, fun hq => ((St.kp h185 (by decide) (by decide) (by decide)).trans (x175_6_6 (by omega)))⟩
            · refine Tr.aload_n (pc := 163) (i := 0) d_X5_plainFact_163 rfl rfl ?_
              refine Tr.iconst (pc := 164) d_X5_plainFact_164 (by decide) ?_
              refine Tr.callV (pc := 165) (as := [_]) d_X5_plainFact_165 s_5_56 ok_X5_refuse rfl rfl (Nat.le_of_ble_eq_true rfl) (Nat.le_of_ble_eq_true rfl) (by decide) (ty_6 hS.1.1) ?_
              refine Tr.imp (Tr.deep (by decide) (sp_X5_refuse_6_w1 hS.1 ((St.kp hS (by decide) (by decide) (by decide)).trans en_6_2) 1 (by omega))) ?_
              rintro M165 _ ⟨h165, r165, rfl, lr165, ur165⟩
              have hS := St.tr hS h165 (by decide) (by decide)
              refine Tr.sc [(0, r165)] rfl ?_
              exact Tr.zret (pc := 168) d_X5_plainFact_168 rfl (by omega) ⟨hS, _, rfl, by omega, by omega, fun hq => absurd hq (by omega)⟩
          refine Tr.if_eq (pc := 121) (tgt := 129) d_X5_plainFact_121 rfl (fun c121 => ?_) (fun c121 => ?_)
          · refine Tr.aload_n (pc := 129) (i := 0) d_X5_plainFact_129 rfl rfl ?_
            refine Tr.bipush (pc := 130) d_X5_plainFact_130 rfl (by decide) ?_
            refine Tr.callV (pc := 132) (as := [_]) d_X5_plainFact_132 s_5_77 ok_X5_isSign rfl rfl (Nat.le_of_ble_eq_true rfl) (Nat.le_of_ble_eq_true rfl) (by decide) (ty_6 hS.1.1) ?_
            refine Tr.imp (Tr.deep (by decide) (sp_X5_isSign_6_w4 hS.1 ((St.kp hS (by decide) (by decide) (by decide)).trans en_6_2) 62 (by omega))) ?_
            rintro M132 _ ⟨h132, r132, rfl, lr132, ur132⟩
            have hS := St.tr hS h132 (by decide) (by decide)
            refine Tr.sc [(0, r132)] rfl ?_
            refine Tr.if_eq (pc := 135) (tgt := 143) d_X5_plainFact_135 rfl (fun c135 => ?_) (fun c135 => ?_)
            · refine Tr.aload_n (pc := 143) (i := 0) d_X5_plainFact_143 rfl rfl ?_
              refine Tr.bipush (pc := 144) d_X5_plainFact_144 rfl (by decide) ?_
              refine Tr.callV (pc := 146) (as := [_]) d_X5_plainFact_146 s_5_77 ok_X5_isSign rfl rfl (Nat.le_of_ble_eq_true rfl) (Nat.le_of_ble_eq_true rfl) (by decide) (ty_6 hS.1.1) ?_
              refine Tr.imp (Tr.deep (by decide) (sp_X5_isSign_6_w4 hS.1 ((St.kp hS (by decide) (by decide) (by decide)).trans en_6_2) 61 (by omega))) ?_
              rintro M146 _ ⟨h146, r146, rfl, lr146, ur146⟩
              have hS := St.tr hS h146 (by decide) (by decide)
              refine Tr.sc [(0, r146)] rfl ?_
              refine Tr.if_eq (pc := 149) (tgt := 157) d_X5_plainFact_149 rfl (fun c149 => ?_) (fun c149 => ?_)
              · refine Tr.iconst (pc := 157) d_X5_plainFact_157 (by decide) ?_
                refine Tr.pick [0] (ls2 := [(0, (2, 6))]) rfl ?_
                exact J158 _ _ hS (by omega) ((St.kp h146 (by decide) (by decide) (by decide)).trans ((St.kp h132 (by decide) (by decide) (by decide)).trans ((St.kp h118 (by decide) (by decide) (by decide)).trans (x107_6_6 (by omega)))))
              · refine Tr.bipush (pc := 152) d_X5_plainFact_152 rfl (by decide) ?_
                refine Tr.goto (pc := 154) (tgt := 158) d_X5_plainFact_154 rfl ?_
                refine Tr.pick [0] (ls2 := [(0, (2, 6))]) rfl ?_
                exact J158 _ _ hS (by omega) ((St.kp h146 (by decide) (by decide) (by decide)).trans ((St.kp h132 (by decide) (by decide) (by decide)).trans ((St.kp h118 (by decide) (by decide) (by decide)).trans (x107_6_6 (by omega)))))
            · refine Tr.bipush (pc := 138) d_X5_plainFact_138 rfl (by decide) ?_
              refine Tr.goto (pc := 140) (tgt := 158) d_X5_plainFact_140 rfl ?_
              refine Tr.pick [0] (ls2 := [(0, (2, 6))]) rfl ?_
              exact J158 _ _ hS (by omega) ((St.kp h132 (by decide) (by decide) (by decide)).trans ((St.kp h118 (by decide) (by decide) (by decide)).trans (x107_6_6 (by omega))))
          · refine Tr.bipush (pc := 124) d_X5_plainFact_124 rfl (by decide) ?_
            refine Tr.goto (pc := 126) (tgt := 158) d_X5_plainFact_126 rfl ?_
            refine Tr.pick [0] (ls2 := [(0, (2, 6))]) rfl ?_
            exact J158 _ _ hS (by omega) ((St.kp h118 (by decide) (by decide) (by decide)).trans (x107_6_6 (by omega)))
        · refine Tr.iconst (pc := 113) d_X5_plainFact_113 (by decide) ?_
          exact Tr.zret (pc := 114) d_X5_plainFact_114 rfl (by omega) ⟨hS, _, rfl, by omega, by omega, fun hq => absurd hq (by omega)⟩
      · refine Tr.aload_n (pc := 72) (i := 0) d_X5_plainFact_72 rfl rfl ?_
        refine Tr.callV (pc := 73) (as := []) d_X5_plainFact_73 s_5_74 ok_X5_goOn rfl rfl (Nat.le_of_ble_eq_true rfl) (Nat.le_of_ble_eq_true rfl) (by decide) (ty_6 hS.1.1) ?_
        refine Tr.imp (Tr.deep (by decide) (sp_X5_goOn_6 hS.1 )) ?_
        rintro M73 _ ⟨h73, r73, rfl, lr73, ur73⟩
        have hS := St.tr hS h73 (by decide) (by decide)
        refine Tr.sc [(0, r73)] rfl ?_
        refine Tr.pop (pc := 76) d_X5_plainFact_76 ne01 ?_
        refine Tr.aload_n (pc := 77) (i := 0) d_X5_plainFact_77 rfl rfl ?_
        refine Tr.iconst (pc := 78) d_X5_plainFact_78 (by decide) ?_
        refine Tr.callV (pc := 79) (as := [_]) d_X5_plainFact_79 s_5_186 ok_X5_takeName rfl rfl (Nat.le_of_ble_eq_true rfl) (Nat.le_of_ble_eq_true rfl) (by decide) (ty_6 hS.1.1) ?_
        refine Tr.imp (Tr.deep (by decide) (sp_X5_takeName_6_v0 hS.1 hE ((St.kp hS (by decide) (by decide) (by decide)).trans en_6_2) ((St.kp hS (by decide) (by decide) (by decide)).trans en_6_3))) ?_
        rintro M79 _ ⟨h79, r79, rfl, lr79, ur79⟩
        have hS := St.tr hS h79 (by decide) (by decide)
        refine Tr.sc [(0, r79)] rfl ?_
        refine Tr.istore_n (pc := 82) (i := 1) (ls2 := [(1, (0, r79)), (0, (2, 6))]) d_X5_plainFact_82 rfl (by decide) rfl ?_
        refine Tr.aload_n (pc := 83) (i := 0) d_X5_plainFact_83 rfl rfl ?_
        refine Tr.getf (pc := 84) d_X5_plainFact_84 f_5_32 (by decide) (by decide) (ty_6 hS.1.1) ?_
        refine Tr.tp 35 ((St.kp hS (by decide) (by decide) (by decide)).trans en_6_4) ?_
        refine Tr.iconst (pc := 87) d_X5_plainFact_87 (by decide) ?_
        refine Tr.iload_n (pc := 88) (i := 1) d_X5_plainFact_88 rfl rfl ?_
        refine Tr.iconst (pc := 89) d_X5_plainFact_89 (by decide) ?_
        refine Tr.mmax (pc := 90) d_X5_plainFact_90 ml_5_192 mw_mmax (Nat.le_of_ble_eq_true rfl) ?_
        refine Tr.gen (P := fun v => (v = r79 ∧ 0 ≤ r79) ∨ (v = 0 ∧ r79 ≤ 0)) (f_max_p _ _) (fun r90 er90 br90 => ?_)
        refine Tr.callV (pc := 93) (as := [_, _]) d_X5_plainFact_93 s_5_215 ok_X4_emit rfl rfl (Nat.le_of_ble_eq_true rfl) (Nat.le_of_ble_eq_true rfl) (by decide) (ty_35 hS.1.1) ?_
        refine Tr.imp (Tr.deep (by decide) (sp_X4_emit_35_w7 hS.1.wk 4 (by omega) r90 (by omega) (by omega))) ?_
        rintro M93 _ ⟨h93, rfl⟩
        have hS := St.tr hS h93 (by decide) (by decide)
        refine Tr.sc [] rfl ?_
        refine Tr.iload_n (pc := 96) (i := 1) d_X5_plainFact_96 rfl rfl ?_
        refine Tr.if_lt (pc := 97) (tgt := 104) d_X5_plainFact_97 rfl (fun c97 => ?_) (fun c97 => ?_)
        · refine Tr.iconst (pc := 104) d_X5_plainFact_104 (by decide) ?_
          exact Tr.zret (pc := 105) d_X5_plainFact_105 rfl (by omega) ⟨hS, _, rfl, by omega, by omega, fun hq => absurd hq (by omega)⟩
        · refine Tr.iconst (pc := 100) d_X5_plainFact_100 (by decide) ?_
          refine Tr.goto (pc := 101) (tgt := 105) d_X5_plainFact_101 rfl ?_
          exact Tr.zret (pc := 105) d_X5_plainFact_105 rfl (by omega) ⟨hS, _, rfl, by omega, by omega, fun _ => ((St.kp h93 (by decide) (by decide) (by decide)).trans ((St.kp h79 (by decide) (by decide) (by decide)).trans ((St.kp h73 (by decide) (by decide) (by decide)).trans ((St.kp h66 (by decide) (by decide) (by decide)).trans ((St.kp h43 (by decide) (by decide) (by decide)).trans ((St.kp h3 (by decide) (by decide) (by decide)).trans en_6_6))))))⟩
    · refine Tr.aload_n (pc := 49) (i := 0) d_X5_plainFact_49 rfl rfl ?_
      refine Tr.getf (pc := 50) d_X5_plainFact_50 f_5_32 (by decide) (by decide) (ty_6 hS.1.1) ?_
      refine Tr.tp 35 ((St.kp hS (by decide) (by decide) (by decide)).trans en_6_4) ?_
      refine Tr.iconst (pc := 53) d_X5_plainFact_53 (by decide) ?_
      refine Tr.iconst (pc := 54) d_X5_plainFact_54 (by decide) ?_
      refine Tr.callV (pc := 55) (as := [_, _]) d_X5_plainFact_55 s_5_215 ok_X4_emit rfl rfl (Nat.le_of_ble_eq_true rfl) (Nat.le_of_ble_eq_true rfl) (by decide) (ty_35 hS.1.1) ?_
      refine Tr.imp (Tr.deep (by decide) (sp_X4_emit_35_w3 hS.1.wk 0 (by omega) 1 (by omega) (by omega))) ?_
      rintro M55 _ ⟨h55, rfl⟩
      have hS := St.tr hS h55 (by decide) (by decide)
      refine Tr.sc [] rfl ?_
      refine Tr.aload_n (pc := 58) (i := 0) d_X5_plainFact_58 rfl rfl ?_
      refine Tr.callV (pc := 59) (as := []) d_X5_plainFact_59 s_5_74 ok_X5_goOn rfl rfl (Nat.le_of_ble_eq_true rfl) (Nat.le_of_ble_eq_true rfl) (by decide) (ty_6 hS.1.1) ?_
      refine Tr.imp (Tr.deep (by decide) (sp_X5_goOn_6 hS.1 )) ?_
      rintro M59 _ ⟨h59, r59, rfl, lr59, ur59⟩
      have hS := St.tr hS h59 (by decide) (by decide)
      refine Tr.sc [(0, r59)] rfl ?_
      exact Tr.zret (pc := 62) d_X5_plainFact_62 rfl (by omega) ⟨hS, _, rfl, by omega, by omega, fun _ => ((St.kp h59 (by decide) (by decide) (by decide)).trans ((St.kp h55 (by decide) (by decide) (by decide)).trans ((St.kp h43 (by decide) (by decide) (by decide)).trans ((St.kp h3 (by decide) (by decide) (by decide)).trans en_6_6))))⟩
  · refine Tr.aload_n (pc := 9) (i := 0) d_X5_plainFact_9 rfl rfl ?_
    refine Tr.bipush (pc := 10) d_X5_plainFact_10 rfl (by decide) ?_
    refine Tr.callV (pc := 12) (as := [_]) d_X5_plainFact_12 s_5_206 ok_X5_takeOpening rfl rfl (Nat.le_of_ble_eq_true rfl) (Nat.le_of_ble_eq_true rfl) (by decide) (ty_6 hS.1.1) ?_
    refine Tr.imp (Tr.deep (by decide) (sp_X5_takeOpening_6_w10 hS.1 ((St.kp hS (by decide) (by decide) (by decide)).trans en_6_2) ((St.kp h3 (by decide) (by decide) (by decide)).trans en_6_6) 91 (by omega))) ?_
    rintro M12 _ ⟨h12, r12, rfl, lr12, ur12, x12_6_6⟩
    have hS := St.tr hS h12 (by decide) (by decide)
    refine Tr.sc [(0, r12)] rfl ?_
    refine Tr.if_eq (pc := 15) (tgt := 38) d_X5_plainFact_15 rfl (fun c15 => ?_) (fun c15 => ?_)
    · refine Tr.iconst (pc := 38) d_X5_plainFact_38 (by decide) ?_
      exact Tr.zret (pc := 39) d_X5_plainFact_39 rfl (by omega) ⟨hS, _, rfl, by omega, by omega, fun hq => absurd hq (by omega)⟩
    · refine Tr.aload_n (pc := 18) (i := 0) d_X5_plainFact_18 rfl rfl ?_
      refine Tr.callV (pc := 19) (as := []) d_X5_plainFact_19 s_5_177 ok_X5_test rfl rfl (Nat.le_of_ble_eq_true rfl) (Nat.le_of_ble_eq_true rfl) (by decide) (ty_6 hS.1.1) ?_
      refine Tr.imp (Tr.deep (by decide) (sp_X5_test_6_w2 hS.1 hE ((St.kp hS (by decide) (by decide) (by decide)).trans en_6_2) ((St.kp hS (by decide) (by decide) (by decide)).trans en_6_3) ((St.kp hS (by decide) (by decide) (by decide)).trans en_6_4) (x12_6_6 (by omega)))) ?_
      rintro M19 _ ⟨h19, r19, rfl, lr19, ur19, x19_6_6⟩
      have hS := St.tr hS h19 (by decide) (by decide)
      refine Tr.sc [(0, r19)] rfl ?_
      refine Tr.if_eq (pc := 22) (tgt := 38) d_X5_plainFact_22 rfl (fun c22 => ?_) (fun c22 => ?_)
      · refine Tr.iconst (pc := 38) d_X5_plainFact_38 (by decide) ?_
        exact Tr.zret (pc := 39) d_X5_plainFact_39 rfl (by omega) ⟨hS, _, rfl, by omega, by omega, fun hq => absurd hq (by omega)⟩
      · refine Tr.aload_n (pc := 25) (i := 0) d_X5_plainFact_25 rfl rfl ?_
        refine Tr.bipush (pc := 26) d_X5_plainFact_26 rfl (by decide) ?_
        refine Tr.callV (pc := 28) (as := [_]) d_X5_plainFact_28 s_5_209 ok_X5_takeClosing rfl rfl (Nat.le_of_ble_eq_true rfl) (Nat.le_of_ble_eq_true rfl) (by decide) (ty_6 hS.1.1) ?_
        refine Tr.imp (Tr.deep (by decide) (sp_X5_takeClosing_6_w14 hS.1 ((St.kp hS (by decide) (by decide) (by decide)).trans en_6_2) (x19_6_6 (by omega)) 93 (by omega))) ?_
        rintro M28 _ ⟨h28, r28, rfl, lr28, ur28, x28_6_6⟩
        have hS := St.tr hS h28 (by decide) (by decide)
        refine Tr.sc [(0, r28)] rfl ?_
        refine Tr.if_eq (pc := 31) (tgt := 38) d_X5_plainFact_31 rfl (fun c31 => ?_) (fun c31 => ?_)
        · refine Tr.iconst (pc := 38) d_X5_plainFact_38 (by decide) ?_
          exact Tr.zret (pc := 39) d_X5_plainFact_39 rfl (by omega) ⟨hS, _, rfl, by omega, by omega, fun hq => absurd hq (by omega)⟩
        · refine Tr.iconst (pc := 34) d_X5_plainFact_34 (by decide) ?_
          refine Tr.goto (pc := 35) (tgt := 39) d_X5_plainFact_35 rfl ?_
          exact Tr.zret (pc := 39) d_X5_plainFact_39 rfl (by omega) ⟨hS, _, rfl, by omega, by omega, fun _ => (x28_6_6 (by omega))⟩

def ws_X5_fact_6_w1 : List (Int × Int) := [(6, 0), (6, 1), (6, 5), (6, 6), (35, 11)]
def as_X5_fact_6_w1 : List Int := [44, 45]
def q_X5_fact_6_w1 (M0 M' : Mem) (r : Option PV) : Prop := St Tru ws_X5_fact_6_w1 as_X5_fact_6_w1 M0 M' ∧ ∃ v : Int, r = some (0, v) ∧ 0 ≤ v ∧ v ≤ 1 ∧ ((1 ≤ v ∧ v ≤ 1) → rd M' 6 6 = 1)
set_option maxRecDepth 100000 in
set_option maxHeartbeats 4000000 in
theorem sp_X5_fact_6_w1 {l : Launch} {K : EC} {M0 : Mem} {xq : Int} (hI : In Tru M0) (hE : e_all K xq) (en_6_2 : rd M0 6 2 = 2) (en_6_3 : rd M0 6 3 = 27) (en_6_4 : rd M0 6 4 = 35) (en_6_6 : rd M0 6 6 = 1)   : Tr l K 35 mX5_fact 0 [(0, (2, 6))] [] M0 (q_X5_fact_6_w1 M0) := by
  have hS : St Tru ws_X5_fact_6_w1 as_X5_fact_6_w1 M0 M0 := St.rf hI
  refine Tr.iconst (pc := 0) d_X5_fact_0 (by decide) ?_
  refine Tr.istore_n (pc := 1) (i := 1) (ls2 := [(1, (0, 0)), (0, (2, 6))]) d_X5_fact_1 rfl (by decide) rfl ?_
  refine Tr.iconst (pc := 2) d_X5_fact_2 (by decide) ?_
  refine Tr.istore_n (pc := 3) (i := 2) (ls2 := [(2, (0, 0)), (1, (0, 0)), (0, (2, 6))]) d_X5_fact_3 rfl (by decide) rfl ?_
  have J4 : ∀ (n4 : Nat) (M : Mem) (p4_1 p4_2 : Int), St Tru ws_X5_fact_6_w1 as_X5_fact_6_w1 M0 M → (0 ≤ p4_1 ∧ p4_1 ≤ 1) → (0 ≤ p4_2 ∧ p4_2 ≤ 900) → rd M 6 6 = 1 → (900 - p4_2).toNat < n4 → Tr l K 35 mX5_fact 4 [(0, (2, 6)), (1, (0, p4_1)), (2, (0, p4_2))] [] M (q_X5_fact_6_w1 M0) := by
    intro n4
    induction n4 with
    | zero => intro M p4_1 p4_2 hS bp4_1 bp4_2 k4_6_6 hm4; exact absurd hm4 (Nat.not_lt_zero _)
    | succ n4 J4 =>
      intro M p4_1 p4_2 hS bp4_1 bp4_2 k4_6_6 hm4
      refine Tr.iload_n (pc := 4) (i := 2) d_X5_fact_4 rfl rfl ?_
      refine Tr.sipush (pc := 5) d_X5_fact_5 rfl (by decide) ?_
      have J41 : ∀ (M : Mem), St Tru ws_X5_fact_6_w1 as_X5_fact_6_w1 M0 M → rd M 6 6 = 1 → Tr l K 35 mX5_fact 41 [(0, (2, 6)), (1, (0, p4_1))] [] M (q_X5_fact_6_w1 M0) := by
        intro M  hS  k41_6_6
        refine Tr.aload_n (pc := 41) (i := 0) d_X5_fact_41 rfl rfl ?_
        refine Tr.callV (pc := 42) (as := []) d_X5_fact_42 s_5_221 ok_X5_plainFact rfl rfl (Nat.le_of_ble_eq_true rfl) (Nat.le_of_ble_eq_true rfl) (by decide) (ty_6 hS.1.1) ?_
        refine Tr.imp (Tr.deep (by decide) (sp_X5_plainFact_6_w1 hS.1 hE ((St.kp hS (by decide) (by decide) (by decide)).trans en_6_2) ((St.kp hS (by decide) (by decide) (by decide)).trans en_6_3) ((St.kp hS (by decide) (by decide) (by decide)).trans en_6_4) k41_6_6)) ?_
        rintro M42 _ ⟨h42, r42, rfl, lr42, ur42, x42_6_6⟩
        have hS := St.tr hS h42 (by decide) (by decide)
        refine Tr.sc [(0, r42)] rfl ?_
        refine Tr.istore_n (pc := 45) (i := 2) (ls2 := [(2, (0, r42)), (0, (2, 6)), (1, (0, p4_1))]) d_X5_fact_45 rfl (by decide) rfl ?_
        refine Tr.iload_n (pc := 46) (i := 1) d_X5_fact_46 rfl rfl ?_
        refine Tr.if_eq (pc := 47) (tgt := 59) d_X5_fact_47 rfl (fun c47 => ?_) (fun c47 => ?_)
        · refine Tr.iload_n (pc := 59) (i := 2) d_X5_fact_59 rfl rfl ?_
          exact Tr.zret (pc := 60) d_X5_fact_60 rfl (by omega) ⟨hS, _, rfl, by omega, by omega, fun hq => (x42_6_6 (by omega))⟩
        · refine Tr.aload_n (pc := 50) (i := 0) d_X5_fact_50 rfl rfl ?_
          refine Tr.getf (pc := 51) d_X5_fact_51 f_5_32 (by decide) (by decide) (ty_6 hS.1.1) ?_
          refine Tr.tp 35 ((St.kp hS (by decide) (by decide) (by decide)).trans en_6_4) ?_
          refine Tr.iconst (pc := 54) d_X5_fact_54 (by decide) ?_
          refine Tr.iconst (pc := 55) d_X5_fact_55 (by decide) ?_
          refine Tr.callV (pc := 56) (as := [_, _]) d_X5_fact_56 s_5_215 ok_X4_emit rfl rfl (Nat.le_of_ble_eq_true rfl) (Nat.le_of_ble_eq_true rfl) (by decide) (ty_35 hS.1.1) ?_
          refine Tr.imp (Tr.deep (by decide) (sp_X4_emit_35_w7 hS.1.wk 5 (by omega) 0 (by omega) (by omega))) ?_
          rintro M56 _ ⟨h56, rfl⟩
          have hS := St.tr hS h56 (by decide) (by decide)
          refine Tr.sc [] rfl ?_
          refine Tr.iload_n (pc := 59) (i := 2) d_X5_fact_59 rfl rfl ?_
          exact Tr.zret (pc := 60) d_X5_fact_60 rfl (by omega) ⟨hS, _, rfl, by omega, by omega, fun hq => ((St.kp h56 (by decide) (by decide) (by decide)).trans (x42_6_6 (by omega)))⟩
      refine Tr.icmp_ge (pc := 8) (tgt := 41) d_X5_fact_8 rfl (fun c8 => ?_) (fun c8 => ?_)
      · refine Tr.pick [0, 1] (ls2 := [(0, (2, 6)), (1, (0, p4_1))]) rfl ?_
        exact J41 _ hS k4_6_6
      · refine Tr.aload_n (pc := 11) (i := 0) d_X5_fact_11 rfl rfl ?_
        refine Tr.bipush (pc := 12) d_X5_fact_12 rfl (by decide) ?_
        refine Tr.callV (pc := 14) (as := [_]) d_X5_fact_14 s_5_71 ok_X5_isOwn rfl rfl (Nat.le_of_ble_eq_true rfl) (Nat.le_of_ble_eq_true rfl) (by decide) (ty_6 hS.1.1) ?_
        refine Tr.imp (Tr.deep (by decide) (sp_X5_isOwn_6_w4 hS.1 ((St.kp hS (by decide) (by decide) (by decide)).trans en_6_2) 21 (by omega))) ?_
        rintro M14 _ ⟨h14, r14, rfl, lr14, ur14⟩
        have hS := St.tr hS h14 (by decide) (by decide)
        refine Tr.sc [(0, r14)] rfl ?_
        refine Tr.if_eq (pc := 17) (tgt := 41) d_X5_fact_17 rfl (fun c17 => ?_) (fun c17 => ?_)
        · refine Tr.pick [0, 1] (ls2 := [(0, (2, 6)), (1, (0, p4_1))]) rfl ?_
          exact J41 _ hS ((St.kp h14 (by decide) (by decide) (by decide)).trans k4_6_6)
        · refine Tr.aload_n (pc := 20) (i := 0) d_X5_fact_20 rfl rfl ?_
          refine Tr.callV (pc := 21) (as := []) d_X5_fact_21 s_5_74 ok_X5_goOn rfl rfl (Nat.le_of_ble_eq_true rfl) (Nat.le_of_ble_eq_true rfl) (by decide) (ty_6 hS.1.1) ?_
          refine Tr.imp (Tr.deep (by decide) (sp_X5_goOn_6 hS.1 )) ?_
          rintro M21 _ ⟨h21, r21, rfl, lr21, ur21⟩
          have hS := St.tr hS h21 (by decide) (by decide)
          refine Tr.sc [(0, r21)] rfl ?_
          refine Tr.pop (pc := 24) d_X5_fact_24 ne01 ?_
          refine Tr.iload_n (pc := 25) (i := 1) d_X5_fact_25 rfl rfl ?_
          have J34 : ∀ (M : Mem) (q34_0 : Int), St Tru ws_X5_fact_6_w1 as_X5_fact_6_w1 M0 M → (0 ≤ q34_0 ∧ q34_0 ≤ 1) → rd M 6 6 = 1 → Tr l K 35 mX5_fact 34 [(0, (2, 6)), (2, (0, p4_2))] [(0, q34_0)] M (q_X5_fact_6_w1 M0) := by
            intro M q34_0 hS bq34_0 k34_6_6
            refine Tr.istore_n (pc := 34) (i := 1) (ls2 := [(1, (0, q34_0)), (0, (2, 6)), (2, (0, p4_2))]) d_X5_fact_34 rfl (by decide) rfl ?_
            refine Tr.iincV (pc := 35) (n2 := (p4_2 + 1)) (ls2 := [(2, (0, (p4_2 + 1))), (1, (0, q34_0)), (0, (2, 6))]) d_X5_fact_35 rfl (by decide) ((w32_id (by omega)).trans (by omega)) rfl ?_
            refine Tr.goto (pc := 38) (tgt := 4) d_X5_fact_38 rfl ?_
            refine Tr.pick [2, 1, 0] (ls2 := [(0, (2, 6)), (1, (0, q34_0)), (2, (0, (p4_2 + 1)))]) rfl ?_
            exact J4 _ _ _ hS (by omega) (by omega) k34_6_6 (by omega)
          refine Tr.if_ne (pc := 26) (tgt := 33) d_X5_fact_26 rfl (fun c26 => ?_) (fun c26 => ?_)
          · refine Tr.iconst (pc := 33) d_X5_fact_33 (by decide) ?_
            refine Tr.pick [0, 2] (ls2 := [(0, (2, 6)), (2, (0, p4_2))]) rfl ?_
            exact J34 _ _ hS (by omega) ((St.kp h21 (by decide) (by decide) (by decide)).trans ((St.kp h14 (by decide) (by decide) (by decide)).trans k4_6_6))
          · refine Tr.iconst (pc := 29) d_X5_fact_29 (by decide) ?_
            refine Tr.goto (pc := 30) (tgt := 34) d_X5_fact_30 rfl ?_
            refine Tr.pick [0, 2] (ls2 := [(0, (2, 6)), (2, (0, p4_2))]) rfl ?_
            exact J34 _ _ hS (by omega) ((St.kp h21 (by decide) (by decide) (by decide)).trans ((St.kp h14 (by decide) (by decide) (by decide)).trans k4_6_6))
  refine Tr.pick [2, 1, 0] (ls2 := [(0, (2, 6)), (1, (0, 0)), (2, (0, 0))]) rfl ?_
  exact J4 _ _ _ _ hS (by omega) (by omega) en_6_6 (Nat.lt_succ_self _)

def ws_X5_both_6_w1 : List (Int × Int) := [(6, 0), (6, 1), (6, 5), (6, 6), (35, 11)]
def as_X5_both_6_w1 : List Int := [44, 45]
def q_X5_both_6_w1 (M0 M' : Mem) (r : Option PV) : Prop := St Tru ws_X5_both_6_w1 as_X5_both_6_w1 M0 M' ∧ ∃ v : Int, r = some (0, v) ∧ 0 ≤ v ∧ v ≤ 1 ∧ ((1 ≤ v ∧ v ≤ 1) → rd M' 6 6 = 1)
set_option maxRecDepth 100000 in
set_option maxHeartbeats 4000000 in
theorem sp_X5_both_6_w1 {l : Launch} {K : EC} {M0 : Mem} {xq : Int} (hI : In Tru M0) (hE : e_all K xq) (en_6_2 : rd M0 6 2 = 2) (en_6_3 : rd M0 6 3 = 27) (en_6_4 : rd M0 6 4 = 35) (en_6_6 : rd M0 6 6 = 1)   : Tr l K 36 mX5_both 0 [(0, (2, 6))] [] M0 (q_X5_both_6_w1 M0) := by
  have hS : St Tru ws_X5_both_6_w1 as_X5_both_6_w1 M0 M0 := St.rf hI
  refine Tr.aload_n (pc := 0) (i := 0) d_X5_both_0 rfl rfl ?_
  refine Tr.callV (pc := 1) (as := []) d_X5_both_1 s_5_218 ok_X5_fact rfl rfl (Nat.le_of_ble_eq_true rfl) (Nat.le_of_ble_eq_true rfl) (by decide) (ty_6 hS.1.1) ?_
  refine Tr.imp (Tr.deep (by decide) (sp_X5_fact_6_w1 hS.1 hE ((St.kp hS (by decide) (by decide) (by decide)).trans en_6_2) ((St.kp hS (by decide) (by decide) (by decide)).trans en_6_3) ((St.kp hS (by decide) (by decide) (by decide)).trans en_6_4) en_6_6)) ?_
  rintro M1 _ ⟨h1, r1, rfl, lr1, ur1, x1_6_6⟩
  have hS := St.tr hS h1 (by decide) (by decide)
  refine Tr.sc [(0, r1)] rfl ?_
  refine Tr.istore_n (pc := 4) (i := 1) (ls2 := [(1, (0, r1)), (0, (2, 6))]) d_X5_both_4 rfl (by decide) rfl ?_
  refine Tr.iconst (pc := 5) d_X5_both_5 (by decide) ?_
  refine Tr.istore_n (pc := 6) (i := 2) (ls2 := [(2, (0, 0)), (1, (0, r1)), (0, (2, 6))]) d_X5_both_6 rfl (by decide) rfl ?_
  have J7 : ∀ (n7 : Nat) (M : Mem) (p7_1 p7_2 : Int), St Tru ws_X5_both_6_w1 as_X5_both_6_w1 M0 M → (0 ≤ p7_1 ∧ p7_1 ≤ 1) → (0 ≤ p7_2 ∧ p7_2 ≤ 900) → (p7_1 = 1 → rd M 6 6 = 1) → (900 - p7_2).toNat < n7 → Tr l K 36 mX5_both 7 [(0, (2, 6)), (1, (0, p7_1)), (2, (0, p7_2))] [] M (q_X5_both_6_w1 M0) := by
    intro n7
    induction n7 with
    | zero => intro M p7_1 p7_2 hS bp7_1 bp7_2  y7_p7_1_6_60 hm7; exact absurd hm7 (Nat.not_lt_zero _)
    | succ n7 J7 =>
      intro M p7_1 p7_2 hS bp7_1 bp7_2  y7_p7_1_6_60 hm7
      have y7_p7_1_6_6 : 1 ≤ p7_1 ∧ p7_1 ≤ 1 → rd M 6 6 = 1 := fun hq => y7_p7_1_6_60 (by omega)
      refine Tr.iload_n (pc := 7) (i := 2) d_X5_both_7 rfl rfl ?_
      refine Tr.sipush (pc := 8) d_X5_both_8 rfl (by decide) ?_
      refine Tr.icmp_ge (pc := 11) (tgt := 53) d_X5_both_11 rfl (fun c11 => ?_) (fun c11 => ?_)
      · refine Tr.iload_n (pc := 53) (i := 1) d_X5_both_53 rfl rfl ?_
        exact Tr.zret (pc := 54) d_X5_both_54 rfl (by omega) ⟨hS, _, rfl, by omega, by omega, fun hq => (y7_p7_1_6_6 (by omega))⟩
      · refine Tr.iload_n (pc := 14) (i := 1) d_X5_both_14 rfl rfl ?_
        refine Tr.if_eq (pc := 15) (tgt := 53) d_X5_both_15 rfl (fun c15 => ?_) (fun c15 => ?_)
        · refine Tr.iload_n (pc := 53) (i := 1) d_X5_both_53 rfl rfl ?_
          exact Tr.zret (pc := 54) d_X5_both_54 rfl (by omega) ⟨hS, _, rfl, by omega, by omega, fun hq => absurd hq (by omega)⟩
        · refine Tr.aload_n (pc := 18) (i := 0) d_X5_both_18 rfl rfl ?_
          refine Tr.bipush (pc := 19) d_X5_both_19 rfl (by decide) ?_
          refine Tr.callV (pc := 21) (as := [_]) d_X5_both_21 s_5_71 ok_X5_isOwn rfl rfl (Nat.le_of_ble_eq_true rfl) (Nat.le_of_ble_eq_true rfl) (by decide) (ty_6 hS.1.1) ?_
          refine Tr.imp (Tr.deep (by decide) (sp_X5_isOwn_6_w3 hS.1 ((St.kp hS (by decide) (by decide) (by decide)).trans en_6_2) 20 (by omega))) ?_
          rintro M21 _ ⟨h21, r21, rfl, lr21, ur21⟩
          have hS := St.tr hS h21 (by decide) (by decide)
          refine Tr.sc [(0, r21)] rfl ?_
          refine Tr.if_eq (pc := 24) (tgt := 53) d_X5_both_24 rfl (fun c24 => ?_) (fun c24 => ?_)
          · refine Tr.iload_n (pc := 53) (i := 1) d_X5_both_53 rfl rfl ?_
            exact Tr.zret (pc := 54) d_X5_both_54 rfl (by omega) ⟨hS, _, rfl, by omega, by omega, fun _ => ((St.kp h21 (by decide) (by decide) (by decide)).trans (y7_p7_1_6_6 (by omega)))⟩
          · refine Tr.aload_n (pc := 27) (i := 0) d_X5_both_27 rfl rfl ?_
            refine Tr.callV (pc := 28) (as := []) d_X5_both_28 s_5_74 ok_X5_goOn rfl rfl (Nat.le_of_ble_eq_true rfl) (Nat.le_of_ble_eq_true rfl) (by decide) (ty_6 hS.1.1) ?_
            refine Tr.imp (Tr.deep (by decide) (sp_X5_goOn_6 hS.1 )) ?_
            rintro M28 _ ⟨h28, r28, rfl, lr28, ur28⟩
            have hS := St.tr hS h28 (by decide) (by decide)
            refine Tr.sc [(0, r28)] rfl ?_
            refine Tr.pop (pc := 31) d_X5_both_31 ne01 ?_
            refine Tr.aload_n (pc := 32) (i := 0) d_X5_both_32 rfl rfl ?_
            refine Tr.callV (pc := 33) (as := []) d_X5_both_33 s_5_218 ok_X5_fact rfl rfl (Nat.le_of_ble_eq_true rfl) (Nat.le_of_ble_eq_true rfl) (by decide) (ty_6 hS.1.1) ?_
            refine Tr.imp (Tr.deep (by decide) (sp_X5_fact_6_w1 hS.1 hE ((St.kp hS (by decide) (by decide) (by decide)).trans en_6_2) ((St.kp hS (by decide) (by decide) (by decide)).trans en_6_3) ((St.kp hS (by decide) (by decide) (by decide)).trans en_6_4) ((St.kp h28 (by decide) (by decide) (by decide)).trans ((St.kp h21 (by decide) (by decide) (by decide)).trans (y7_p7_1_6_6 (by omega)))))) ?_
            rintro M33 _ ⟨h33, r33, rfl, lr33, ur33, x33_6_6⟩
            have hS := St.tr hS h33 (by decide) (by decide)
            refine Tr.sc [(0, r33)] rfl ?_
            refine Tr.istore_n (pc := 36) (i := 1) (ls2 := [(1, (0, r33)), (0, (2, 6)), (2, (0, p7_2))]) d_X5_both_36 rfl (by decide) rfl ?_
            refine Tr.aload_n (pc := 37) (i := 0) d_X5_both_37 rfl rfl ?_
            refine Tr.getf (pc := 38) d_X5_both_38 f_5_32 (by decide) (by decide) (ty_6 hS.1.1) ?_
            refine Tr.tp 35 ((St.kp hS (by decide) (by decide) (by decide)).trans en_6_4) ?_
            refine Tr.bipush (pc := 41) d_X5_both_41 rfl (by decide) ?_
            refine Tr.iconst (pc := 43) d_X5_both_43 (by decide) ?_
            refine Tr.callV (pc := 44) (as := [_, _]) d_X5_both_44 s_5_215 ok_X4_emit rfl rfl (Nat.le_of_ble_eq_true rfl) (Nat.le_of_ble_eq_true rfl) (by decide) (ty_35 hS.1.1) ?_
            refine Tr.imp (Tr.deep (by decide) (sp_X4_emit_35_w9 hS.1.wk 16 (by omega) 0 (by omega) (by omega))) ?_
            rintro M44 _ ⟨h44, rfl⟩
            have hS := St.tr hS h44 (by decide) (by decide)
            refine Tr.sc [] rfl ?_
            refine Tr.iincV (pc := 47) (n2 := (p7_2 + 1)) (ls2 := [(2, (0, (p7_2 + 1))), (1, (0, r33)), (0, (2, 6))]) d_X5_both_47 rfl (by decide) ((w32_id (by omega)).trans (by omega)) rfl ?_
            refine Tr.goto (pc := 50) (tgt := 7) d_X5_both_50 rfl ?_
            refine Tr.pick [2, 1, 0] (ls2 := [(0, (2, 6)), (1, (0, r33)), (2, (0, (p7_2 + 1)))]) rfl ?_
            exact J7 _ _ _ hS (by omega) (by omega) (fun hq => ((St.kp h44 (by decide) (by decide) (by decide)).trans (x33_6_6 (by omega)))) (by omega)
  refine Tr.pick [2, 1, 0] (ls2 := [(0, (2, 6)), (1, (0, r1)), (2, (0, 0))]) rfl ?_
  exact J7 _ _ _ _ hS (by omega) (by omega) (fun hq => (x1_6_6 (by omega))) (Nat.lt_succ_self _)

def ws_X5_test_6_w1 : List (Int × Int) := [(6, 0), (6, 1), (6, 5), (6, 6), (35, 11)]
def as_X5_test_6_w1 : List Int := [44, 45]
def q_X5_test_6_w1 (M0 M' : Mem) (r : Option PV) : Prop := St Tru ws_X5_test_6_w1 as_X5_test_6_w1 M0 M' ∧ ∃ v : Int, r = some (0, v) ∧ 0 ≤ v ∧ v ≤ 1 ∧ ((1 ≤ v ∧ v ≤ 1) → rd M' 6 6 = 1)
set_option maxRecDepth 100000 in
set_option maxHeartbeats 4000000 in
theorem sp_X5_test_6_w1 {l : Launch} {K : EC} {M0 : Mem} {xq : Int} (hI : In Tru M0) (hE : e_all K xq) (en_6_2 : rd M0 6 2 = 2) (en_6_3 : rd M0 6 3 = 27) (en_6_4 : rd M0 6 4 = 35) (en_6_6 : rd M0 6 6 = 1)   : Tr l K 37 mX5_test 0 [(0, (2, 6))] [] M0 (q_X5_test_6_w1 M0) := by
  have hS : St Tru ws_X5_test_6_w1 as_X5_test_6_w1 M0 M0 := St.rf hI
  refine Tr.aload_n (pc := 0) (i := 0) d_X5_test_0 rfl rfl ?_
  refine Tr.callV (pc := 1) (as := []) d_X5_test_1 s_5_212 ok_X5_both rfl rfl (Nat.le_of_ble_eq_true rfl) (Nat.le_of_ble_eq_true rfl) (by decide) (ty_6 hS.1.1) ?_
  refine Tr.imp (Tr.deep (by decide) (sp_X5_both_6_w1 hS.1 hE ((St.kp hS (by decide) (by decide) (by decide)).trans en_6_2) ((St.kp hS (by decide) (by decide) (by decide)).trans en_6_3) ((St.kp hS (by decide) (by decide) (by decide)).trans en_6_4) en_6_6)) ?_
  rintro M1 _ ⟨h1, r1, rfl, lr1, ur1, x1_6_6⟩
  have hS := St.tr hS h1 (by decide) (by decide)
  refine Tr.sc [(0, r1)] rfl ?_
  refine Tr.istore_n (pc := 4) (i := 1) (ls2 := [(1, (0, r1)), (0, (2, 6))]) d_X5_test_4 rfl (by decide) rfl ?_
  refine Tr.iconst (pc := 5) d_X5_test_5 (by decide) ?_
  refine Tr.istore_n (pc := 6) (i := 2) (ls2 := [(2, (0, 0)), (1, (0, r1)), (0, (2, 6))]) d_X5_test_6 rfl (by decide) rfl ?_
  have J7 : ∀ (n7 : Nat) (M : Mem) (p7_1 p7_2 : Int), St Tru ws_X5_test_6_w1 as_X5_test_6_w1 M0 M → (0 ≤ p7_1 ∧ p7_1 ≤ 1) → (0 ≤ p7_2 ∧ p7_2 ≤ 900) → (p7_1 = 1 → rd M 6 6 = 1) → (900 - p7_2).toNat < n7 → Tr l K 37 mX5_test 7 [(0, (2, 6)), (1, (0, p7_1)), (2, (0, p7_2))] [] M (q_X5_test_6_w1 M0) := by
    intro n7
    induction n7 with
    | zero => intro M p7_1 p7_2 hS bp7_1 bp7_2  y7_p7_1_6_60 hm7; exact absurd hm7 (Nat.not_lt_zero _)
    | succ n7 J7 =>
      intro M p7_1 p7_2 hS bp7_1 bp7_2  y7_p7_1_6_60 hm7
      have y7_p7_1_6_6 : 1 ≤ p7_1 ∧ p7_1 ≤ 1 → rd M 6 6 = 1 := fun hq => y7_p7_1_6_60 (by omega)
      refine Tr.iload_n (pc := 7) (i := 2) d_X5_test_7 rfl rfl ?_
      refine Tr.sipush (pc := 8) d_X5_test_8 rfl (by decide) ?_
      refine Tr.icmp_ge (pc := 11) (tgt := 53) d_X5_test_11 rfl (fun c11 => ?_) (fun c11 => ?_)
      · refine Tr.iload_n (pc := 53) (i := 1) d_X5_test_53 rfl rfl ?_
        exact Tr.zret (pc := 54) d_X5_test_54 rfl (by omega) ⟨hS, _, rfl, by omega, by omega, fun hq => (y7_p7_1_6_6 (by omega))⟩
      · refine Tr.iload_n (pc := 14) (i := 1) d_X5_test_14 rfl rfl ?_
        refine Tr.if_eq (pc := 15) (tgt := 53) d_X5_test_15 rfl (fun c15 => ?_) (fun c15 => ?_)
        · refine Tr.iload_n (pc := 53) (i := 1) d_X5_test_53 rfl rfl ?_
          exact Tr.zret (pc := 54) d_X5_test_54 rfl (by omega) ⟨hS, _, rfl, by omega, by omega, fun hq => absurd hq (by omega)⟩
        · refine Tr.aload_n (pc := 18) (i := 0) d_X5_test_18 rfl rfl ?_
          refine Tr.bipush (pc := 19) d_X5_test_19 rfl (by decide) ?_
          refine Tr.callV (pc := 21) (as := [_]) d_X5_test_21 s_5_71 ok_X5_isOwn rfl rfl (Nat.le_of_ble_eq_true rfl) (Nat.le_of_ble_eq_true rfl) (by decide) (ty_6 hS.1.1) ?_
          refine Tr.imp (Tr.deep (by decide) (sp_X5_isOwn_6_w3 hS.1 ((St.kp hS (by decide) (by decide) (by decide)).trans en_6_2) 19 (by omega))) ?_
          rintro M21 _ ⟨h21, r21, rfl, lr21, ur21⟩
          have hS := St.tr hS h21 (by decide) (by decide)
          refine Tr.sc [(0, r21)] rfl ?_
          refine Tr.if_eq (pc := 24) (tgt := 53) d_X5_test_24 rfl (fun c24 => ?_) (fun c24 => ?_)
          · refine Tr.iload_n (pc := 53) (i := 1) d_X5_test_53 rfl rfl ?_
            exact Tr.zret (pc := 54) d_X5_test_54 rfl (by omega) ⟨hS, _, rfl, by omega, by omega, fun _ => ((St.kp h21 (by decide) (by decide) (by decide)).trans (y7_p7_1_6_6 (by omega)))⟩
          · refine Tr.aload_n (pc := 27) (i := 0) d_X5_test_27 rfl rfl ?_
            refine Tr.callV (pc := 28) (as := []) d_X5_test_28 s_5_74 ok_X5_goOn rfl rfl (Nat.le_of_ble_eq_true rfl) (Nat.le_of_ble_eq_true rfl) (by decide) (ty_6 hS.1.1) ?_
            refine Tr.imp (Tr.deep (by decide) (sp_X5_goOn_6 hS.1 )) ?_
            rintro M28 _ ⟨h28, r28, rfl, lr28, ur28⟩
            have hS := St.tr hS h28 (by decide) (by decide)
            refine Tr.sc [(0, r28)] rfl ?_
            refine Tr.pop (pc := 31) d_X5_test_31 ne01 ?_
            refine Tr.aload_n (pc := 32) (i := 0) d_X5_test_32 rfl rfl ?_
            refine Tr.callV (pc := 33) (as := []) d_X5_test_33 s_5_212 ok_X5_both rfl rfl (Nat.le_of_ble_eq_true rfl) (Nat.le_of_ble_eq_true rfl) (by decide) (ty_6 hS.1.1) ?_
            refine Tr.imp (Tr.deep (by decide) (sp_X5_both_6_w1 hS.1 hE ((St.kp hS (by decide) (by decide) (by decide)).trans en_6_2) ((St.kp hS (by decide) (by decide) (by decide)).trans en_6_3) ((St.kp hS (by decide) (by decide) (by decide)).trans en_6_4) ((St.kp h28 (by decide) (by decide) (by decide)).trans ((St.kp h21 (by decide) (by decide) (by decide)).trans (y7_p7_1_6_6 (by omega)))))) ?_
            rintro M33 _ ⟨h33, r33, rfl, lr33, ur33, x33_6_6⟩
            have hS := St.tr hS h33 (by decide) (by decide)
            refine Tr.sc [(0, r33)] rfl ?_
            refine Tr.istore_n (pc := 36) (i := 1) (ls2 := [(1, (0, r33)), (0, (2, 6)), (2, (0, p7_2))]) d_X5_test_36 rfl (by decide) rfl ?_
            refine Tr.aload_n (pc := 37) (i := 0) d_X5_test_37 rfl rfl ?_
            refine Tr.getf (pc := 38) d_X5_test_38 f_5_32 (by decide) (by decide) (ty_6 hS.1.1) ?_
            refine Tr.tp 35 ((St.kp hS (by decide) (by decide) (by decide)).trans en_6_4) ?_
            refine Tr.bipush (pc := 41) d_X5_test_41 rfl (by decide) ?_
            refine Tr.iconst (pc := 43) d_X5_test_43 (by decide) ?_
            refine Tr.callV (pc := 44) (as := [_, _]) d_X5_test_44 s_5_215 ok_X4_emit rfl rfl (Nat.le_of_ble_eq_true rfl) (Nat.le_of_ble_eq_true rfl) (by decide) (ty_35 hS.1.1) ?_
            refine Tr.imp (Tr.deep (by decide) (sp_X4_emit_35_w10 hS.1.wk 17 (by omega) 0 (by omega) (by omega))) ?_
            rintro M44 _ ⟨h44, rfl⟩
            have hS := St.tr hS h44 (by decide) (by decide)
            refine Tr.sc [] rfl ?_
            refine Tr.iincV (pc := 47) (n2 := (p7_2 + 1)) (ls2 := [(2, (0, (p7_2 + 1))), (1, (0, r33)), (0, (2, 6))]) d_X5_test_47 rfl (by decide) ((w32_id (by omega)).trans (by omega)) rfl ?_
            refine Tr.goto (pc := 50) (tgt := 7) d_X5_test_50 rfl ?_
            refine Tr.pick [2, 1, 0] (ls2 := [(0, (2, 6)), (1, (0, r33)), (2, (0, (p7_2 + 1)))]) rfl ?_
            exact J7 _ _ _ hS (by omega) (by omega) (fun hq => ((St.kp h44 (by decide) (by decide) (by decide)).trans (x33_6_6 (by omega)))) (by omega)
  refine Tr.pick [2, 1, 0] (ls2 := [(0, (2, 6)), (1, (0, r1)), (2, (0, 0))]) rfl ?_
  exact J7 _ _ _ _ hS (by omega) (by omega) (fun hq => (x1_6_6 (by omega))) (Nat.lt_succ_self _)

def ws_X5_plainFact_6 : List (Int × Int) := [(6, 0), (6, 1), (6, 5), (6, 6), (35, 11)]
def as_X5_plainFact_6 : List Int := [44, 45]
def q_X5_plainFact_6 (M0 M' : Mem) (r : Option PV) : Prop := St Tru ws_X5_plainFact_6 as_X5_plainFact_6 M0 M' ∧ ∃ v : Int, r = some (0, v) ∧ 0 ≤ v ∧ v ≤ 1 ∧ ((1 ≤ v ∧ v ≤ 1) → rd M' 6 6 = 0)
set_option maxRecDepth 100000 in
set_option maxHeartbeats 4000000 in
theorem sp_X5_plainFact_6 {l : Launch} {K : EC} {M0 : Mem} {xq : Int} (hI : In Tru M0) (hE : e_all K xq) (en_6_2 : rd M0 6 2 = 2) (en_6_3 : rd M0 6 3 = 27) (en_6_4 : rd M0 6 4 = 35) (en_6_6 : rd M0 6 6 = 0)   : Tr l K 38 mX5_plainFact 0 [(0, (2, 6))] [] M0 (q_X5_plainFact_6 M0) := by
  have hS : St Tru ws_X5_plainFact_6 as_X5_plainFact_6 M0 M0 := St.rf hI
  refine Tr.aload_n (pc := 0) (i := 0) d_X5_plainFact_0 rfl rfl ?_
  refine Tr.bipush (pc := 1) d_X5_plainFact_1 rfl (by decide) ?_
  refine Tr.callV (pc := 3) (as := [_]) d_X5_plainFact_3 s_5_77 ok_X5_isSign rfl rfl (Nat.le_of_ble_eq_true rfl) (Nat.le_of_ble_eq_true rfl) (by decide) (ty_6 hS.1.1) ?_
  refine Tr.imp (Tr.deep (by decide) (sp_X5_isSign_6_w1 hS.1 ((St.kp hS (by decide) (by decide) (by decide)).trans en_6_2) 91 (by omega))) ?_
  rintro M3 _ ⟨h3, r3, rfl, lr3, ur3⟩
  have hS := St.tr hS h3 (by decide) (by decide)
  refine Tr.sc [(0, r3)] rfl ?_
  refine Tr.if_eq (pc := 6) (tgt := 40) d_X5_plainFact_6 rfl (fun c6 => ?_) (fun c6 => ?_)
  · refine Tr.aload_n (pc := 40) (i := 0) d_X5_plainFact_40 rfl rfl ?_
    refine Tr.bipush (pc := 41) d_X5_plainFact_41 rfl (by decide) ?_
    refine Tr.callV (pc := 43) (as := [_]) d_X5_plainFact_43 s_5_71 ok_X5_isOwn rfl rfl (Nat.le_of_ble_eq_true rfl) (Nat.le_of_ble_eq_true rfl) (by decide) (ty_6 hS.1.1) ?_
    refine Tr.imp (Tr.deep (by decide) (sp_X5_isOwn_6_w4 hS.1 ((St.kp hS (by decide) (by decide) (by decide)).trans en_6_2) 22 (by omega))) ?_
    rintro M43 _ ⟨h43, r43, rfl, lr43, ur43⟩
    have hS := St.tr hS h43 (by decide) (by decide)
    refine Tr.sc [(0, r43)] rfl ?_
    refine Tr.if_eq (pc := 46) (tgt := 63) d_X5_plainFact_46 rfl (fun c46 => ?_) (fun c46 => ?_)
    · refine Tr.aload_n (pc := 63) (i := 0) d_X5_plainFact_63 rfl rfl ?_
      refine Tr.bipush (pc := 64) d_X5_plainFact_64 rfl (by decide) ?_
      refine Tr.callV (pc := 66) (as := [_]) d_X5_plainFact_66 s_5_71 ok_X5_isOwn rfl rfl (Nat.le_of_ble_eq_true rfl) (Nat.le_of_ble_eq_true rfl) (by decide) (ty_6 hS.1.1) ?_
      refine Tr.imp (Tr.deep (by decide) (sp_X5_isOwn_6_w4 hS.1 ((St.kp hS (by decide) (by decide) (by decide)).trans en_6_2) 23 (by omega))) ?_
      rintro M66 _ ⟨h66, r66, rfl, lr66, ur66⟩
      have hS := St.tr hS h66 (by decide) (by decide)
      refine Tr.sc [(0, r66)] rfl ?_
      refine Tr.if_eq (pc := 69) (tgt := 106) d_X5_plainFact_69 rfl (fun c69 => ?_) (fun c69 => ?_)
      · refine Tr.aload_n (pc := 106) (i := 0) d_X5_plainFact_106 rfl rfl ?_
        refine Tr.callV (pc := 107) (as := []) d_X5_plainFact_107 s_5_174 ok_X5_sum rfl rfl (Nat.le_of_ble_eq_true rfl) (Nat.le_of_ble_eq_true rfl) (by decide) (ty_6 hS.1.1) ?_
        refine Tr.imp (Tr.deep (by decide) (sp_X5_sum_6 hS.1 hE ((St.kp hS (by decide) (by decide) (by decide)).trans en_6_2) ((St.kp hS (by decide) (by decide) (by decide)).trans en_6_3) ((St.kp hS (by decide) (by decide) (by decide)).trans en_6_4) ((St.kp h66 (by decide) (by decide) (by decide)).trans ((St.kp h43 (by decide) (by decide) (by decide)).trans ((St.kp h3 (by decide) (by decide) (by decide)).trans en_6_6))))) ?_
        rintro M107 _ ⟨h107, r107, rfl, lr107, ur107, x107_6_6⟩
        have hS := St.tr hS h107 (by decide) (by decide)
        refine Tr.sc [(0, r107)] rfl ?_
        refine Tr.if_ne (pc := 110) (tgt := 115) d_X5_plainFact_110 rfl (fun c110 => ?_) (fun c110 => ?_)
        · refine Tr.aload_n (pc := 115) (i := 0) d_X5_plainFact_115 rfl rfl ?_
          refine Tr.bipush (pc := 116) d_X5_plainFact_116 rfl (by decide) ?_
          refine Tr.callV (pc := 118) (as := [_]) d_X5_plainFact_118 s_5_77 ok_X5_isSign rfl rfl (Nat.le_of_ble_eq_true rfl) (Nat.le_of_ble_eq_true rfl) (by decide) (ty_6 hS.1.1) ?_
          refine Tr.imp (Tr.deep (by decide) (sp_X5_isSign_6_w3 hS.1 ((St.kp hS (by decide) (by decide) (by decide)).trans en_6_2) 60 (by omega))) ?_
          rintro M118 _ ⟨h118, r118, rfl, lr118, ur118⟩
          have hS := St.tr hS h118 (by decide) (by decide)
          refine Tr.sc [(0, r118)] rfl ?_
          have J158 : ∀ (M : Mem) (q158_0 : Int), St Tru ws_X5_plainFact_6 as_X5_plainFact_6 M0 M → ((-1) ≤ q158_0 ∧ q158_0 ≤ 15) → rd M 6 6 = 0 → Tr l K 38 mX5_plainFact 158 [(0, (2, 6))] [(0, q158_0)] M (q_X5_plainFact_6 M0) := by
            intro M q158_0 hS bq158_0 k158_6_6
            refine Tr.istore_n (pc := 158) (i := 1) (ls2 := [(1, (0, q158_0)), (0, (2, 6))]) d_X5_plainFact_158 rfl (by decide) rfl ?_
            refine Tr.iload_n (pc := 159) (i := 1) d_X5_plainFact_159 rfl rfl ?_
            refine Tr.if_ge (pc := 160) (tgt := 169) d_X5_plainFact_160 rfl (fun c160 => ?_) (fun c160 => ?_)
            · refine Tr.aload_n (pc := 169) (i := 0) d_X5_plainFact_169 rfl rfl ?_
              refine Tr.callV (pc := 170) (as := []) d_X5_plainFact_170 s_5_74 ok_X5_goOn rfl rfl (Nat.le_of_ble_eq_true rfl) (Nat.le_of_ble_eq_true rfl) (by decide) (ty_6 hS.1.1) ?_
              refine Tr.imp (Tr.deep (by decide) (sp_X5_goOn_6 hS.1 )) ?_
              rintro M170 _ ⟨h170, r170, rfl, lr170, ur170⟩
              have hS := St.tr hS h170 (by decide) (by decide)
              refine Tr.sc [(0, r170)] rfl ?_
              refine Tr.pop (pc := 173) d_X5_plainFact_173 ne01 ?_
              refine Tr.aload_n (pc := 174) (i := 0) d_X5_plainFact_174 rfl rfl ?_
              refine Tr.callV (pc := 175) (as := []) d_X5_plainFact_175 s_5_174 ok_X5_sum rfl rfl (Nat.le_of_ble_eq_true rfl) (Nat.le_of_ble_eq_true rfl) (by decide) (ty_6 hS.1.1) ?_
              refine Tr.imp (Tr.deep (by decide) (sp_X5_sum_6 hS.1 hE ((St.kp hS (by decide) (by decide) (by decide)).trans en_6_2) ((St.kp hS (by decide) (by decide) (by decide)).trans en_6_3) ((St.kp hS (by decide) (by decide) (by decide)).trans en_6_4) ((St.kp h170 (by decide) (by decide) (by decide)).trans k158_6_6))) ?_
              rintro M175 _ ⟨h175, r175, rfl, lr175, ur175, x175_6_6⟩
              have hS := St.tr hS h175 (by decide) (by decide)
              refine Tr.sc [(0, r175)] rfl ?_
              refine Tr.istore_n (pc := 178) (i := 2) (ls2 := [(2, (0, r175)), (1, (0, q158_0)), (0, (2, 6))]) d_X5_plainFact_178 rfl (by decide) rfl ?_
              refine Tr.aload_n (pc := 179) (i := 0) d_X5_plainFact_179 rfl rfl ?_
              refine Tr.getf (pc := 180) d_X5_plainFact_180 f_5_32 (by decide) (by decide) (ty_6 hS.1.1) ?_
              refine Tr.tp 35 ((St.kp hS (by decide) (by decide) (by decide)).trans en_6_4) ?_
              refine Tr.iload_n (pc := 183) (i := 1) d_X5_plainFact_183 rfl rfl ?_
              refine Tr.iconst (pc := 184) d_X5_plainFact_184 (by decide) ?_
              refine Tr.callV (pc := 185) (as := [_, _]) d_X5_plainFact_185 s_5_215 ok_X4_emit rfl rfl (Nat.le_of_ble_eq_true rfl) (Nat.le_of_ble_eq_true rfl) (by decide) (ty_35 hS.1.1) ?_
              refine Tr.imp (Tr.deep (by decide) (sp_X4_emit_35_w8 hS.1.wk q158_0 (by omega) 0 (by omega) (by omega))) ?_
              rintro M185 _ ⟨h185, rfl⟩
              have hS := St.tr hS h185 (by decide) (by decide)
              refine Tr.sc [] rfl ?_
              refine Tr.iload_n (pc := 188) (i := 2) d_X5_plainFact_188 rfl rfl ?_
              exact Tr.zret (pc := 189) d_X5_plainFact_189 rfl (by omega) ⟨hS, _, rfl, by omega, by omega, fun hq => ((St.kp h185 (by decide) (by decide) (by decide)).trans (x175_6_6 (by omega)))⟩
            · refine Tr.aload_n (pc := 163) (i := 0) d_X5_plainFact_163 rfl rfl ?_
              refine Tr.iconst (pc := 164) d_X5_plainFact_164 (by decide) ?_
              refine Tr.callV (pc := 165) (as := [_]) d_X5_plainFact_165 s_5_56 ok_X5_refuse rfl rfl (Nat.le_of_ble_eq_true rfl) (Nat.le_of_ble_eq_true rfl) (by decide) (ty_6 hS.1.1) ?_
              refine Tr.imp (Tr.deep (by decide) (sp_X5_refuse_6_w1 hS.1 ((St.kp hS (by decide) (by decide) (by decide)).trans en_6_2) 1 (by omega))) ?_
              rintro M165 _ ⟨h165, r165, rfl, lr165, ur165⟩
              have hS := St.tr hS h165 (by decide) (by decide)
              refine Tr.sc [(0, r165)] rfl ?_
              exact Tr.zret (pc := 168) d_X5_plainFact_168 rfl (by omega) ⟨hS, _, rfl, by omega, by omega, fun hq => absurd hq (by omega)⟩
          refine Tr.if_eq (pc := 121) (tgt := 129) d_X5_plainFact_121 rfl (fun c121 => ?_) (fun c121 => ?_)
          · refine Tr.aload_n (pc := 129) (i := 0) d_X5_plainFact_129 rfl rfl ?_
            refine Tr.bipush (pc := 130) d_X5_plainFact_130 rfl (by decide) ?_
            refine Tr.callV (pc := 132) (as := [_]) d_X5_plainFact_132 s_5_77 ok_X5_isSign rfl rfl (Nat.le_of_ble_eq_true rfl) (Nat.le_of_ble_eq_true rfl) (by decide) (ty_6 hS.1.1) ?_
            refine Tr.imp (Tr.deep (by decide) (sp_X5_isSign_6_w4 hS.1 ((St.kp hS (by decide) (by decide) (by decide)).trans en_6_2) 62 (by omega))) ?_
            rintro M132 _ ⟨h132, r132, rfl, lr132, ur132⟩
            have hS := St.tr hS h132 (by decide) (by decide)
            refine Tr.sc [(0, r132)] rfl ?_
            refine Tr.if_eq (pc := 135) (tgt := 143) d_X5_plainFact_135 rfl (fun c135 => ?_) (fun c135 => ?_)
            · refine Tr.aload_n (pc := 143) (i := 0) d_X5_plainFact_143 rfl rfl ?_
              refine Tr.bipush (pc := 144) d_X5_plainFact_144 rfl (by decide) ?_
              refine Tr.callV (pc := 146) (as := [_]) d_X5_plainFact_146 s_5_77 ok_X5_isSign rfl rfl (Nat.le_of_ble_eq_true rfl) (Nat.le_of_ble_eq_true rfl) (by decide) (ty_6 hS.1.1) ?_
              refine Tr.imp (Tr.deep (by decide) (sp_X5_isSign_6_w4 hS.1 ((St.kp hS (by decide) (by decide) (by decide)).trans en_6_2) 61 (by omega))) ?_
              rintro M146 _ ⟨h146, r146, rfl, lr146, ur146⟩
              have hS := St.tr hS h146 (by decide) (by decide)
              refine Tr.sc [(0, r146)] rfl ?_
              refine Tr.if_eq (pc := 149) (tgt := 157) d_X5_plainFact_149 rfl (fun c149 => ?_) (fun c149 => ?_)
              · refine Tr.iconst (pc := 157) d_X5_plainFact_157 (by decide) ?_
                refine Tr.pick [0] (ls2 := [(0, (2, 6))]) rfl ?_
                exact J158 _ _ hS (by omega) ((St.kp h146 (by decide) (by decide) (by decide)).trans ((St.kp h132 (by decide) (by decide) (by decide)).trans ((St.kp h118 (by decide) (by decide) (by decide)).trans (x107_6_6 (by omega)))))
              · refine Tr.bipush (pc := 152) d_X5_plainFact_152 rfl (by decide) ?_
                refine Tr.goto (pc := 154) (tgt := 158) d_X5_plainFact_154 rfl ?_
                refine Tr.pick [0] (ls2 := [(0, (2, 6))]) rfl ?_
                exact J158 _ _ hS (by omega) ((St.kp h146 (by decide) (by decide) (by decide)).trans ((St.kp h132 (by decide) (by decide) (by decide)).trans ((St.kp h118 (by decide) (by decide) (by decide)).trans (x107_6_6 (by omega)))))
            · refine Tr.bipush (pc := 138) d_X5_plainFact_138 rfl (by decide) ?_
              refine Tr.goto (pc := 140) (tgt := 158) d_X5_plainFact_140 rfl ?_
              refine Tr.pick [0] (ls2 := [(0, (2, 6))]) rfl ?_
              exact J158 _ _ hS (by omega) ((St.kp h132 (by decide) (by decide) (by decide)).trans ((St.kp h118 (by decide) (by decide) (by decide)).trans (x107_6_6 (by omega))))
          · refine Tr.bipush (pc := 124) d_X5_plainFact_124 rfl (by decide) ?_
            refine Tr.goto (pc := 126) (tgt := 158) d_X5_plainFact_126 rfl ?_
            refine Tr.pick [0] (ls2 := [(0, (2, 6))]) rfl ?_
            exact J158 _ _ hS (by omega) ((St.kp h118 (by decide) (by decide) (by decide)).trans (x107_6_6 (by omega)))
        · refine Tr.iconst (pc := 113) d_X5_plainFact_113 (by decide) ?_
          exact Tr.zret (pc := 114) d_X5_plainFact_114 rfl (by omega) ⟨hS, _, rfl, by omega, by omega, fun hq => absurd hq (by omega)⟩
      · refine Tr.aload_n (pc := 72) (i := 0) d_X5_plainFact_72 rfl rfl ?_
        refine Tr.callV (pc := 73) (as := []) d_X5_plainFact_73 s_5_74 ok_X5_goOn rfl rfl (Nat.le_of_ble_eq_true rfl) (Nat.le_of_ble_eq_true rfl) (by decide) (ty_6 hS.1.1) ?_
        refine Tr.imp (Tr.deep (by decide) (sp_X5_goOn_6 hS.1 )) ?_
        rintro M73 _ ⟨h73, r73, rfl, lr73, ur73⟩
        have hS := St.tr hS h73 (by decide) (by decide)
        refine Tr.sc [(0, r73)] rfl ?_
        refine Tr.pop (pc := 76) d_X5_plainFact_76 ne01 ?_
        refine Tr.aload_n (pc := 77) (i := 0) d_X5_plainFact_77 rfl rfl ?_
        refine Tr.iconst (pc := 78) d_X5_plainFact_78 (by decide) ?_
        refine Tr.callV (pc := 79) (as := [_]) d_X5_plainFact_79 s_5_186 ok_X5_takeName rfl rfl (Nat.le_of_ble_eq_true rfl) (Nat.le_of_ble_eq_true rfl) (by decide) (ty_6 hS.1.1) ?_
        refine Tr.imp (Tr.deep (by decide) (sp_X5_takeName_6_v0 hS.1 hE ((St.kp hS (by decide) (by decide) (by decide)).trans en_6_2) ((St.kp hS (by decide) (by decide) (by decide)).trans en_6_3))) ?_
        rintro M79 _ ⟨h79, r79, rfl, lr79, ur79⟩
        have hS := St.tr hS h79 (by decide) (by decide)
        refine Tr.sc [(0, r79)] rfl ?_
        refine Tr.istore_n (pc := 82) (i := 1) (ls2 := [(1, (0, r79)), (0, (2, 6))]) d_X5_plainFact_82 rfl (by decide) rfl ?_
        refine Tr.aload_n (pc := 83) (i := 0) d_X5_plainFact_83 rfl rfl ?_
        refine Tr.getf (pc := 84) d_X5_plainFact_84 f_5_32 (by decide) (by decide) (ty_6 hS.1.1) ?_
        refine Tr.tp 35 ((St.kp hS (by decide) (by decide) (by decide)).trans en_6_4) ?_
        refine Tr.iconst (pc := 87) d_X5_plainFact_87 (by decide) ?_
        refine Tr.iload_n (pc := 88) (i := 1) d_X5_plainFact_88 rfl rfl ?_
        refine Tr.iconst (pc := 89) d_X5_plainFact_89 (by decide) ?_
        refine Tr.mmax (pc := 90) d_X5_plainFact_90 ml_5_192 mw_mmax (Nat.le_of_ble_eq_true rfl) ?_
        refine Tr.gen (P := fun v => (v = r79 ∧ 0 ≤ r79) ∨ (v = 0 ∧ r79 ≤ 0)) (f_max_p _ _) (fun r90 er90 br90 => ?_)
        refine Tr.callV (pc := 93) (as := [_, _]) d_X5_plainFact_93 s_5_215 ok_X4_emit rfl rfl (Nat.le_of_ble_eq_true rfl) (Nat.le_of_ble_eq_true rfl) (by decide) (ty_35 hS.1.1) ?_
        refine Tr.imp (Tr.deep (by decide) (sp_X4_emit_35_w7 hS.1.wk 4 (by omega) r90 (by omega) (by omega))) ?_
        rintro M93 _ ⟨h93, rfl⟩
        have hS := St.tr hS h93 (by decide) (by decide)
        refine Tr.sc [] rfl ?_
        refine Tr.iload_n (pc := 96) (i := 1) d_X5_plainFact_96 rfl rfl ?_
        refine Tr.if_lt (pc := 97) (tgt := 104) d_X5_plainFact_97 rfl (fun c97 => ?_) (fun c97 => ?_)
        · refine Tr.iconst (pc := 104) d_X5_plainFact_104 (by decide) ?_
          exact Tr.zret (pc := 105) d_X5_plainFact_105 rfl (by omega) ⟨hS, _, rfl, by omega, by omega, fun hq => absurd hq (by omega)⟩
        · refine Tr.iconst (pc := 100) d_X5_plainFact_100 (by decide) ?_
          refine Tr.goto (pc := 101) (tgt := 105) d_X5_plainFact_101 rfl ?_
          exact Tr.zret (pc := 105) d_X5_plainFact_105 rfl (by omega) ⟨hS, _, rfl, by omega, by omega, fun _ => ((St.kp h93 (by decide) (by decide) (by decide)).trans ((St.kp h79 (by decide) (by decide) (by decide)).trans ((St.kp h73 (by decide) (by decide) (by decide)).trans ((St.kp h66 (by decide) (by decide) (by decide)).trans ((St.kp h43 (by decide) (by decide) (by decide)).trans ((St.kp h3 (by decide) (by decide) (by decide)).trans en_6_6))))))⟩
    · refine Tr.aload_n (pc := 49) (i := 0) d_X5_plainFact_49 rfl rfl ?_
      refine Tr.getf (pc := 50) d_X5_plainFact_50 f_5_32 (by decide) (by decide) (ty_6 hS.1.1) ?_
      refine Tr.tp 35 ((St.kp hS (by decide) (by decide) (by decide)).trans en_6_4) ?_
      refine Tr.iconst (pc := 53) d_X5_plainFact_53 (by decide) ?_
      refine Tr.iconst (pc := 54) d_X5_plainFact_54 (by decide) ?_
      refine Tr.callV (pc := 55) (as := [_, _]) d_X5_plainFact_55 s_5_215 ok_X4_emit rfl rfl (Nat.le_of_ble_eq_true rfl) (Nat.le_of_ble_eq_true rfl) (by decide) (ty_35 hS.1.1) ?_
      refine Tr.imp (Tr.deep (by decide) (sp_X4_emit_35_w3 hS.1.wk 0 (by omega) 1 (by omega) (by omega))) ?_
      rintro M55 _ ⟨h55, rfl⟩
      have hS := St.tr hS h55 (by decide) (by decide)
      refine Tr.sc [] rfl ?_
      refine Tr.aload_n (pc := 58) (i := 0) d_X5_plainFact_58 rfl rfl ?_
      refine Tr.callV (pc := 59) (as := []) d_X5_plainFact_59 s_5_74 ok_X5_goOn rfl rfl (Nat.le_of_ble_eq_true rfl) (Nat.le_of_ble_eq_true rfl) (by decide) (ty_6 hS.1.1) ?_
      refine Tr.imp (Tr.deep (by decide) (sp_X5_goOn_6 hS.1 )) ?_
      rintro M59 _ ⟨h59, r59, rfl, lr59, ur59⟩
      have hS := St.tr hS h59 (by decide) (by decide)
      refine Tr.sc [(0, r59)] rfl ?_
      exact Tr.zret (pc := 62) d_X5_plainFact_62 rfl (by omega) ⟨hS, _, rfl, by omega, by omega, fun _ => ((St.kp h59 (by decide) (by decide) (by decide)).trans ((St.kp h55 (by decide) (by decide) (by decide)).trans ((St.kp h43 (by decide) (by decide) (by decide)).trans ((St.kp h3 (by decide) (by decide) (by decide)).trans en_6_6))))⟩
  · refine Tr.aload_n (pc := 9) (i := 0) d_X5_plainFact_9 rfl rfl ?_
    refine Tr.bipush (pc := 10) d_X5_plainFact_10 rfl (by decide) ?_
    refine Tr.callV (pc := 12) (as := [_]) d_X5_plainFact_12 s_5_206 ok_X5_takeOpening rfl rfl (Nat.le_of_ble_eq_true rfl) (Nat.le_of_ble_eq_true rfl) (by decide) (ty_6 hS.1.1) ?_
    refine Tr.imp (Tr.deep (by decide) (sp_X5_takeOpening_6_w9 hS.1 ((St.kp hS (by decide) (by decide) (by decide)).trans en_6_2) ((St.kp h3 (by decide) (by decide) (by decide)).trans en_6_6) 91 (by omega))) ?_
    rintro M12 _ ⟨h12, r12, rfl, lr12, ur12, x12_6_6⟩
    have hS := St.tr hS h12 (by decide) (by decide)
    refine Tr.sc [(0, r12)] rfl ?_
    refine Tr.if_eq (pc := 15) (tgt := 38) d_X5_plainFact_15 rfl (fun c15 => ?_) (fun c15 => ?_)
    · refine Tr.iconst (pc := 38) d_X5_plainFact_38 (by decide) ?_
      exact Tr.zret (pc := 39) d_X5_plainFact_39 rfl (by omega) ⟨hS, _, rfl, by omega, by omega, fun hq => absurd hq (by omega)⟩
    · refine Tr.aload_n (pc := 18) (i := 0) d_X5_plainFact_18 rfl rfl ?_
      refine Tr.callV (pc := 19) (as := []) d_X5_plainFact_19 s_5_177 ok_X5_test rfl rfl (Nat.le_of_ble_eq_true rfl) (Nat.le_of_ble_eq_true rfl) (by decide) (ty_6 hS.1.1) ?_
      refine Tr.imp (Tr.deep (by decide) (sp_X5_test_6_w1 hS.1 hE ((St.kp hS (by decide) (by decide) (by decide)).trans en_6_2) ((St.kp hS (by decide) (by decide) (by decide)).trans en_6_3) ((St.kp hS (by decide) (by decide) (by decide)).trans en_6_4) (x12_6_6 (by omega)))) ?_
      rintro M19 _ ⟨h19, r19, rfl, lr19, ur19, x19_6_6⟩
      have hS := St.tr hS h19 (by decide) (by decide)
      refine Tr.sc [(0, r19)] rfl ?_
      refine Tr.if_eq (pc := 22) (tgt := 38) d_X5_plainFact_22 rfl (fun c22 => ?_) (fun c22 => ?_)
      · refine Tr.iconst (pc := 38) d_X5_plainFact_38 (by decide) ?_
        exact Tr.zret (pc := 39) d_X5_plainFact_39 rfl (by omega) ⟨hS, _, rfl, by omega, by omega, fun hq => absurd hq (by omega)⟩
      · refine Tr.aload_n (pc := 25) (i := 0) d_X5_plainFact_25 rfl rfl ?_
        refine Tr.bipush (pc := 26) d_X5_plainFact_26 rfl (by decide) ?_
        refine Tr.callV (pc := 28) (as := [_]) d_X5_plainFact_28 s_5_209 ok_X5_takeClosing rfl rfl (Nat.le_of_ble_eq_true rfl) (Nat.le_of_ble_eq_true rfl) (by decide) (ty_6 hS.1.1) ?_
        refine Tr.imp (Tr.deep (by decide) (sp_X5_takeClosing_6_w15 hS.1 ((St.kp hS (by decide) (by decide) (by decide)).trans en_6_2) (x19_6_6 (by omega)) 93 (by omega))) ?_
        rintro M28 _ ⟨h28, r28, rfl, lr28, ur28, x28_6_6⟩
        have hS := St.tr hS h28 (by decide) (by decide)
        refine Tr.sc [(0, r28)] rfl ?_
        refine Tr.if_eq (pc := 31) (tgt := 38) d_X5_plainFact_31 rfl (fun c31 => ?_) (fun c31 => ?_)
        · refine Tr.iconst (pc := 38) d_X5_plainFact_38 (by decide) ?_
          exact Tr.zret (pc := 39) d_X5_plainFact_39 rfl (by omega) ⟨hS, _, rfl, by omega, by omega, fun hq => absurd hq (by omega)⟩
        · refine Tr.iconst (pc := 34) d_X5_plainFact_34 (by decide) ?_
          refine Tr.goto (pc := 35) (tgt := 39) d_X5_plainFact_35 rfl ?_
          exact Tr.zret (pc := 39) d_X5_plainFact_39 rfl (by omega) ⟨hS, _, rfl, by omega, by omega, fun _ => (x28_6_6 (by omega))⟩
end
/-! 34.13 -/
section
def ws_X5_fact_6 : List (Int × Int) := [(6, 0), (6, 1), (6, 5), (6, 6), (35, 11)]
def as_X5_fact_6 : List Int := [44, 45]
def q_X5_fact_6 (M0 M' : Mem) (r : Option PV) : Prop := St Tru ws_X5_fact_6 as_X5_fact_6 M0 M' ∧ ∃ v : Int, r = some (0, v) ∧ 0 ≤ v ∧ v ≤ 1 ∧ ((1 ≤ v ∧ v ≤ 1) → rd M' 6 6 = 0)
set_option maxRecDepth 100000 in
set_option maxHeartbeats 4000000 in
theorem sp_X5_fact_6 {l : Launch} {K : EC} {M0 : Mem} {xq : Int} (hI : In Tru M0) (hE : e_all K xq) (en_6_2 : rd M0 6 2 = 2) (en_6_3 : rd M0 6 3 = 27) (en_6_4 : rd M0 6 4 = 35) (en_6_6 : rd M0 6 6 = 0)   : Tr l K 39 mX5_fact 0 [(0, (2, 6))] [] M0 (q_X5_fact_6 M0) := by
  have hS : St Tru ws_X5_fact_6 as_X5_fact_6 M0 M0 := St.rf hI
  refine Tr.iconst (pc := 0) d_X5_fact_0 (by decide) ?_
  refine Tr.istore_n (pc := 1) (i := 1) (ls2 := [(1, (0, 0)), (0, (2, 6))]) d_X5_fact_1 rfl (by decide) rfl ?_
  refine Tr.iconst (pc := 2) d_X5_fact_2 (by decide) ?_
  refine Tr.istore_n (pc := 3) (i := 2) (ls2 := [(2, (0, 0)), (1, (0, 0)), (0, (2, 6))]) d_X5_fact_3 rfl (by decide) rfl ?_
  have J4 : ∀ (n4 : Nat) (M : Mem) (p4_1 p4_2 : Int), St Tru ws_X5_fact_6 as_X5_fact_6 M0 M → (0 ≤ p4_1 ∧ p4_1 ≤ 1) → (0 ≤ p4_2 ∧ p4_2 ≤ 900) → rd M 6 6 = 0 → (900 - p4_2).toNat < n4 → Tr l K 39 mX5_fact 4 [(0, (2, 6)), (1, (0, p4_1)), (2, (0, p4_2))] [] M (q_X5_fact_6 M0) := by
    intro n4
    induction n4 with
    | zero => intro M p4_1 p4_2 hS bp4_1 bp4_2 k4_6_6 hm4; exact absurd hm4 (Nat.not_lt_zero _)
    | succ n4 J4 =>
      intro M p4_1 p4_2 hS bp4_1 bp4_2 k4_6_6 hm4
      refine Tr.iload_n (pc := 4) (i := 2) d_X5_fact_4 rfl rfl ?_
      refine Tr.sipush (pc := 5) d_X5_fact_5 rfl (by decide) ?_
      have J41 : ∀ (M : Mem), St Tru ws_X5_fact_6 as_X5_fact_6 M0 M → rd M 6 6 = 0 → Tr l K 39 mX5_fact 41 [(0, (2, 6)), (1, (0, p4_1))] [] M (q_X5_fact_6 M0) := by
        intro M  hS  k41_6_6
        refine Tr.aload_n (pc := 41) (i := 0) d_X5_fact_41 rfl rfl ?_
        refine Tr.callV (pc := 42) (as := []) d_X5_fact_42 s_5_221 ok_X5_plainFact rfl rfl (Nat.le_of_ble_eq_true rfl) (Nat.le_of_ble_eq_true rfl) (by decide) (ty_6 hS.1.1) ?_
        refine Tr.imp (Tr.deep (by decide) (sp_X5_plainFact_6 hS.1 hE ((St.kp hS (by decide) (by decide) (by decide)).trans en_6_2) ((St.kp hS (by decide) (by decide) (by decide)).trans en_6_3) ((St.kp hS (by decide) (by decide) (by decide)).trans en_6_4) k41_6_6)) ?_
        rintro M42 _ ⟨h42, r42, rfl, lr42, ur42, x42_6_6⟩
        have hS := St.tr hS h42 (by decide) (by decide)
        refine Tr.sc [(0, r42)] rfl ?_
        refine Tr.istore_n (pc := 45) (i := 2) (ls2 := [(2, (0, r42)), (0, (2, 6)), (1, (0, p4_1))]) d_X5_fact_45 rfl (by decide) rfl ?_
        refine Tr.iload_n (pc := 46) (i := 1) d_X5_fact_46 rfl rfl ?_
        refine Tr.if_eq (pc := 47) (tgt := 59) d_X5_fact_47 rfl (fun c47 => ?_) (fun c47 => ?_)
        · refine Tr.iload_n (pc := 59) (i := 2) d_X5_fact_59 rfl rfl ?_
          exact Tr.zret (pc := 60) d_X5_fact_60 rfl (by omega) ⟨hS, _, rfl, by omega, by omega, fun hq => (x42_6_6 (by omega))⟩
        · refine Tr.aload_n (pc := 50) (i := 0) d_X5_fact_50 rfl rfl ?_
          refine Tr.getf (pc := 51) d_X5_fact_51 f_5_32 (by decide) (by decide) (ty_6 hS.1.1) ?_
          refine Tr.tp 35 ((St.kp hS (by decide) (by decide) (by decide)).trans en_6_4) ?_
          refine Tr.iconst (pc := 54) d_X5_fact_54 (by decide) ?_
          refine Tr.iconst (pc := 55) d_X5_fact_55 (by decide) ?_
          refine Tr.callV (pc := 56) (as := [_, _]) d_X5_fact_56 s_5_215 ok_X4_emit rfl rfl (Nat.le_of_ble_eq_true rfl) (Nat.le_of_ble_eq_true rfl) (by decide) (ty_35 hS.1.1) ?_
          refine Tr.imp (Tr.deep (by decide) (sp_X4_emit_35_w7 hS.1.wk 5 (by omega) 0 (by omega) (by omega))) ?_
          rintro M56 _ ⟨h56, rfl⟩
          have hS := St.tr hS h56 (by decide) (by decide)
          refine Tr.sc [] rfl ?_
          refine Tr.iload_n (pc := 59) (i := 2) d_X5_fact_59 rfl rfl ?_
          exact Tr.zret (pc := 60) d_X5_fact_60 rfl (by omega) ⟨hS, _, rfl, by omega, by omega, fun hq => ((St.kp h56 (by decide) (by decide) (by decide)).trans (x42_6_6 (by omega)))⟩
      refine Tr.icmp_ge (pc := 8) (tgt := 41) d_X5_fact_8 rfl (fun c8 => ?_) (fun c8 => ?_)
      · refine Tr.pick [0, 1] (ls2 := [(0, (2, 6)), (1, (0, p4_1))]) rfl ?_
        exact J41 _ hS k4_6_6
      · refine Tr.aload_n (pc := 11) (i := 0) d_X5_fact_11 rfl rfl ?_
        refine Tr.bipush (pc := 12) d_X5_fact_12 rfl (by decide) ?_
        refine Tr.callV (pc := 14) (as := [_]) d_X5_fact_14 s_5_71 ok_X5_isOwn rfl rfl (Nat.le_of_ble_eq_true rfl) (Nat.le_of_ble_eq_true rfl) (by decide) (ty_6 hS.1.1) ?_
        refine Tr.imp (Tr.deep (by decide) (sp_X5_isOwn_6_w4 hS.1 ((St.kp hS (by decide) (by decide) (by decide)).trans en_6_2) 21 (by omega))) ?_
        rintro M14 _ ⟨h14, r14, rfl, lr14, ur14⟩
        have hS := St.tr hS h14 (by decide) (by decide)
        refine Tr.sc [(0, r14)] rfl ?_
        refine Tr.if_eq (pc := 17) (tgt := 41) d_X5_fact_17 rfl (fun c17 => ?_) (fun c17 => ?_)
        · refine Tr.pick [0, 1] (ls2 := [(0, (2, 6)), (1, (0, p4_1))]) rfl ?_
          exact J41 _ hS ((St.kp h14 (by decide) (by decide) (by decide)).trans k4_6_6)
        · refine Tr.aload_n (pc := 20) (i := 0) d_X5_fact_20 rfl rfl ?_
          refine Tr.callV (pc := 21) (as := []) d_X5_fact_21 s_5_74 ok_X5_goOn rfl rfl (Nat.le_of_ble_eq_true rfl) (Nat.le_of_ble_eq_true rfl) (by decide) (ty_6 hS.1.1) ?_
          refine Tr.imp (Tr.deep (by decide) (sp_X5_goOn_6 hS.1 )) ?_
          rintro M21 _ ⟨h21, r21, rfl, lr21, ur21⟩
          have hS := St.tr hS h21 (by decide) (by decide)
          refine Tr.sc [(0, r21)] rfl ?_
          refine Tr.pop (pc := 24) d_X5_fact_24 ne01 ?_
          refine Tr.iload_n (pc := 25) (i := 1) d_X5_fact_25 rfl rfl ?_
          have J34 : ∀ (M : Mem) (q34_0 : Int), St Tru ws_X5_fact_6 as_X5_fact_6 M0 M → (0 ≤ q34_0 ∧ q34_0 ≤ 1) → rd M 6 6 = 0 → Tr l K 39 mX5_fact 34 [(0, (2, 6)), (2, (0, p4_2))] [(0, q34_0)] M (q_X5_fact_6 M0) := by
            intro M q34_0 hS bq34_0 k34_6_6
            refine Tr.istore_n (pc := 34) (i := 1) (ls2 := [(1, (0, q34_0)), (0, (2, 6)), (2, (0, p4_2))]) d_X5_fact_34 rfl (by decide) rfl ?_
            refine Tr.iincV (pc := 35) (n2 := (p4_2 + 1)) (ls2 := [(2, (0, (p4_2 + 1))), (1, (0, q34_0)), (0, (2, 6))]) d_X5_fact_35 rfl (by decide) ((w32_id (by omega)).trans (by omega)) rfl ?_
            refine Tr.goto (pc := 38) (tgt := 4) d_X5_fact_38 rfl ?_
            refine Tr.pick [2, 1, 0] (ls2 := [(0, (2, 6)), (1, (0, q34_0)), (2, (0, (p4_2 + 1)))]) rfl ?_
            exact J4 _ _ _ hS (by omega) (by omega) k34_6_6 (by omega)
          refine Tr.if_ne (pc := 26) (tgt := 33) d_X5_fact_26 rfl (fun c26 => ?_) (fun c26 => ?_)
          · refine Tr.iconst (pc := 33) d_X5_fact_33 (by decide) ?_
            refine Tr.pick [0, 2] (ls2 := [(0, (2, 6)), (2, (0, p4_2))]) rfl ?_
            exact J34 _ _ hS (by omega) ((St.kp h21 (by decide) (by decide) (by decide)).trans ((St.kp h14 (by decide) (by decide) (by decide)).trans k4_6_6))
          · refine Tr.iconst (pc := 29) d_X5_fact_29 (by decide) ?_
            refine Tr.goto (pc := 30) (tgt := 34) d_X5_fact_30 rfl ?_
            refine Tr.pick [0, 2] (ls2 := [(0, (2, 6)), (2, (0, p4_2))]) rfl ?_
            exact J34 _ _ hS (by omega) ((St.kp h21 (by decide) (by decide) (by decide)).trans ((St.kp h14 (by decide) (by decide) (by decide)).trans k4_6_6))
  refine Tr.pick [2, 1, 0] (ls2 := [(0, (2, 6)), (1, (0, 0)), (2, (0, 0))]) rfl ?_
  exact J4 _ _ _ _ hS (by omega) (by omega) en_6_6 (Nat.lt_succ_self _)

def ws_X5_both_6 : List (Int × Int) := [(6, 0), (6, 1), (6, 5), (6, 6), (35, 11)]
def as_X5_both_6 : List Int := [44, 45]
def q_X5_both_6 (M0 M' : Mem) (r : Option PV) : Prop := St Tru ws_X5_both_6 as_X5_both_6 M0 M' ∧ ∃ v : Int, r = some (0, v) ∧ 0 ≤ v ∧ v ≤ 1 ∧ ((1 ≤ v ∧ v ≤ 1) → rd M' 6 6 = 0)
set_option maxRecDepth 100000 in
set_option maxHeartbeats 4000000 in
theorem sp_X5_both_6 {l : Launch} {K : EC} {M0 : Mem} {xq : Int} (hI : In Tru M0) (hE : e_all K xq) (en_6_2 : rd M0 6 2 = 2) (en_6_3 : rd M0 6 3 = 27) (en_6_4 : rd M0 6 4 = 35) (en_6_6 : rd M0 6 6 = 0)   : Tr l K 40 mX5_both 0 [(0, (2, 6))] [] M0 (q_X5_both_6 M0) := by
  have hS : St Tru ws_X5_both_6 as_X5_both_6 M0 M0 := St.rf hI
  refine Tr.aload_n (pc := 0) (i := 0) d_X5_both_0 rfl rfl ?_
  refine Tr.callV (pc := 1) (as := []) d_X5_both_1 s_5_218 ok_X5_fact rfl rfl (Nat.le_of_ble_eq_true rfl) (Nat.le_of_ble_eq_true rfl) (by decide) (ty_6 hS.1.1) ?_
  refine Tr.imp (Tr.deep (by decide) (sp_X5_fact_6 hS.1 hE ((St.kp hS (by decide) (by decide) (by decide)).trans en_6_2) ((St.kp hS (by decide) (by decide) (by decide)).trans en_6_3) ((St.kp hS (by decide) (by decide) (by decide)).trans en_6_4) en_6_6)) ?_
  rintro M1 _ ⟨h1, r1, rfl, lr1, ur1, x1_6_6⟩
  have hS := St.tr hS h1 (by decide) (by decide)
  refine Tr.sc [(0, r1)] rfl ?_
  refine Tr.istore_n (pc := 4) (i := 1) (ls2 := [(1, (0, r1)), (0, (2, 6))]) d_X5_both_4 rfl (by decide) rfl ?_
  refine Tr.iconst (pc := 5) d_X5_both_5 (by decide) ?_
  refine Tr.istore_n (pc := 6) (i := 2) (ls2 := [(2, (0, 0)), (1, (0, r1)), (0, (2, 6))]) d_X5_both_6 rfl (by decide) rfl ?_
  have J7 : ∀ (n7 : Nat) (M : Mem) (p7_1 p7_2 : Int), St Tru ws_X5_both_6 as_X5_both_6 M0 M → (0 ≤ p7_1 ∧ p7_1 ≤ 1) → (0 ≤ p7_2 ∧ p7_2 ≤ 900) → (p7_1 = 1 → rd M 6 6 = 0) → (900 - p7_2).toNat < n7 → Tr l K 40 mX5_both 7 [(0, (2, 6)), (1, (0, p7_1)), (2, (0, p7_2))] [] M (q_X5_both_6 M0) := by
    intro n7
    induction n7 with
    | zero => intro M p7_1 p7_2 hS bp7_1 bp7_2  y7_p7_1_6_60 hm7; exact absurd hm7 (Nat.not_lt_zero _)
    | succ n7 J7 =>
      intro M p7_1 p7_2 hS bp7_1 bp7_2  y7_p7_1_6_60 hm7
      have y7_p7_1_6_6 : 1 ≤ p7_1 ∧ p7_1 ≤ 1 → rd M 6 6 = 0 := fun hq => y7_p7_1_6_60 (by omega)
      refine Tr.iload_n (pc := 7) (i := 2) d_X5_both_7 rfl rfl ?_
      refine Tr.sipush (pc := 8) d_X5_both_8 rfl (by decide) ?_
      refine Tr.icmp_ge (pc := 11) (tgt := 53) d_X5_both_11 rfl (fun c11 => ?_) (fun c11 => ?_)
      · refine Tr.iload_n (pc := 53) (i := 1) d_X5_both_53 rfl rfl ?_
        exact Tr.zret (pc := 54) d_X5_both_54 rfl (by omega) ⟨hS, _, rfl, by omega, by omega, fun hq => (y7_p7_1_6_6 (by omega))⟩
      · refine Tr.iload_n (pc := 14) (i := 1) d_X5_both_14 rfl rfl ?_
        refine Tr.if_eq (pc := 15) (tgt := 53) d_X5_both_15 rfl (fun c15 => ?_) (fun c15 => ?_)
        · refine Tr.iload_n (pc := 53) (i := 1) d_X5_both_53 rfl rfl ?_
          exact Tr.zret (pc := 54) d_X5_both_54 rfl (by omega) ⟨hS, _, rfl, by omega, by omega, fun hq => absurd hq (by omega)⟩
        · refine Tr.aload_n (pc := 18) (i := 0) d_X5_both_18 rfl rfl ?_
          refine Tr.bipush (pc := 19) d_X5_both_19 rfl (by decide) ?_
          refine Tr.callV (pc := 21) (as := [_]) d_X5_both_21 s_5_71 ok_X5_isOwn rfl rfl (Nat.le_of_ble_eq_true rfl) (Nat.le_of_ble_eq_true rfl) (by decide) (ty_6 hS.1.1) ?_
          refine Tr.imp (Tr.deep (by decide) (sp_X5_isOwn_6_w3 hS.1 ((St.kp hS (by decide) (by decide) (by decide)).trans en_6_2) 20 (by omega))) ?_
          rintro M21 _ ⟨h21, r21, rfl, lr21, ur21⟩
          have hS := St.tr hS h21 (by decide) (by decide)
          refine Tr.sc [(0, r21)] rfl ?_
          refine Tr.if_eq (pc := 24) (tgt := 53) d_X5_both_24 rfl (fun c24 => ?_) (fun c24 => ?_)
          · refine Tr.iload_n (pc := 53) (i := 1) d_X5_both_53 rfl rfl ?_
            exact Tr.zret (pc := 54) d_X5_both_54 rfl (by omega) ⟨hS, _, rfl, by omega, by omega, fun _ => ((St.kp h21 (by decide) (by decide) (by decide)).trans (y7_p7_1_6_6 (by omega)))⟩
          · refine Tr.aload_n (pc := 27) (i := 0) d_X5_both_27 rfl rfl ?_
            refine Tr.callV (pc := 28) (as := []) d_X5_both_28 s_5_74 ok_X5_goOn rfl rfl (Nat.le_of_ble_eq_true rfl) (Nat.le_of_ble_eq_true rfl) (by decide) (ty_6 hS.1.1) ?_
            refine Tr.imp (Tr.deep (by decide) (sp_X5_goOn_6 hS.1 )) ?_
            rintro M28 _ ⟨h28, r28, rfl, lr28, ur28⟩
            have hS := St.tr hS h28 (by decide) (by decide)
            refine Tr.sc [(0, r28)] rfl ?_
            refine Tr.pop (pc := 31) d_X5_both_31 ne01 ?_
            refine Tr.aload_n (pc := 32) (i := 0) d_X5_both_32 rfl rfl ?_
            refine Tr.callV (pc := 33) (as := []) d_X5_both_33 s_5_218 ok_X5_fact rfl rfl (Nat.le_of_ble_eq_true rfl) (Nat.le_of_ble_eq_true rfl) (by decide) (ty_6 hS.1.1) ?_
            refine Tr.imp (Tr.deep (by decide) (sp_X5_fact_6 hS.1 hE ((St.kp hS (by decide) (by decide) (by decide)).trans en_6_2) ((St.kp hS (by decide) (by decide) (by decide)).trans en_6_3) ((St.kp hS (by decide) (by decide) (by decide)).trans en_6_4) ((St.kp h28 (by decide) (by decide) (by decide)).trans ((St.kp h21 (by decide) (by decide) (by decide)).trans (y7_p7_1_6_6 (by omega)))))) ?_
            rintro M33 _ ⟨h33, r33, rfl, lr33, ur33, x33_6_6⟩
            have hS := St.tr hS h33 (by decide) (by decide)
            refine Tr.sc [(0, r33)] rfl ?_
            refine Tr.istore_n (pc := 36) (i := 1) (ls2 := [(1, (0, r33)), (0, (2, 6)), (2, (0, p7_2))]) d_X5_both_36 rfl (by decide) rfl ?_
            refine Tr.aload_n (pc := 37) (i := 0) d_X5_both_37 rfl rfl ?_
            refine Tr.getf (pc := 38) d_X5_both_38 f_5_32 (by decide) (by decide) (ty_6 hS.1.1) ?_
            refine Tr.tp 35 ((St.kp hS (by decide) (by decide) (by decide)).trans en_6_4) ?_
            refine Tr.bipush (pc := 41) d_X5_both_41 rfl (by decide) ?_
            refine Tr.iconst (pc := 43) d_X5_both_43 (by decide) ?_
            refine Tr.callV (pc := 44) (as := [_, _]) d_X5_both_44 s_5_215 ok_X4_emit rfl rfl (Nat.le_of_ble_eq_true rfl) (Nat.le_of_ble_eq_true rfl) (by decide) (ty_35 hS.1.1) ?_
            refine Tr.imp (Tr.deep (by decide) (sp_X4_emit_35_w9 hS.1.wk 16 (by omega) 0 (by omega) (by omega))) ?_
            rintro M44 _ ⟨h44, rfl⟩
            have hS := St.tr hS h44 (by decide) (by decide)
            refine Tr.sc [] rfl ?_
            refine Tr.iincV (pc := 47) (n2 := (p7_2 + 1)) (ls2 := [(2, (0, (p7_2 + 1))), (1, (0, r33)), (0, (2, 6))]) d_X5_both_47 rfl (by decide) ((w32_id (by omega)).trans (by omega)) rfl ?_
            refine Tr.goto (pc := 50) (tgt := 7) d_X5_both_50 rfl ?_
            refine Tr.pick [2, 1, 0] (ls2 := [(0, (2, 6)), (1, (0, r33)), (2, (0, (p7_2 + 1)))]) rfl ?_
            exact J7 _ _ _ hS (by omega) (by omega) (fun hq => ((St.kp h44 (by decide) (by decide) (by decide)).trans (x33_6_6 (by omega)))) (by omega)
  refine Tr.pick [2, 1, 0] (ls2 := [(0, (2, 6)), (1, (0, r1)), (2, (0, 0))]) rfl ?_
  exact J7 _ _ _ _ hS (by omega) (by omega) (fun hq => (x1_6_6 (by omega))) (Nat.lt_succ_self _)

def ws_X5_test_6 : List (Int × Int) := [(6, 0), (6, 1), (6, 5), (6, 6), (35, 11)]
def as_X5_test_6 : List Int := [44, 45]
def q_X5_test_6 (M0 M' : Mem) (r : Option PV) : Prop := St Tru ws_X5_test_6 as_X5_test_6 M0 M' ∧ ∃ v : Int, r = some (0, v) ∧ 0 ≤ v ∧ v ≤ 1 ∧ ((1 ≤ v ∧ v ≤ 1) → rd M' 6 6 = 0)
set_option maxRecDepth 100000 in
set_option maxHeartbeats 4000000 in
theorem sp_X5_test_6 {l : Launch} {K : EC} {M0 : Mem} {xq : Int} (hI : In Tru M0) (hE : e_all K xq) (en_6_2 : rd M0 6 2 = 2) (en_6_3 : rd M0 6 3 = 27) (en_6_4 : rd M0 6 4 = 35) (en_6_6 : rd M0 6 6 = 0)   : Tr l K 41 mX5_test 0 [(0, (2, 6))] [] M0 (q_X5_test_6 M0) := by
  have hS : St Tru ws_X5_test_6 as_X5_test_6 M0 M0 := St.rf hI
  refine Tr.aload_n (pc := 0) (i := 0) d_X5_test_0 rfl rfl ?_
  refine Tr.callV (pc := 1) (as := []) d_X5_test_1 s_5_212 ok_X5_both rfl rfl (Nat.le_of_ble_eq_true rfl) (Nat.le_of_ble_eq_true rfl) (by decide) (ty_6 hS.1.1) ?_
  refine Tr.imp (Tr.deep (by decide) (sp_X5_both_6 hS.1 hE ((St.kp hS (by decide) (by decide) (by decide)).trans en_6_2) ((St.kp hS (by decide) (by decide) (by decide)).trans en_6_3) ((St.kp hS (by decide) (by decide) (by decide)).trans en_6_4) en_6_6)) ?_
  rintro M1 _ ⟨h1, r1, rfl, lr1, ur1, x1_6_6⟩
  have hS := St.tr hS h1 (by decide) (by decide)
  refine Tr.sc [(0, r1)] rfl ?_
  refine Tr.istore_n (pc := 4) (i := 1) (ls2 := [(1, (0, r1)), (0, (2, 6))]) d_X5_test_4 rfl (by decide) rfl ?_
  refine Tr.iconst (pc := 5) d_X5_test_5 (by decide) ?_
  refine Tr.istore_n (pc := 6) (i := 2) (ls2 := [(2, (0, 0)), (1, (0, r1)), (0, (2, 6))]) d_X5_test_6 rfl (by decide) rfl ?_
  have J7 : ∀ (n7 : Nat) (M : Mem) (p7_1 p7_2 : Int), St Tru ws_X5_test_6 as_X5_test_6 M0 M → (0 ≤ p7_1 ∧ p7_1 ≤ 1) → (0 ≤ p7_2 ∧ p7_2 ≤ 900) → (p7_1 = 1 → rd M 6 6 = 0) → (900 - p7_2).toNat < n7 → Tr l K 41 mX5_test 7 [(0, (2, 6)), (1, (0, p7_1)), (2, (0, p7_2))] [] M (q_X5_test_6 M0) := by
    intro n7
    induction n7 with
    | zero => intro M p7_1 p7_2 hS bp7_1 bp7_2  y7_p7_1_6_60 hm7; exact absurd hm7 (Nat.not_lt_zero _)
    | succ n7 J7 =>
      intro M p7_1 p7_2 hS bp7_1 bp7_2  y7_p7_1_6_60 hm7
      have y7_p7_1_6_6 : 1 ≤ p7_1 ∧ p7_1 ≤ 1 → rd M 6 6 = 0 := fun hq => y7_p7_1_6_60 (by omega)
      refine Tr.iload_n (pc := 7) (i := 2) d_X5_test_7 rfl rfl ?_
      refine Tr.sipush (pc := 8) d_X5_test_8 rfl (by decide) ?_
      refine Tr.icmp_ge (pc := 11) (tgt := 53) d_X5_test_11 rfl (fun c11 => ?_) (fun c11 => ?_)
      · refine Tr.iload_n (pc := 53) (i := 1) d_X5_test_53 rfl rfl ?_
        exact Tr.zret (pc := 54) d_X5_test_54 rfl (by omega) ⟨hS, _, rfl, by omega, by omega, fun hq => (y7_p7_1_6_6 (by omega))⟩
      · refine Tr.iload_n (pc := 14) (i := 1) d_X5_test_14 rfl rfl ?_
        refine Tr.if_eq (pc := 15) (tgt := 53) d_X5_test_15 rfl (fun c15 => ?_) (fun c15 => ?_)
        · refine Tr.iload_n (pc := 53) (i := 1) d_X5_test_53 rfl rfl ?_
          exact Tr.zret (pc := 54) d_X5_test_54 rfl (by omega) ⟨hS, _, rfl, by omega, by omega, fun hq => absurd hq (by omega)⟩
        · refine Tr.aload_n (pc := 18) (i := 0) d_X5_test_18 rfl rfl ?_
          refine Tr.bipush (pc := 19) d_X5_test_19 rfl (by decide) ?_
          refine Tr.callV (pc := 21) (as := [_]) d_X5_test_21 s_5_71 ok_X5_isOwn rfl rfl (Nat.le_of_ble_eq_true rfl) (Nat.le_of_ble_eq_true rfl) (by decide) (ty_6 hS.1.1) ?_
          refine Tr.imp (Tr.deep (by decide) (sp_X5_isOwn_6_w3 hS.1 ((St.kp hS (by decide) (by decide) (by decide)).trans en_6_2) 19 (by omega))) ?_
          rintro M21 _ ⟨h21, r21, rfl, lr21, ur21⟩
          have hS := St.tr hS h21 (by decide) (by decide)
          refine Tr.sc [(0, r21)] rfl ?_
          refine Tr.if_eq (pc := 24) (tgt := 53) d_X5_test_24 rfl (fun c24 => ?_) (fun c24 => ?_)
          · refine Tr.iload_n (pc := 53) (i := 1) d_X5_test_53 rfl rfl ?_
            exact Tr.zret (pc := 54) d_X5_test_54 rfl (by omega) ⟨hS, _, rfl, by omega, by omega, fun _ => ((St.kp h21 (by decide) (by decide) (by decide)).trans (y7_p7_1_6_6 (by omega)))⟩
          · refine Tr.aload_n (pc := 27) (i := 0) d_X5_test_27 rfl rfl ?_
            refine Tr.callV (pc := 28) (as := []) d_X5_test_28 s_5_74 ok_X5_goOn rfl rfl (Nat.le_of_ble_eq_true rfl) (Nat.le_of_ble_eq_true rfl) (by decide) (ty_6 hS.1.1) ?_
            refine Tr.imp (Tr.deep (by decide) (sp_X5_goOn_6 hS.1 )) ?_
            rintro M28 _ ⟨h28, r28, rfl, lr28, ur28⟩
            have hS := St.tr hS h28 (by decide) (by decide)
            refine Tr.sc [(0, r28)] rfl ?_
            refine Tr.pop (pc := 31) d_X5_test_31 ne01 ?_
            refine Tr.aload_n (pc := 32) (i := 0) d_X5_test_32 rfl rfl ?_
            refine Tr.callV (pc := 33) (as := []) d_X5_test_33 s_5_212 ok_X5_both rfl rfl (Nat.le_of_ble_eq_true rfl) (Nat.le_of_ble_eq_true rfl) (by decide) (ty_6 hS.1.1) ?_
            refine Tr.imp (Tr.deep (by decide) (sp_X5_both_6 hS.1 hE ((St.kp hS (by decide) (by decide) (by decide)).trans en_6_2) ((St.kp hS (by decide) (by decide) (by decide)).trans en_6_3) ((St.kp hS (by decide) (by decide) (by decide)).trans en_6_4) ((St.kp h28 (by decide) (by decide) (by decide)).trans ((St.kp h21 (by decide) (by decide) (by decide)).trans (y7_p7_1_6_6 (by omega)))))) ?_
            rintro M33 _ ⟨h33, r33, rfl, lr33, ur33, x33_6_6⟩
            have hS := St.tr hS h33 (by decide) (by decide)
            refine Tr.sc [(0, r33)] rfl ?_
            refine Tr.istore_n (pc := 36) (i := 1) (ls2 := [(1, (0, r33)), (0, (2, 6)), (2, (0, p7_2))]) d_X5_test_36 rfl (by decide) rfl ?_
            refine Tr.aload_n (pc := 37) (i := 0) d_X5_test_37 rfl rfl ?_
            refine Tr.getf (pc := 38) d_X5_test_38 f_5_32 (by decide) (by decide) (ty_6 hS.1.1) ?_
            refine Tr.tp 35 ((St.kp hS (by decide) (by decide) (by decide)).trans en_6_4) ?_
            refine Tr.bipush (pc := 41) d_X5_test_41 rfl (by decide) ?_
            refine Tr.iconst (pc := 43) d_X5_test_43 (by decide) ?_
            refine Tr.callV (pc := 44) (as := [_, _]) d_X5_test_44 s_5_215 ok_X4_emit rfl rfl (Nat.le_of_ble_eq_true rfl) (Nat.le_of_ble_eq_true rfl) (by decide) (ty_35 hS.1.1) ?_
            refine Tr.imp (Tr.deep (by decide) (sp_X4_emit_35_w10 hS.1.wk 17 (by omega) 0 (by omega) (by omega))) ?_
            rintro M44 _ ⟨h44, rfl⟩
            have hS := St.tr hS h44 (by decide) (by decide)
            refine Tr.sc [] rfl ?_
            refine Tr.iincV (pc := 47) (n2 := (p7_2 + 1)) (ls2 := [(2, (0, (p7_2 + 1))), (1, (0, r33)), (0, (2, 6))]) d_X5_test_47 rfl (by decide) ((w32_id (by omega)).trans (by omega)) rfl ?_
            refine Tr.goto (pc := 50) (tgt := 7) d_X5_test_50 rfl ?_
            refine Tr.pick [2, 1, 0] (ls2 := [(0, (2, 6)), (1, (0, r33)), (2, (0, (p7_2 + 1)))]) rfl ?_
            exact J7 _ _ _ hS (by omega) (by omega) (fun hq => ((St.kp h44 (by decide) (by decide) (by decide)).trans (x33_6_6 (by omega)))) (by omega)
  refine Tr.pick [2, 1, 0] (ls2 := [(0, (2, 6)), (1, (0, r1)), (2, (0, 0))]) rfl ?_
  exact J7 _ _ _ _ hS (by omega) (by omega) (fun hq => (x1_6_6 (by omega))) (Nat.lt_succ_self _)

def ws_X5_about_6_v0 : List (Int × Int) := [(6, 0), (6, 1), (6, 5)]
def as_X5_about_6_v0 : List Int := [37]
def q_X5_about_6_v0 (M0 M' : Mem) (r : Option PV) : Prop := St Tru ws_X5_about_6_v0 as_X5_about_6_v0 M0 M' ∧ ∃ v : Int, r = some (0, v) ∧ 0 ≤ v ∧ v ≤ 1
set_option maxRecDepth 100000 in
set_option maxHeartbeats 4000000 in
theorem sp_X5_about_6_v0 {l : Launch} {K : EC} {M0 : Mem} {xq : Int} (hI : In Tru M0) (hE : e_all K xq) (en_6_2 : rd M0 6 2 = 2) (en_6_3 : rd M0 6 3 = 27) (en_6_4 : rd M0 6 4 = 35) (a1 : Int) (ha1 : 0 ≤ a1 ∧ a1 ≤ 59)  : Tr l K 2 mX5_about 0 [(0, (2, 6)), (1, (0, a1)), (2, (0, 0))] [] M0 (q_X5_about_6_v0 M0) := by
  have hS : St Tru ws_X5_about_6_v0 as_X5_about_6_v0 M0 M0 := St.rf hI
  refine Tr.aload_n (pc := 0) (i := 0) d_X5_about_0 rfl rfl ?_
  refine Tr.iload_n (pc := 1) (i := 2) d_X5_about_1 rfl rfl ?_
  refine Tr.callV (pc := 2) (as := [_]) d_X5_about_2 s_5_186 ok_X5_takeName rfl rfl (Nat.le_of_ble_eq_true rfl) (Nat.le_of_ble_eq_true rfl) (by decide) (ty_6 hS.1.1) ?_
  refine Tr.imp (Tr.deep (by decide) (sp_X5_takeName_6_v0 hS.1 hE ((St.kp hS (by decide) (by decide) (by decide)).trans en_6_2) ((St.kp hS (by decide) (by decide) (by decide)).trans en_6_3))) ?_
  rintro M2 _ ⟨h2, r2, rfl, lr2, ur2⟩
  have hS := St.tr hS h2 (by decide) (by decide)
  refine Tr.sc [(0, r2)] rfl ?_
  refine Tr.istore_n (pc := 5) (i := 3) (ls2 := [(3, (0, r2)), (0, (2, 6)), (1, (0, a1)), (2, (0, 0))]) d_X5_about_5 rfl (by decide) rfl ?_
  refine Tr.aload_n (pc := 6) (i := 0) d_X5_about_6 rfl rfl ?_
  refine Tr.getf (pc := 7) d_X5_about_7 f_5_32 (by decide) (by decide) (ty_6 hS.1.1) ?_
  refine Tr.tp 35 ((St.kp hS (by decide) (by decide) (by decide)).trans en_6_4) ?_
  refine Tr.getf (pc := 10) d_X5_about_10 f_5_189 (by decide) (by decide) (ty_35 hS.1.1) ?_
  refine Tr.tp 37 (fx_35_2 hS.1.1) ?_
  refine Tr.iload_n (pc := 13) (i := 1) d_X5_about_13 rfl rfl ?_
  refine Tr.iload_n (pc := 14) (i := 3) d_X5_about_14 rfl rfl ?_
  refine Tr.iconst (pc := 15) d_X5_about_15 (by decide) ?_
  refine Tr.mmax (pc := 16) d_X5_about_16 ml_5_192 mw_mmax (Nat.le_of_ble_eq_true rfl) ?_
  refine Tr.gen (P := fun v => (v = r2 ∧ 0 ≤ r2) ∨ (v = 0 ∧ r2 ≤ 0)) (f_max_p _ _) (fun r16 er16 br16 => ?_)
  refine Tr.iastS (pc := 19) (P := St Tru ws_X5_about_6_v0 as_X5_about_6_v0 M0) d_X5_about_19 (ty_37 hS.1.1) (by omega) (by omega) (sa_37 hS (by decide) (by omega) trivial) (fun M19 hS w19 => ?_)
  refine Tr.iload_n (pc := 20) (i := 3) d_X5_about_20 rfl rfl ?_
  refine Tr.if_lt (pc := 21) (tgt := 28) d_X5_about_21 rfl (fun c21 => ?_) (fun c21 => ?_)
  · refine Tr.iconst (pc := 28) d_X5_about_28 (by decide) ?_
    exact Tr.zret (pc := 29) d_X5_about_29 rfl (by omega) ⟨hS, _, rfl, by omega, by omega⟩
  · refine Tr.iconst (pc := 24) d_X5_about_24 (by decide) ?_
    refine Tr.goto (pc := 25) (tgt := 29) d_X5_about_25 rfl ?_
    exact Tr.zret (pc := 29) d_X5_about_29 rfl (by omega) ⟨hS, _, rfl, by omega, by omega⟩

def ws_X5_about_6_v2 : List (Int × Int) := [(6, 0), (6, 1), (6, 5)]
def as_X5_about_6_v2 : List Int := [37]
def q_X5_about_6_v2 (M0 M' : Mem) (r : Option PV) : Prop := St Tru ws_X5_about_6_v2 as_X5_about_6_v2 M0 M' ∧ ∃ v : Int, r = some (0, v) ∧ 0 ≤ v ∧ v ≤ 1
set_option maxRecDepth 100000 in
set_option maxHeartbeats 4000000 in
theorem sp_X5_about_6_v2 {l : Launch} {K : EC} {M0 : Mem} {xq : Int} (hI : In Tru M0) (hE : e_all K xq) (en_6_2 : rd M0 6 2 = 2) (en_6_3 : rd M0 6 3 = 27) (en_6_4 : rd M0 6 4 = 35) (a1 : Int) (ha1 : 0 ≤ a1 ∧ a1 ≤ 59)  : Tr l K 2 mX5_about 0 [(0, (2, 6)), (1, (0, a1)), (2, (0, 2))] [] M0 (q_X5_about_6_v2 M0) := by
  have hS : St Tru ws_X5_about_6_v2 as_X5_about_6_v2 M0 M0 := St.rf hI
  refine Tr.aload_n (pc := 0) (i := 0) d_X5_about_0 rfl rfl ?_
  refine Tr.iload_n (pc := 1) (i := 2) d_X5_about_1 rfl rfl ?_
  refine Tr.callV (pc := 2) (as := [_]) d_X5_about_2 s_5_186 ok_X5_takeName rfl rfl (Nat.le_of_ble_eq_true rfl) (Nat.le_of_ble_eq_true rfl) (by decide) (ty_6 hS.1.1) ?_
  refine Tr.imp (Tr.deep (by decide) (sp_X5_takeName_6_v2 hS.1 hE ((St.kp hS (by decide) (by decide) (by decide)).trans en_6_2) ((St.kp hS (by decide) (by decide) (by decide)).trans en_6_3))) ?_
  rintro M2 _ ⟨h2, r2, rfl, lr2, ur2⟩
  have hS := St.tr hS h2 (by decide) (by decide)
  refine Tr.sc [(0, r2)] rfl ?_
  refine Tr.istore_n (pc := 5) (i := 3) (ls2 := [(3, (0, r2)), (0, (2, 6)), (1, (0, a1)), (2, (0, 2))]) d_X5_about_5 rfl (by decide) rfl ?_
  refine Tr.aload_n (pc := 6) (i := 0) d_X5_about_6 rfl rfl ?_
  refine Tr.getf (pc := 7) d_X5_about_7 f_5_32 (by decide) (by decide) (ty_6 hS.1.1) ?_
  refine Tr.tp 35 ((St.kp hS (by decide) (by decide) (by decide)).trans en_6_4) ?_
  refine Tr.getf (pc := 10) d_X5_about_10 f_5_189 (by decide) (by decide) (ty_35 hS.1.1) ?_
  refine Tr.tp 37 (fx_35_2 hS.1.1) ?_
  refine Tr.iload_n (pc := 13) (i := 1) d_X5_about_13 rfl rfl ?_
  refine Tr.iload_n (pc := 14) (i := 3) d_X5_about_14 rfl rfl ?_
  refine Tr.iconst (pc := 15) d_X5_about_15 (by decide) ?_
  refine Tr.mmax (pc := 16) d_X5_about_16 ml_5_192 mw_mmax (Nat.le_of_ble_eq_true rfl) ?_
  refine Tr.gen (P := fun v => (v = r2 ∧ 0 ≤ r2) ∨ (v = 0 ∧ r2 ≤ 0)) (f_max_p _ _) (fun r16 er16 br16 => ?_)
  refine Tr.iastS (pc := 19) (P := St Tru ws_X5_about_6_v2 as_X5_about_6_v2 M0) d_X5_about_19 (ty_37 hS.1.1) (by omega) (by omega) (sa_37 hS (by decide) (by omega) trivial) (fun M19 hS w19 => ?_)
  refine Tr.iload_n (pc := 20) (i := 3) d_X5_about_20 rfl rfl ?_
  refine Tr.if_lt (pc := 21) (tgt := 28) d_X5_about_21 rfl (fun c21 => ?_) (fun c21 => ?_)
  · refine Tr.iconst (pc := 28) d_X5_about_28 (by decide) ?_
    exact Tr.zret (pc := 29) d_X5_about_29 rfl (by omega) ⟨hS, _, rfl, by omega, by omega⟩
  · refine Tr.iconst (pc := 24) d_X5_about_24 (by decide) ?_
    refine Tr.goto (pc := 25) (tgt := 29) d_X5_about_25 rfl ?_
    exact Tr.zret (pc := 29) d_X5_about_29 rfl (by omega) ⟨hS, _, rfl, by omega, by omega⟩

def ws_X5_order_6_w8 : List (Int × Int) := [(6, 0), (6, 1), (6, 5), (35, 11)]
def as_X5_order_6_w8 : List Int := [37, 39, 44, 45]
def q_X5_order_6_w8 (M0 M' : Mem) (r : Option PV) : Prop := St Tru ws_X5_order_6_w8 as_X5_order_6_w8 M0 M' ∧ ∃ v : Int, r = some (0, v) ∧ 0 ≤ v ∧ v ≤ 1
set_option maxRecDepth 100000 in
set_option maxHeartbeats 4000000 in
theorem sp_X5_order_6_w8 {l : Launch} {K : EC} {M0 : Mem} {xq : Int} (hI : In Tru M0) (hE : e_all K xq) (en_6_2 : rd M0 6 2 = 2) (en_6_3 : rd M0 6 3 = 27) (en_6_4 : rd M0 6 4 = 35) (en_6_6 : rd M0 6 6 = 8) (a1 : Int) (ha1 : 0 ≤ a1 ∧ a1 ≤ 59)  : Tr l K 10 mX5_order 0 [(0, (2, 6)), (1, (0, a1))] [] M0 (q_X5_order_6_w8 M0) := by
  have hS : St Tru ws_X5_order_6_w8 as_X5_order_6_w8 M0 M0 := St.rf hI
  refine Tr.aload_n (pc := 0) (i := 0) d_X5_order_0 rfl rfl ?_
  refine Tr.getf (pc := 1) d_X5_order_1 f_5_32 (by decide) (by decide) (ty_6 hS.1.1) ?_
  refine Tr.tp 35 ((St.kp hS (by decide) (by decide) (by decide)).trans en_6_4) ?_
  refine Tr.getf (pc := 4) d_X5_order_4 f_5_169 (by decide) (by decide) (ty_35 hS.1.1) ?_
  refine Tr.tp 36 (fx_35_1 hS.1.1) ?_
  refine Tr.iload_n (pc := 7) (i := 1) d_X5_order_7 rfl rfl ?_
  refine Tr.iald (pc := 8) d_X5_order_8 (ty_36 hS.1.1) (by omega) (by omega) ?_
  refine Tr.gen (P := fun v => (-2147483648) ≤ v ∧ v ≤ 2147483647) (ar_36 hS.1.2.1 _) (fun r8 er8 br8 => ?_)
  rcases (show (r8 < 5 ∨ 11 < r8) ∨ r8 = 5 ∨ r8 = 6 ∨ r8 = 7 ∨ r8 = 8 ∨ r8 = 9 ∨ r8 = 10 ∨ r8 = 11 by omega) with c9 | c9 | c9 | c9 | c9 | c9 | c9 | c9
  · refine Tr.tswOut (pc := 9) (tgt := 198) d_X5_order_9 c9 rfl ?_
    refine Tr.aload_n (pc := 198) (i := 0) d_X5_order_198 rfl rfl ?_
    refine Tr.callV (pc := 199) (as := []) d_X5_order_199 s_5_177 ok_X5_test rfl rfl (Nat.le_of_ble_eq_true rfl) (Nat.le_of_ble_eq_true rfl) (by decide) (ty_6 hS.1.1) ?_
    refine Tr.imp (Tr.deep (by decide) (sp_X5_test_6_w8 hS.1 hE ((St.kp hS (by decide) (by decide) (by decide)).trans en_6_2) ((St.kp hS (by decide) (by decide) (by decide)).trans en_6_3) ((St.kp hS (by decide) (by decide) (by decide)).trans en_6_4) en_6_6)) ?_
    rintro M199 _ ⟨h199, r199, rfl, lr199, ur199⟩
    have hS := St.tr hS h199 (by decide) (by decide)
    refine Tr.sc [(0, r199)] rfl ?_
    refine Tr.if_eq (pc := 202) (tgt := 217) d_X5_order_202 rfl (fun c202 => ?_) (fun c202 => ?_)
    · refine Tr.iconst (pc := 217) d_X5_order_217 (by decide) ?_
      exact Tr.zret (pc := 218) d_X5_order_218 rfl (by omega) ⟨hS, _, rfl, by omega, by omega⟩
    · refine Tr.aload_n (pc := 205) (i := 0) d_X5_order_205 rfl rfl ?_
      refine Tr.iload_n (pc := 206) (i := 1) d_X5_order_206 rfl rfl ?_
      refine Tr.callV (pc := 207) (as := [_]) d_X5_order_207 s_5_180 ok_X5_yesBlock rfl rfl (Nat.le_of_ble_eq_true rfl) (Nat.le_of_ble_eq_true rfl) (by decide) (ty_6 hS.1.1) ?_
      refine Tr.imp (Tr.deep (by decide) (sp_X5_yesBlock_6_w8 hS.1 ((St.kp hS (by decide) (by decide) (by decide)).trans en_6_2) ((St.kp hS (by decide) (by decide) (by decide)).trans en_6_4) ((St.kp h199 (by decide) (by decide) (by decide)).trans en_6_6) a1 (by omega))) ?_
      rintro M207 _ ⟨h207, r207, rfl, lr207, ur207⟩
      have hS := St.tr hS h207 (by decide) (by decide)
      refine Tr.sc [(0, r207)] rfl ?_
      refine Tr.if_eq (pc := 210) (tgt := 217) d_X5_order_210 rfl (fun _ => ?_) (fun hc => absurd (by omega) hc)
      refine Tr.iconst (pc := 217) d_X5_order_217 (by decide) ?_
      exact Tr.zret (pc := 218) d_X5_order_218 rfl (by omega) ⟨hS, _, rfl, by omega, by omega⟩
  · refine Tr.tp 5 c9 ?_
    refine Tr.tswIn (pc := 9) (off := 43) (tgt := 52) d_X5_order_9 (by decide) (by decide) rfl rfl ?_
    refine Tr.aload_n (pc := 52) (i := 0) d_X5_order_52 rfl rfl ?_
    refine Tr.iload_n (pc := 53) (i := 1) d_X5_order_53 rfl rfl ?_
    refine Tr.iconst (pc := 54) d_X5_order_54 (by decide) ?_
    refine Tr.callV (pc := 55) (as := [_, _]) d_X5_order_55 s_5_170 ok_X5_about rfl rfl (Nat.le_of_ble_eq_true rfl) (Nat.le_of_ble_eq_true rfl) (by decide) (ty_6 hS.1.1) ?_
    refine Tr.imp (Tr.deep (by decide) (sp_X5_about_6_v2 hS.1 hE ((St.kp hS (by decide) (by decide) (by decide)).trans en_6_2) ((St.kp hS (by decide) (by decide) (by decide)).trans en_6_3) ((St.kp hS (by decide) (by decide) (by decide)).trans en_6_4) a1 (by omega))) ?_
    rintro M55 _ ⟨h55, r55, rfl, lr55, ur55⟩
    have hS := St.tr hS h55 (by decide) (by decide)
    refine Tr.sc [(0, r55)] rfl ?_
    refine Tr.if_eq (pc := 58) (tgt := 90) d_X5_order_58 rfl (fun c58 => ?_) (fun c58 => ?_)
    · refine Tr.iconst (pc := 90) d_X5_order_90 (by decide) ?_
      exact Tr.zret (pc := 91) d_X5_order_91 rfl (by omega) ⟨hS, _, rfl, by omega, by omega⟩
    · refine Tr.aload_n (pc := 61) (i := 0) d_X5_order_61 rfl rfl ?_
      refine Tr.bipush (pc := 62) d_X5_order_62 rfl (by decide) ?_
      refine Tr.callV (pc := 64) (as := [_]) d_X5_order_64 s_5_81 ok_X5_takeSign rfl rfl (Nat.le_of_ble_eq_true rfl) (Nat.le_of_ble_eq_true rfl) (by decide) (ty_6 hS.1.1) ?_
      refine Tr.imp (Tr.deep (by decide) (sp_X5_takeSign_6_w3 hS.1 ((St.kp hS (by decide) (by decide) (by decide)).trans en_6_2) 61 (by omega))) ?_
      rintro M64 _ ⟨h64, r64, rfl, lr64, ur64⟩
      have hS := St.tr hS h64 (by decide) (by decide)
      refine Tr.sc [(0, r64)] rfl ?_
      refine Tr.if_eq (pc := 67) (tgt := 90) d_X5_order_67 rfl (fun c67 => ?_) (fun c67 => ?_)
      · refine Tr.iconst (pc := 90) d_X5_order_90 (by decide) ?_
        exact Tr.zret (pc := 91) d_X5_order_91 rfl (by omega) ⟨hS, _, rfl, by omega, by omega⟩
      · refine Tr.aload_n (pc := 70) (i := 0) d_X5_order_70 rfl rfl ?_
        refine Tr.callV (pc := 71) (as := []) d_X5_order_71 s_5_174 ok_X5_sum rfl rfl (Nat.le_of_ble_eq_true rfl) (Nat.le_of_ble_eq_true rfl) (by decide) (ty_6 hS.1.1) ?_
        refine Tr.imp (Tr.deep (by decide) (sp_X5_sum_6_w8 hS.1 hE ((St.kp hS (by decide) (by decide) (by decide)).trans en_6_2) ((St.kp hS (by decide) (by decide) (by decide)).trans en_6_3) ((St.kp hS (by decide) (by decide) (by decide)).trans en_6_4) ((St.kp h64 (by decide) (by decide) (by decide)).trans ((St.kp h55 (by decide) (by decide) (by decide)).trans en_6_6)))) ?_
        rintro M71 _ ⟨h71, r71, rfl, lr71, ur71⟩
        have hS := St.tr hS h71 (by decide) (by decide)
        refine Tr.sc [(0, r71)] rfl ?_
        refine Tr.if_eq (pc := 74) (tgt := 90) d_X5_order_74 rfl (fun c74 => ?_) (fun c74 => ?_)
        · refine Tr.iconst (pc := 90) d_X5_order_90 (by decide) ?_
          exact Tr.zret (pc := 91) d_X5_order_91 rfl (by omega) ⟨hS, _, rfl, by omega, by omega⟩
        · refine Tr.aload_n (pc := 77) (i := 0) d_X5_order_77 rfl rfl ?_
          refine Tr.bipush (pc := 78) d_X5_order_78 rfl (by decide) ?_
          refine Tr.callV (pc := 80) (as := [_]) d_X5_order_80 s_5_81 ok_X5_takeSign rfl rfl (Nat.le_of_ble_eq_true rfl) (Nat.le_of_ble_eq_true rfl) (by decide) (ty_6 hS.1.1) ?_
          refine Tr.imp (Tr.deep (by decide) (sp_X5_takeSign_6 hS.1 ((St.kp hS (by decide) (by decide) (by decide)).trans en_6_2) 59 (by omega))) ?_
          rintro M80 _ ⟨h80, r80, rfl, lr80, ur80⟩
          have hS := St.tr hS h80 (by decide) (by decide)
          refine Tr.sc [(0, r80)] rfl ?_
          refine Tr.if_eq (pc := 83) (tgt := 90) d_X5_order_83 rfl (fun c83 => ?_) (fun c83 => ?_)
          · refine Tr.iconst (pc := 90) d_X5_order_90 (by decide) ?_
            exact Tr.zret (pc := 91) d_X5_order_91 rfl (by omega) ⟨hS, _, rfl, by omega, by omega⟩
          · refine Tr.iconst (pc := 86) d_X5_order_86 (by decide) ?_
            refine Tr.goto (pc := 87) (tgt := 91) d_X5_order_87 rfl ?_
            exact Tr.zret (pc := 91) d_X5_order_91 rfl (by omega) ⟨hS, _, rfl, by omega, by omega⟩
  · refine Tr.tp 6 c9 ?_
    refine Tr.tswIn (pc := 9) (off := 83) (tgt := 92) d_X5_order_9 (by decide) (by decide) rfl rfl ?_
    refine Tr.aload_n (pc := 92) (i := 0) d_X5_order_92 rfl rfl ?_
    refine Tr.iload_n (pc := 93) (i := 1) d_X5_order_93 rfl rfl ?_
    refine Tr.iconst (pc := 94) d_X5_order_94 (by decide) ?_
    refine Tr.callV (pc := 95) (as := [_, _]) d_X5_order_95 s_5_170 ok_X5_about rfl rfl (Nat.le_of_ble_eq_true rfl) (Nat.le_of_ble_eq_true rfl) (by decide) (ty_6 hS.1.1) ?_
    refine Tr.imp (Tr.deep (by decide) (sp_X5_about_6_v0 hS.1 hE ((St.kp hS (by decide) (by decide) (by decide)).trans en_6_2) ((St.kp hS (by decide) (by decide) (by decide)).trans en_6_3) ((St.kp hS (by decide) (by decide) (by decide)).trans en_6_4) a1 (by omega))) ?_
    rintro M95 _ ⟨h95, r95, rfl, lr95, ur95⟩
    have hS := St.tr hS h95 (by decide) (by decide)
    refine Tr.sc [(0, r95)] rfl ?_
    refine Tr.if_eq (pc := 98) (tgt := 121) d_X5_order_98 rfl (fun c98 => ?_) (fun c98 => ?_)
    · refine Tr.iconst (pc := 121) d_X5_order_121 (by decide) ?_
      exact Tr.zret (pc := 122) d_X5_order_122 rfl (by omega) ⟨hS, _, rfl, by omega, by omega⟩
    · refine Tr.aload_n (pc := 101) (i := 0) d_X5_order_101 rfl rfl ?_
      refine Tr.callV (pc := 102) (as := []) d_X5_order_102 s_5_174 ok_X5_sum rfl rfl (Nat.le_of_ble_eq_true rfl) (Nat.le_of_ble_eq_true rfl) (by decide) (ty_6 hS.1.1) ?_
      refine Tr.imp (Tr.deep (by decide) (sp_X5_sum_6_w8 hS.1 hE ((St.kp hS (by decide) (by decide) (by decide)).trans en_6_2) ((St.kp hS (by decide) (by decide) (by decide)).trans en_6_3) ((St.kp hS (by decide) (by decide) (by decide)).trans en_6_4) ((St.kp h95 (by decide) (by decide) (by decide)).trans en_6_6))) ?_
      rintro M102 _ ⟨h102, r102, rfl, lr102, ur102⟩
      have hS := St.tr hS h102 (by decide) (by decide)
      refine Tr.sc [(0, r102)] rfl ?_
      refine Tr.if_eq (pc := 105) (tgt := 121) d_X5_order_105 rfl (fun c105 => ?_) (fun c105 => ?_)
      · refine Tr.iconst (pc := 121) d_X5_order_121 (by decide) ?_
        exact Tr.zret (pc := 122) d_X5_order_122 rfl (by omega) ⟨hS, _, rfl, by omega, by omega⟩
      · refine Tr.aload_n (pc := 108) (i := 0) d_X5_order_108 rfl rfl ?_
        refine Tr.bipush (pc := 109) d_X5_order_109 rfl (by decide) ?_
        refine Tr.callV (pc := 111) (as := [_]) d_X5_order_111 s_5_81 ok_X5_takeSign rfl rfl (Nat.le_of_ble_eq_true rfl) (Nat.le_of_ble_eq_true rfl) (by decide) (ty_6 hS.1.1) ?_
        refine Tr.imp (Tr.deep (by decide) (sp_X5_takeSign_6 hS.1 ((St.kp hS (by decide) (by decide) (by decide)).trans en_6_2) 59 (by omega))) ?_
        rintro M111 _ ⟨h111, r111, rfl, lr111, ur111⟩
        have hS := St.tr hS h111 (by decide) (by decide)
        refine Tr.sc [(0, r111)] rfl ?_
        refine Tr.if_eq (pc := 114) (tgt := 121) d_X5_order_114 rfl (fun c114 => ?_) (fun c114 => ?_)
        · refine Tr.iconst (pc := 121) d_X5_order_121 (by decide) ?_
          exact Tr.zret (pc := 122) d_X5_order_122 rfl (by omega) ⟨hS, _, rfl, by omega, by omega⟩
        · refine Tr.iconst (pc := 117) d_X5_order_117 (by decide) ?_
          refine Tr.goto (pc := 118) (tgt := 122) d_X5_order_118 rfl ?_
          exact Tr.zret (pc := 122) d_X5_order_122 rfl (by omega) ⟨hS, _, rfl, by omega, by omega⟩
  · refine Tr.tp 7 c9 ?_
    refine Tr.tswIn (pc := 9) (off := 114) (tgt := 123) d_X5_order_9 (by decide) (by decide) rfl rfl ?_
    refine Tr.aload_n (pc := 123) (i := 0) d_X5_order_123 rfl rfl ?_
    refine Tr.iload_n (pc := 124) (i := 1) d_X5_order_124 rfl rfl ?_
    refine Tr.iconst (pc := 125) d_X5_order_125 (by decide) ?_
    refine Tr.callV (pc := 126) (as := [_, _]) d_X5_order_126 s_5_170 ok_X5_about rfl rfl (Nat.le_of_ble_eq_true rfl) (Nat.le_of_ble_eq_true rfl) (by decide) (ty_6 hS.1.1) ?_
    refine Tr.imp (Tr.deep (by decide) (sp_X5_about_6_v0 hS.1 hE ((St.kp hS (by decide) (by decide) (by decide)).trans en_6_2) ((St.kp hS (by decide) (by decide) (by decide)).trans en_6_3) ((St.kp hS (by decide) (by decide) (by decide)).trans en_6_4) a1 (by omega))) ?_
    rintro M126 _ ⟨h126, r126, rfl, lr126, ur126⟩
    have hS := St.tr hS h126 (by decide) (by decide)
    refine Tr.sc [(0, r126)] rfl ?_
    refine Tr.if_eq (pc := 129) (tgt := 145) d_X5_order_129 rfl (fun c129 => ?_) (fun c129 => ?_)
    · refine Tr.iconst (pc := 145) d_X5_order_145 (by decide) ?_
      exact Tr.zret (pc := 146) d_X5_order_146 rfl (by omega) ⟨hS, _, rfl, by omega, by omega⟩
    · refine Tr.aload_n (pc := 132) (i := 0) d_X5_order_132 rfl rfl ?_
      refine Tr.bipush (pc := 133) d_X5_order_133 rfl (by decide) ?_
      refine Tr.callV (pc := 135) (as := [_]) d_X5_order_135 s_5_81 ok_X5_takeSign rfl rfl (Nat.le_of_ble_eq_true rfl) (Nat.le_of_ble_eq_true rfl) (by decide) (ty_6 hS.1.1) ?_
      refine Tr.imp (Tr.deep (by decide) (sp_X5_takeSign_6 hS.1 ((St.kp hS (by decide) (by decide) (by decide)).trans en_6_2) 59 (by omega))) ?_
      rintro M135 _ ⟨h135, r135, rfl, lr135, ur135⟩
      have hS := St.tr hS h135 (by decide) (by decide)
      refine Tr.sc [(0, r135)] rfl ?_
      refine Tr.if_eq (pc := 138) (tgt := 145) d_X5_order_138 rfl (fun c138 => ?_) (fun c138 => ?_)
      · refine Tr.iconst (pc := 145) d_X5_order_145 (by decide) ?_
        exact Tr.zret (pc := 146) d_X5_order_146 rfl (by omega) ⟨hS, _, rfl, by omega, by omega⟩
      · refine Tr.iconst (pc := 141) d_X5_order_141 (by decide) ?_
        refine Tr.goto (pc := 142) (tgt := 146) d_X5_order_142 rfl ?_
        exact Tr.zret (pc := 146) d_X5_order_146 rfl (by omega) ⟨hS, _, rfl, by omega, by omega⟩
  · refine Tr.tp 8 c9 ?_
    refine Tr.tswIn (pc := 9) (off := 114) (tgt := 123) d_X5_order_9 (by decide) (by decide) rfl rfl ?_
    refine Tr.aload_n (pc := 123) (i := 0) d_X5_order_123 rfl rfl ?_
    refine Tr.iload_n (pc := 124) (i := 1) d_X5_order_124 rfl rfl ?_
    refine Tr.iconst (pc := 125) d_X5_order_125 (by decide) ?_
    refine Tr.callV (pc := 126) (as := [_, _]) d_X5_order_126 s_5_170 ok_X5_about rfl rfl (Nat.le_of_ble_eq_true rfl) (Nat.le_of_ble_eq_true rfl) (by decide) (ty_6 hS.1.1) ?_
    refine Tr.imp (Tr.deep (by decide) (sp_X5_about_6_v0 hS.1 hE ((St.kp hS (by decide) (by decide) (by decide)).trans en_6_2) ((St.kp hS (by decide) (by decide) (by decide)).trans en_6_3) ((St.kp hS (by decide) (by decide) (by decide)).trans en_6_4) a1 (by omega))) ?_
    rintro M126 _ ⟨h126, r126, rfl, lr126, ur126⟩
    have hS := St.tr hS h126 (by decide) (by decide)
    refine Tr.sc [(0, r126)] rfl ?_
    refine Tr.if_eq (pc := 129) (tgt := 145) d_X5_order_129 rfl (fun c129 => ?_) (fun c129 => ?_)
    · refine Tr.iconst (pc := 145) d_X5_order_145 (by decide) ?_
      exact Tr.zret (pc := 146) d_X5_order_146 rfl (by omega) ⟨hS, _, rfl, by omega, by omega⟩
    · refine Tr.aload_n (pc := 132) (i := 0) d_X5_order_132 rfl rfl ?_
      refine Tr.bipush (pc := 133) d_X5_order_133 rfl (by decide) ?_
      refine Tr.callV (pc := 135) (as := [_]) d_X5_order_135 s_5_81 ok_X5_takeSign rfl rfl (Nat.le_of_ble_eq_true rfl) (Nat.le_of_ble_eq_true rfl) (by decide) (ty_6 hS.1.1) ?_
      refine Tr.imp (Tr.deep (by decide) (sp_X5_takeSign_6 hS.1 ((St.kp hS (by decide) (by decide) (by decide)).trans en_6_2) 59 (by omega))) ?_
      rintro M135 _ ⟨h135, r135, rfl, lr135, ur135⟩
      have hS := St.tr hS h135 (by decide) (by decide)
      refine Tr.sc [(0, r135)] rfl ?_
      refine Tr.if_eq (pc := 138) (tgt := 145) d_X5_order_138 rfl (fun c138 => ?_) (fun c138 => ?_)
      · refine Tr.iconst (pc := 145) d_X5_order_145 (by decide) ?_
        exact Tr.zret (pc := 146) d_X5_order_146 rfl (by omega) ⟨hS, _, rfl, by omega, by omega⟩
      · refine Tr.iconst (pc := 141) d_X5_order_141 (by decide) ?_
        refine Tr.goto (pc := 142) (tgt := 146) d_X5_order_142 rfl ?_
        exact Tr.zret (pc := 146) d_X5_order_146 rfl (by omega) ⟨hS, _, rfl, by omega, by omega⟩
  · refine Tr.tp 9 c9 ?_
    refine Tr.tswIn (pc := 9) (off := 138) (tgt := 147) d_X5_order_9 (by decide) (by decide) rfl rfl ?_
    refine Tr.aload_n (pc := 147) (i := 0) d_X5_order_147 rfl rfl ?_
    refine Tr.callV (pc := 148) (as := []) d_X5_order_148 s_5_174 ok_X5_sum rfl rfl (Nat.le_of_ble_eq_true rfl) (Nat.le_of_ble_eq_true rfl) (by decide) (ty_6 hS.1.1) ?_
    refine Tr.imp (Tr.deep (by decide) (sp_X5_sum_6_w8 hS.1 hE ((St.kp hS (by decide) (by decide) (by decide)).trans en_6_2) ((St.kp hS (by decide) (by decide) (by decide)).trans en_6_3) ((St.kp hS (by decide) (by decide) (by decide)).trans en_6_4) en_6_6)) ?_
    rintro M148 _ ⟨h148, r148, rfl, lr148, ur148⟩
    have hS := St.tr hS h148 (by decide) (by decide)
    refine Tr.sc [(0, r148)] rfl ?_
    refine Tr.if_eq (pc := 151) (tgt := 167) d_X5_order_151 rfl (fun c151 => ?_) (fun c151 => ?_)
    · refine Tr.iconst (pc := 167) d_X5_order_167 (by decide) ?_
      exact Tr.zret (pc := 168) d_X5_order_168 rfl (by omega) ⟨hS, _, rfl, by omega, by omega⟩
    · refine Tr.aload_n (pc := 154) (i := 0) d_X5_order_154 rfl rfl ?_
      refine Tr.bipush (pc := 155) d_X5_order_155 rfl (by decide) ?_
      refine Tr.callV (pc := 157) (as := [_]) d_X5_order_157 s_5_81 ok_X5_takeSign rfl rfl (Nat.le_of_ble_eq_true rfl) (Nat.le_of_ble_eq_true rfl) (by decide) (ty_6 hS.1.1) ?_
      refine Tr.imp (Tr.deep (by decide) (sp_X5_takeSign_6 hS.1 ((St.kp hS (by decide) (by decide) (by decide)).trans en_6_2) 59 (by omega))) ?_
      rintro M157 _ ⟨h157, r157, rfl, lr157, ur157⟩
      have hS := St.tr hS h157 (by decide) (by decide)
      refine Tr.sc [(0, r157)] rfl ?_
      refine Tr.if_eq (pc := 160) (tgt := 167) d_X5_order_160 rfl (fun c160 => ?_) (fun c160 => ?_)
      · refine Tr.iconst (pc := 167) d_X5_order_167 (by decide) ?_
        exact Tr.zret (pc := 168) d_X5_order_168 rfl (by omega) ⟨hS, _, rfl, by omega, by omega⟩
      · refine Tr.iconst (pc := 163) d_X5_order_163 (by decide) ?_
        refine Tr.goto (pc := 164) (tgt := 168) d_X5_order_164 rfl ?_
        exact Tr.zret (pc := 168) d_X5_order_168 rfl (by omega) ⟨hS, _, rfl, by omega, by omega⟩
  · refine Tr.tp 10 c9 ?_
    refine Tr.tswIn (pc := 9) (off := 138) (tgt := 147) d_X5_order_9 (by decide) (by decide) rfl rfl ?_
    refine Tr.aload_n (pc := 147) (i := 0) d_X5_order_147 rfl rfl ?_
    refine Tr.callV (pc := 148) (as := []) d_X5_order_148 s_5_174 ok_X5_sum rfl rfl (Nat.le_of_ble_eq_true rfl) (Nat.le_of_ble_eq_true rfl) (by decide) (ty_6 hS.1.1) ?_
    refine Tr.imp (Tr.deep (by decide) (sp_X5_sum_6_w8 hS.1 hE ((St.kp hS (by decide) (by decide) (by decide)).trans en_6_2) ((St.kp hS (by decide) (by decide) (by decide)).trans en_6_3) ((St.kp hS (by decide) (by decide) (by decide)).trans en_6_4) en_6_6)) ?_
    rintro M148 _ ⟨h148, r148, rfl, lr148, ur148⟩
    have hS := St.tr hS h148 (by decide) (by decide)
    refine Tr.sc [(0, r148)] rfl ?_
    refine Tr.if_eq (pc := 151) (tgt := 167) d_X5_order_151 rfl (fun c151 => ?_) (fun c151 => ?_)
    · refine Tr.iconst (pc := 167) d_X5_order_167 (by decide) ?_
      exact Tr.zret (pc := 168) d_X5_order_168 rfl (by omega) ⟨hS, _, rfl, by omega, by omega⟩
    · refine Tr.aload_n (pc := 154) (i := 0) d_X5_order_154 rfl rfl ?_
      refine Tr.bipush (pc := 155) d_X5_order_155 rfl (by decide) ?_
      refine Tr.callV (pc := 157) (as := [_]) d_X5_order_157 s_5_81 ok_X5_takeSign rfl rfl (Nat.le_of_ble_eq_true rfl) (Nat.le_of_ble_eq_true rfl) (by decide) (ty_6 hS.1.1) ?_
      refine Tr.imp (Tr.deep (by decide) (sp_X5_takeSign_6 hS.1 ((St.kp hS (by decide) (by decide) (by decide)).trans en_6_2) 59 (by omega))) ?_
      rintro M157 _ ⟨h157, r157, rfl, lr157, ur157⟩
      have hS := St.tr hS h157 (by decide) (by decide)
      refine Tr.sc [(0, r157)] rfl ?_
      refine Tr.if_eq (pc := 160) (tgt := 167) d_X5_order_160 rfl (fun c160 => ?_) (fun c160 => ?_)
      · refine Tr.iconst (pc := 167) d_X5_order_167 (by decide) ?_
        exact Tr.zret (pc := 168) d_X5_order_168 rfl (by omega) ⟨hS, _, rfl, by omega, by omega⟩
      · refine Tr.iconst (pc := 163) d_X5_order_163 (by decide) ?_
        refine Tr.goto (pc := 164) (tgt := 168) d_X5_order_164 rfl ?_
        exact Tr.zret (pc := 168) d_X5_order_168 rfl (by omega) ⟨hS, _, rfl, by omega, by omega⟩
  · refine Tr.tp 11 c9 ?_
    refine Tr.tswIn (pc := 9) (off := 160) (tgt := 169) d_X5_order_9 (by decide) (by decide) rfl rfl ?_
    refine Tr.aload_n (pc := 169) (i := 0) d_X5_order_169 rfl rfl ?_
    refine Tr.callV (pc := 170) (as := []) d_X5_order_170 s_5_177 ok_X5_test rfl rfl (Nat.le_of_ble_eq_true rfl) (Nat.le_of_ble_eq_true rfl) (by decide) (ty_6 hS.1.1) ?_
    refine Tr.imp (Tr.deep (by decide) (sp_X5_test_6_w8 hS.1 hE ((St.kp hS (by decide) (by decide) (by decide)).trans en_6_2) ((St.kp hS (by decide) (by decide) (by decide)).trans en_6_3) ((St.kp hS (by decide) (by decide) (by decide)).trans en_6_4) en_6_6)) ?_
    rintro M170 _ ⟨h170, r170, rfl, lr170, ur170⟩
    have hS := St.tr hS h170 (by decide) (by decide)
    refine Tr.sc [(0, r170)] rfl ?_
    refine Tr.if_eq (pc := 173) (tgt := 196) d_X5_order_173 rfl (fun c173 => ?_) (fun c173 => ?_)
    · refine Tr.iconst (pc := 196) d_X5_order_196 (by decide) ?_
      exact Tr.zret (pc := 197) d_X5_order_197 rfl (by omega) ⟨hS, _, rfl, by omega, by omega⟩
    · refine Tr.aload_n (pc := 176) (i := 0) d_X5_order_176 rfl rfl ?_
      refine Tr.iload_n (pc := 177) (i := 1) d_X5_order_177 rfl rfl ?_
      refine Tr.callV (pc := 178) (as := [_]) d_X5_order_178 s_5_180 ok_X5_yesBlock rfl rfl (Nat.le_of_ble_eq_true rfl) (Nat.le_of_ble_eq_true rfl) (by decide) (ty_6 hS.1.1) ?_
      refine Tr.imp (Tr.deep (by decide) (sp_X5_yesBlock_6_w8 hS.1 ((St.kp hS (by decide) (by decide) (by decide)).trans en_6_2) ((St.kp hS (by decide) (by decide) (by decide)).trans en_6_4) ((St.kp h170 (by decide) (by decide) (by decide)).trans en_6_6) a1 (by omega))) ?_
      rintro M178 _ ⟨h178, r178, rfl, lr178, ur178⟩
      have hS := St.tr hS h178 (by decide) (by decide)
      refine Tr.sc [(0, r178)] rfl ?_
      refine Tr.if_eq (pc := 181) (tgt := 196) d_X5_order_181 rfl (fun _ => ?_) (fun hc => absurd (by omega) hc)
      refine Tr.iconst (pc := 196) d_X5_order_196 (by decide) ?_
      exact Tr.zret (pc := 197) d_X5_order_197 rfl (by omega) ⟨hS, _, rfl, by omega, by omega⟩

def ws_X5_orders_6_w8 : List (Int × Int) := [(6, 0), (6, 1), (6, 5), (35, 0), (35, 11)]
def as_X5_orders_6_w8 : List Int := [36, 37, 38, 39, 40, 41, 42, 44, 45]
def q_X5_orders_6_w8 (M0 M' : Mem) (r : Option PV) : Prop := St Tru ws_X5_orders_6_w8 as_X5_orders_6_w8 M0 M' ∧ ∃ v : Int, r = some (0, v) ∧ (-2) ≤ v ∧ v ≤ 59
set_option maxRecDepth 100000 in
set_option maxHeartbeats 4000000 in
theorem sp_X5_orders_6_w8 {l : Launch} {K : EC} {M0 : Mem} {xq : Int} (hI : In Tru M0) (hE : e_all K xq) (en_6_2 : rd M0 6 2 = 2) (en_6_3 : rd M0 6 3 = 27) (en_6_4 : rd M0 6 4 = 35) (en_6_6 : rd M0 6 6 = 8) (a1 : Int) (ha1 : 0 ≤ a1 ∧ a1 ≤ 59)  : Tr l K 11 mX5_orders 0 [(0, (2, 6)), (1, (0, a1))] [] M0 (q_X5_orders_6_w8 M0) := by
  have hS : St Tru ws_X5_orders_6_w8 as_X5_orders_6_w8 M0 M0 := St.rf hI
  refine Tr.iconst (pc := 0) d_X5_orders_0 (by decide) ?_
  refine Tr.istore_n (pc := 1) (i := 2) (ls2 := [(2, (0, (-1))), (0, (2, 6)), (1, (0, a1))]) d_X5_orders_1 rfl (by decide) rfl ?_
  refine Tr.iconst (pc := 2) d_X5_orders_2 (by decide) ?_
  refine Tr.istore_n (pc := 3) (i := 3) (ls2 := [(3, (0, (-1))), (2, (0, (-1))), (0, (2, 6)), (1, (0, a1))]) d_X5_orders_3 rfl (by decide) rfl ?_
  refine Tr.iconst (pc := 4) d_X5_orders_4 (by decide) ?_
  refine Tr.istore (pc := 5) (i := 4) (ls2 := [(4, (0, 0)), (3, (0, (-1))), (2, (0, (-1))), (0, (2, 6)), (1, (0, a1))]) d_X5_orders_5 (by decide) rfl ?_
  have J7 : ∀ (n7 : Nat) (M : Mem) (p7_2 p7_3 p7_4 : Int), St Tru ws_X5_orders_6_w8 as_X5_orders_6_w8 M0 M → ((-1) ≤ p7_2 ∧ p7_2 ≤ 59) → ((-1) ≤ p7_3 ∧ p7_3 ≤ 59) → (0 ≤ p7_4 ∧ p7_4 ≤ 61) → rd M 6 6 = 8 → (61 - p7_4).toNat < n7 → Tr l K 11 mX5_orders 7 [(0, (2, 6)), (1, (0, a1)), (2, (0, p7_2)), (3, (0, p7_3)), (4, (0, p7_4))] [] M (q_X5_orders_6_w8 M0) := by
    intro n7
    induction n7 with
    | zero => intro M p7_2 p7_3 p7_4 hS bp7_2 bp7_3 bp7_4 k7_6_6 hm7; exact absurd hm7 (Nat.not_lt_zero _)
    | succ n7 J7 =>
      intro M p7_2 p7_3 p7_4 hS bp7_2 bp7_3 bp7_4 k7_6_6 hm7
      refine Tr.iload (pc := 7) (i := 4) d_X5_orders_7 rfl ?_
      refine Tr.bipush (pc := 9) d_X5_orders_9 rfl (by decide) ?_
      refine Tr.icmp_gt (pc := 11) (tgt := 111) d_X5_orders_11 rfl (fun c11 => ?_) (fun c11 => ?_)
      · refine Tr.iload_n (pc := 111) (i := 2) d_X5_orders_111 rfl rfl ?_
        exact Tr.iret (pc := 112) d_X5_orders_112 rfl ⟨hS, _, rfl, by omega, by omega⟩
      · refine Tr.aload_n (pc := 14) (i := 0) d_X5_orders_14 rfl rfl ?_
        refine Tr.callV (pc := 15) (as := []) d_X5_orders_15 s_5_154 ok_X5_isOrder rfl rfl (Nat.le_of_ble_eq_true rfl) (Nat.le_of_ble_eq_true rfl) (by decide) (ty_6 hS.1.1) ?_
        refine Tr.imp (Tr.deep (by decide) (sp_X5_isOrder_6 hS.1 ((St.kp hS (by decide) (by decide) (by decide)).trans en_6_2))) ?_
        rintro M15 _ ⟨h15, r15, rfl, lr15, ur15⟩
        have hS := St.tr hS h15 (by decide) (by decide)
        refine Tr.sc [(0, r15)] rfl ?_
        refine Tr.if_eq (pc := 18) (tgt := 111) d_X5_orders_18 rfl (fun c18 => ?_) (fun c18 => ?_)
        · refine Tr.iload_n (pc := 111) (i := 2) d_X5_orders_111 rfl rfl ?_
          exact Tr.iret (pc := 112) d_X5_orders_112 rfl ⟨hS, _, rfl, by omega, by omega⟩
        · refine Tr.aload_n (pc := 21) (i := 0) d_X5_orders_21 rfl rfl ?_
          refine Tr.getf (pc := 22) d_X5_orders_22 f_5_32 (by decide) (by decide) (ty_6 hS.1.1) ?_
          refine Tr.tp 35 ((St.kp hS (by decide) (by decide) (by decide)).trans en_6_4) ?_
          refine Tr.getf (pc := 25) d_X5_orders_25 f_5_157 (by decide) (by decide) (ty_35 hS.1.1) ?_
          refine Tr.gen (P := fun v => 0 ≤ v ∧ v ≤ 60) (ir_35_0 hS.1.2.1) (fun r25 er25 br25 => ?_)
          refine Tr.bipush (pc := 28) d_X5_orders_28 rfl (by decide) ?_
          refine Tr.icmp_lt (pc := 30) (tgt := 42) d_X5_orders_30 rfl (fun c30 => ?_) (fun c30 => ?_)
          · refine Tr.aload_n (pc := 42) (i := 0) d_X5_orders_42 rfl rfl ?_
            refine Tr.getf (pc := 43) d_X5_orders_43 f_5_32 (by decide) (by decide) (ty_6 hS.1.1) ?_
            refine Tr.tp 35 ((St.kp hS (by decide) (by decide) (by decide)).trans en_6_4) ?_
            refine Tr.aload_n (pc := 46) (i := 0) d_X5_orders_46 rfl rfl ?_
            refine Tr.getf (pc := 47) d_X5_orders_47 f_5_18 (by decide) (by decide) (ty_6 hS.1.1) ?_
            refine Tr.tp 2 ((St.kp hS (by decide) (by decide) (by decide)).trans en_6_2) ?_
            refine Tr.getf (pc := 50) d_X5_orders_50 f_5_68 (by decide) (by decide) (ty_2 hS.1.1) ?_
            refine Tr.tp 5 (fx_2_2 hS.1.1) ?_
            refine Tr.aload_n (pc := 53) (i := 0) d_X5_orders_53 rfl rfl ?_
            refine Tr.getf (pc := 54) d_X5_orders_54 f_5_36 (by decide) (by decide) (ty_6 hS.1.1) ?_
            refine Tr.gen (P := fun v => 0 ≤ v ∧ v ≤ 900) (ir_6_5 hS.1.2.1) (fun r54 er54 br54 => ?_)
            refine Tr.iald (pc := 57) d_X5_orders_57 (ty_5 hS.1.1) (by omega) (by omega) ?_
            refine Tr.gen (P := fun v => (-2147483648) ≤ v ∧ v ≤ 2147483647) (ar_5 hS.1.2.1 _) (fun r57 er57 br57 => ?_)
            refine Tr.iload_n (pc := 58) (i := 1) d_X5_orders_58 rfl rfl ?_
            refine Tr.callV (pc := 59) (as := [_, _]) d_X5_orders_59 s_5_160 ok_X4_open rfl rfl (Nat.le_of_ble_eq_true rfl) (Nat.le_of_ble_eq_true rfl) (by decide) (ty_35 hS.1.1) ?_
            refine Tr.imp (Tr.deep (by decide) (sp_X4_open_35_w1 hS.1 r57 (by omega) a1 (by omega) (by have h9 := er25; omega))) ?_
            rintro M59 _ ⟨h59, r59, rfl, lr59, ur59⟩
            have hS := St.tr hS h59 (by decide) (by decide)
            refine Tr.sc [(0, r59)] rfl ?_
            refine Tr.istore (pc := 62) (i := 5) (ls2 := [(5, (0, r59)), (0, (2, 6)), (1, (0, a1)), (2, (0, p7_2)), (3, (0, p7_3)), (4, (0, p7_4))]) d_X5_orders_62 (by decide) rfl ?_
            refine Tr.iload_n (pc := 64) (i := 3) d_X5_orders_64 rfl rfl ?_
            have J85 : ∀ (M : Mem) (p85_2 : Int), St Tru ws_X5_orders_6_w8 as_X5_orders_6_w8 M0 M → ((-1) ≤ p85_2 ∧ p85_2 ≤ 59) → rd M 5 r54 = r57 → rd M 6 5 = r54 → rd M 6 6 = 8 → Tr l K 11 mX5_orders 85 [(0, (2, 6)), (1, (0, a1)), (2, (0, p85_2)), (4, (0, p7_4)), (5, (0, r59))] [] M (q_X5_orders_6_w8 M0) := by
              intro M p85_2 hS bp85_2 k85_5_r5410 k85_6_5 k85_6_6
              refine Tr.iload (pc := 85) (i := 5) d_X5_orders_85 rfl ?_
              refine Tr.istore_n (pc := 87) (i := 3) (ls2 := [(3, (0, r59)), (0, (2, 6)), (1, (0, a1)), (2, (0, p85_2)), (4, (0, p7_4)), (5, (0, r59))]) d_X5_orders_87 rfl (by decide) rfl ?_
              refine Tr.aload_n (pc := 88) (i := 0) d_X5_orders_88 rfl rfl ?_
              refine Tr.callV (pc := 89) (as := []) d_X5_orders_89 s_5_74 ok_X5_goOn rfl rfl (Nat.le_of_ble_eq_true rfl) (Nat.le_of_ble_eq_true rfl) (by decide) (ty_6 hS.1.1) ?_
              refine Tr.imp (Tr.deep (by decide) (sp_X5_goOn_6 hS.1 )) ?_
              rintro M89 _ ⟨h89, r89, rfl, lr89, ur89⟩
              have hS := St.tr hS h89 (by decide) (by decide)
              refine Tr.sc [(0, r89)] rfl ?_
              refine Tr.pop (pc := 92) d_X5_orders_92 ne01 ?_
              refine Tr.aload_n (pc := 93) (i := 0) d_X5_orders_93 rfl rfl ?_
              refine Tr.iload (pc := 94) (i := 5) d_X5_orders_94 rfl ?_
              refine Tr.callV (pc := 96) (as := [_]) d_X5_orders_96 s_5_166 ok_X5_order rfl rfl (Nat.le_of_ble_eq_true rfl) (Nat.le_of_ble_eq_true rfl) (by decide) (ty_6 hS.1.1) ?_
              refine Tr.imp (Tr.deep (by decide) (sp_X5_order_6_w8 hS.1 hE ((St.kp hS (by decide) (by decide) (by decide)).trans en_6_2) ((St.kp hS (by decide) (by decide) (by decide)).trans en_6_3) ((St.kp hS (by decide) (by decide) (by decide)).trans en_6_4) ((St.kp h89 (by decide) (by decide) (by decide)).trans k85_6_6) r59 (by omega))) ?_
              rintro M96 _ ⟨h96, r96, rfl, lr96, ur96⟩
              have hS := St.tr hS h96 (by decide) (by decide)
              refine Tr.sc [(0, r96)] rfl ?_
              refine Tr.if_ne (pc := 99) (tgt := 105) d_X5_orders_99 rfl (fun c99 => ?_) (fun c99 => ?_)
              · refine Tr.iincV (pc := 105) (n2 := (p7_4 + 1)) (ls2 := [(4, (0, (p7_4 + 1))), (3, (0, r59)), (0, (2, 6)), (1, (0, a1)), (2, (0, p85_2)), (5, (0, r59))]) d_X5_orders_105 rfl (by decide) ((w32_id (by omega)).trans (by omega)) rfl ?_
                refine Tr.goto (pc := 108) (tgt := 7) d_X5_orders_108 rfl ?_
                refine Tr.pick [2, 3, 4, 1, 0] (ls2 := [(0, (2, 6)), (1, (0, a1)), (2, (0, p85_2)), (3, (0, r59)), (4, (0, (p7_4 + 1)))]) rfl ?_
                exact J7 _ _ _ _ hS (by omega) (by omega) (by omega) ((St.kp h96 (by decide) (by decide) (by decide)).trans ((St.kp h89 (by decide) (by decide) (by decide)).trans k85_6_6)) (by omega)
              · refine Tr.bipush (pc := 102) d_X5_orders_102 rfl (by decide) ?_
                exact Tr.iret (pc := 104) d_X5_orders_104 rfl ⟨hS, _, rfl, by omega, by omega⟩
            refine Tr.if_ge (pc := 65) (tgt := 74) d_X5_orders_65 rfl (fun c65 => ?_) (fun c65 => ?_)
            · refine Tr.aload_n (pc := 74) (i := 0) d_X5_orders_74 rfl rfl ?_
              refine Tr.getf (pc := 75) d_X5_orders_75 f_5_32 (by decide) (by decide) (ty_6 hS.1.1) ?_
              refine Tr.tp 35 ((St.kp hS (by decide) (by decide) (by decide)).trans en_6_4) ?_
              refine Tr.getf (pc := 78) d_X5_orders_78 f_5_163 (by decide) (by decide) (ty_35 hS.1.1) ?_
              refine Tr.tp 41 (fx_35_6 hS.1.1) ?_
              refine Tr.iload_n (pc := 81) (i := 3) d_X5_orders_81 rfl rfl ?_
              refine Tr.iload (pc := 82) (i := 5) d_X5_orders_82 rfl ?_
              refine Tr.iastS (pc := 84) (P := St Tru ws_X5_orders_6_w8 as_X5_orders_6_w8 M0) d_X5_orders_84 (ty_41 hS.1.1) (by omega) (by omega) (sa_41 hS (by decide) (by omega) trivial) (fun M84 hS w84 => ?_)
              refine Tr.pick [1, 2, 3, 5, 0] (ls2 := [(0, (2, 6)), (1, (0, a1)), (2, (0, p7_2)), (4, (0, p7_4)), (5, (0, r59))]) rfl ?_
              exact J85 _ _ hS (by omega) ((Wr.b w84 rfl).trans ((St.ka h59 (by decide) (by decide) (by decide)).trans er57)) ((Wr.b w84 rfl).trans ((St.kp h59 (by decide) (by decide) (by decide)).trans er54)) ((Wr.b w84 rfl).trans ((St.kp h59 (by decide) (by decide) (by decide)).trans ((St.kp h15 (by decide) (by decide) (by decide)).trans k7_6_6)))
            · refine Tr.iload (pc := 68) (i := 5) d_X5_orders_68 rfl ?_
              refine Tr.istore_n (pc := 70) (i := 2) (ls2 := [(2, (0, r59)), (5, (0, r59)), (0, (2, 6)), (1, (0, a1)), (3, (0, p7_3)), (4, (0, p7_4))]) d_X5_orders_70 rfl (by decide) rfl ?_
              refine Tr.goto (pc := 71) (tgt := 85) d_X5_orders_71 rfl ?_
              refine Tr.pick [2, 3, 0, 5, 1] (ls2 := [(0, (2, 6)), (1, (0, a1)), (2, (0, r59)), (4, (0, p7_4)), (5, (0, r59))]) rfl ?_
              exact J85 _ _ hS (by omega) ((St.ka h59 (by decide) (by decide) (by decide)).trans er57) ((St.kp h59 (by decide) (by decide) (by decide)).trans er54) ((St.kp h59 (by decide) (by decide) (by decide)).trans ((St.kp h15 (by decide) (by decide) (by decide)).trans k7_6_6))
          · refine Tr.aload_n (pc := 33) (i := 0) d_X5_orders_33 rfl rfl ?_
            refine Tr.iconst (pc := 34) d_X5_orders_34 (by decide) ?_
            refine Tr.callV (pc := 35) (as := [_]) d_X5_orders_35 s_5_56 ok_X5_refuse rfl rfl (Nat.le_of_ble_eq_true rfl) (Nat.le_of_ble_eq_true rfl) (by decide) (ty_6 hS.1.1) ?_
            refine Tr.imp (Tr.deep (by decide) (sp_X5_refuse_6_w2 hS.1 ((St.kp hS (by decide) (by decide) (by decide)).trans en_6_2) 5 (by omega))) ?_
            rintro M35 _ ⟨h35, r35, rfl, lr35, ur35⟩
            have hS := St.tr hS h35 (by decide) (by decide)
            refine Tr.sc [(0, r35)] rfl ?_
            refine Tr.pop (pc := 38) d_X5_orders_38 ne01 ?_
            refine Tr.bipush (pc := 39) d_X5_orders_39 rfl (by decide) ?_
            exact Tr.iret (pc := 41) d_X5_orders_41 rfl ⟨hS, _, rfl, by omega, by omega⟩
  refine Tr.pick [3, 4, 2, 1, 0] (ls2 := [(0, (2, 6)), (1, (0, a1)), (2, (0, (-1))), (3, (0, (-1))), (4, (0, 0))]) rfl ?_
  exact J7 _ _ _ _ _ hS (by omega) (by omega) (by omega) en_6_6 (Nat.lt_succ_self _)

def ws_X5_block_6_w7 : List (Int × Int) := [(6, 0), (6, 1), (6, 5), (6, 6), (35, 0), (35, 11)]
def as_X5_block_6_w7 : List Int := [36, 37, 38, 39, 40, 41, 42, 44, 45]
def q_X5_block_6_w7 (M0 M' : Mem) (r : Option PV) : Prop := St Tru ws_X5_block_6_w7 as_X5_block_6_w7 M0 M' ∧ ∃ v : Int, r = some (0, v) ∧ (-2) ≤ v ∧ v ≤ 59 ∧ (((-1) ≤ v ∧ v ≤ 1000000) → rd M' 6 6 = 7)
set_option maxRecDepth 100000 in
set_option maxHeartbeats 4000000 in
theorem sp_X5_block_6_w7 {l : Launch} {K : EC} {M0 : Mem} {xq : Int} (hI : In Tru M0) (hE : e_all K xq) (en_6_2 : rd M0 6 2 = 2) (en_6_3 : rd M0 6 3 = 27) (en_6_4 : rd M0 6 4 = 35) (en_6_6 : rd M0 6 6 = 7) (a1 : Int) (ha1 : 0 ≤ a1 ∧ a1 ≤ 59)  : Tr l K 12 mX5_block 0 [(0, (2, 6)), (1, (0, a1))] [] M0 (q_X5_block_6_w7 M0) := by
  have hS : St Tru ws_X5_block_6_w7 as_X5_block_6_w7 M0 M0 := St.rf hI
  refine Tr.aload_n (pc := 0) (i := 0) d_X5_block_0 rfl rfl ?_
  refine Tr.bipush (pc := 1) d_X5_block_1 rfl (by decide) ?_
  refine Tr.callV (pc := 3) (as := [_]) d_X5_block_3 s_5_206 ok_X5_takeOpening rfl rfl (Nat.le_of_ble_eq_true rfl) (Nat.le_of_ble_eq_true rfl) (by decide) (ty_6 hS.1.1) ?_
  refine Tr.imp (Tr.deep (by decide) (sp_X5_takeOpening_6_w25 hS.1 ((St.kp hS (by decide) (by decide) (by decide)).trans en_6_2) en_6_6 123 (by omega))) ?_
  rintro M3 _ ⟨h3, r3, rfl, lr3, ur3, x3_6_6⟩
  have hS := St.tr hS h3 (by decide) (by decide)
  refine Tr.sc [(0, r3)] rfl ?_
  refine Tr.if_ne (pc := 6) (tgt := 12) d_X5_block_6 rfl (fun c6 => ?_) (fun c6 => ?_)
  · refine Tr.aload_n (pc := 12) (i := 0) d_X5_block_12 rfl rfl ?_
    refine Tr.iload_n (pc := 13) (i := 1) d_X5_block_13 rfl rfl ?_
    refine Tr.callV (pc := 14) (as := [_]) d_X5_block_14 s_5_46 ok_X5_orders rfl rfl (Nat.le_of_ble_eq_true rfl) (Nat.le_of_ble_eq_true rfl) (by decide) (ty_6 hS.1.1) ?_
    refine Tr.imp (Tr.deep (by decide) (sp_X5_orders_6_w8 hS.1 hE ((St.kp hS (by decide) (by decide) (by decide)).trans en_6_2) ((St.kp hS (by decide) (by decide) (by decide)).trans en_6_3) ((St.kp hS (by decide) (by decide) (by decide)).trans en_6_4) (x3_6_6 (by omega)) a1 (by omega))) ?_
    rintro M14 _ ⟨h14, r14, rfl, lr14, ur14⟩
    have hS := St.tr hS h14 (by decide) (by decide)
    refine Tr.sc [(0, r14)] rfl ?_
    refine Tr.istore_n (pc := 17) (i := 2) (ls2 := [(2, (0, r14)), (0, (2, 6)), (1, (0, a1))]) d_X5_block_17 rfl (by decide) rfl ?_
    refine Tr.iload_n (pc := 18) (i := 2) d_X5_block_18 rfl rfl ?_
    refine Tr.bipush (pc := 19) d_X5_block_19 rfl (by decide) ?_
    refine Tr.icmp_eq (pc := 21) (tgt := 33) d_X5_block_21 rfl (fun c21 => ?_) (fun c21 => ?_)
    · refine Tr.bipush (pc := 33) d_X5_block_33 rfl (by decide) ?_
      exact Tr.iret (pc := 35) d_X5_block_35 rfl ⟨hS, _, rfl, by omega, by omega, fun hq => absurd hq (by omega)⟩
    · refine Tr.aload_n (pc := 24) (i := 0) d_X5_block_24 rfl rfl ?_
      refine Tr.bipush (pc := 25) d_X5_block_25 rfl (by decide) ?_
      refine Tr.callV (pc := 27) (as := [_]) d_X5_block_27 s_5_209 ok_X5_takeClosing rfl rfl (Nat.le_of_ble_eq_true rfl) (Nat.le_of_ble_eq_true rfl) (by decide) (ty_6 hS.1.1) ?_
      refine Tr.imp (Tr.deep (by decide) (sp_X5_takeClosing_6_w16 hS.1 ((St.kp hS (by decide) (by decide) (by decide)).trans en_6_2) ((St.kp h14 (by decide) (by decide) (by decide)).trans (x3_6_6 (by omega))) 125 (by omega))) ?_
      rintro M27 _ ⟨h27, r27, rfl, lr27, ur27, x27_6_6⟩
      have hS := St.tr hS h27 (by decide) (by decide)
      refine Tr.sc [(0, r27)] rfl ?_
      refine Tr.if_ne (pc := 30) (tgt := 36) d_X5_block_30 rfl (fun c30 => ?_) (fun c30 => ?_)
      · refine Tr.iload_n (pc := 36) (i := 2) d_X5_block_36 rfl rfl ?_
        exact Tr.iret (pc := 37) d_X5_block_37 rfl ⟨hS, _, rfl, by omega, by omega, fun _ => (x27_6_6 (by omega))⟩
      · refine Tr.bipush (pc := 33) d_X5_block_33 rfl (by decide) ?_
        exact Tr.iret (pc := 35) d_X5_block_35 rfl ⟨hS, _, rfl, by omega, by omega, fun hq => absurd hq (by omega)⟩
  · refine Tr.bipush (pc := 9) d_X5_block_9 rfl (by decide) ?_
    exact Tr.iret (pc := 11) d_X5_block_11 rfl ⟨hS, _, rfl, by omega, by omega, fun hq => absurd hq (by omega)⟩

def ws_X5_yesBlock_6_w7 : List (Int × Int) := [(6, 0), (6, 1), (6, 5), (6, 6), (35, 0), (35, 11)]
def as_X5_yesBlock_6_w7 : List Int := [36, 37, 38, 39, 40, 41, 42, 44, 45]
def q_X5_yesBlock_6_w7 (M0 M' : Mem) (r : Option PV) : Prop := St Tru ws_X5_yesBlock_6_w7 as_X5_yesBlock_6_w7 M0 M' ∧ ∃ v : Int, r = some (0, v) ∧ 0 ≤ v ∧ v ≤ 1 ∧ ((1 ≤ v ∧ v ≤ 1) → rd M' 6 6 = 7)
set_option maxRecDepth 100000 in
set_option maxHeartbeats 4000000 in
theorem sp_X5_yesBlock_6_w7 {l : Launch} {K : EC} {M0 : Mem} {xq : Int} (hI : In Tru M0) (hE : e_all K xq) (en_6_2 : rd M0 6 2 = 2) (en_6_3 : rd M0 6 3 = 27) (en_6_4 : rd M0 6 4 = 35) (en_6_6 : rd M0 6 6 = 7) (a1 : Int) (ha1 : 0 ≤ a1 ∧ a1 ≤ 59)  : Tr l K 13 mX5_yesBlock 0 [(0, (2, 6)), (1, (0, a1))] [] M0 (q_X5_yesBlock_6_w7 M0) := by
  have hS : St Tru ws_X5_yesBlock_6_w7 as_X5_yesBlock_6_w7 M0 M0 := St.rf hI
  refine Tr.aload_n (pc := 0) (i := 0) d_X5_yesBlock_0 rfl rfl ?_
  refine Tr.iload_n (pc := 1) (i := 1) d_X5_yesBlock_1 rfl rfl ?_
  refine Tr.callV (pc := 2) (as := [_]) d_X5_yesBlock_2 s_5_197 ok_X5_block rfl rfl (Nat.le_of_ble_eq_true rfl) (Nat.le_of_ble_eq_true rfl) (by decide) (ty_6 hS.1.1) ?_
  refine Tr.imp (Tr.deep (by decide) (sp_X5_block_6_w7 hS.1 hE ((St.kp hS (by decide) (by decide) (by decide)).trans en_6_2) ((St.kp hS (by decide) (by decide) (by decide)).trans en_6_3) ((St.kp hS (by decide) (by decide) (by decide)).trans en_6_4) en_6_6 a1 (by omega))) ?_
  rintro M2 _ ⟨h2, r2, rfl, lr2, ur2, x2_6_6⟩
  have hS := St.tr hS h2 (by decide) (by decide)
  refine Tr.sc [(0, r2)] rfl ?_
  refine Tr.istore_n (pc := 5) (i := 2) (ls2 := [(2, (0, r2)), (0, (2, 6)), (1, (0, a1))]) d_X5_yesBlock_5 rfl (by decide) rfl ?_
  refine Tr.aload_n (pc := 6) (i := 0) d_X5_yesBlock_6 rfl rfl ?_
  refine Tr.getf (pc := 7) d_X5_yesBlock_7 f_5_32 (by decide) (by decide) (ty_6 hS.1.1) ?_
  refine Tr.tp 35 ((St.kp hS (by decide) (by decide) (by decide)).trans en_6_4) ?_
  refine Tr.getf (pc := 10) d_X5_yesBlock_10 f_5_200 (by decide) (by decide) (ty_35 hS.1.1) ?_
  refine Tr.tp 39 (fx_35_4 hS.1.1) ?_
  refine Tr.iload_n (pc := 13) (i := 1) d_X5_yesBlock_13 rfl rfl ?_
  refine Tr.iload_n (pc := 14) (i := 2) d_X5_yesBlock_14 rfl rfl ?_
  refine Tr.iastS (pc := 15) (P := St Tru ws_X5_yesBlock_6_w7 as_X5_yesBlock_6_w7 M0) d_X5_yesBlock_15 (ty_39 hS.1.1) (by omega) (by omega) (sa_39 hS (by decide) (by omega) trivial) (fun M15 hS w15 => ?_)
  refine Tr.iload_n (pc := 16) (i := 2) d_X5_yesBlock_16 rfl rfl ?_
  refine Tr.bipush (pc := 17) d_X5_yesBlock_17 rfl (by decide) ?_
  refine Tr.icmp_eq (pc := 19) (tgt := 26) d_X5_yesBlock_19 rfl (fun c19 => ?_) (fun c19 => ?_)
  · refine Tr.iconst (pc := 26) d_X5_yesBlock_26 (by decide) ?_
    exact Tr.zret (pc := 27) d_X5_yesBlock_27 rfl (by omega) ⟨hS, _, rfl, by omega, by omega, fun hq => absurd hq (by omega)⟩
  · refine Tr.iconst (pc := 22) d_X5_yesBlock_22 (by decide) ?_
    refine Tr.goto (pc := 23) (tgt := 27) d_X5_yesBlock_23 rfl ?_
    exact Tr.zret (pc := 27) d_X5_yesBlock_27 rfl (by omega) ⟨hS, _, rfl, by omega, by omega, fun _ => ((Wr.b w15 rfl).trans (x2_6_6 (by omega)))⟩
end
/-! 34.14 -/
section
def ws_X5_noBlock_6 : List (Int × Int) := [(6, 0), (6, 1), (6, 5), (6, 6), (35, 0), (35, 11)]
def as_X5_noBlock_6 : List Int := [36, 37, 38, 39, 40, 41, 42, 44, 45]
def q_X5_noBlock_6 (M0 M' : Mem) (r : Option PV) : Prop := St Tru ws_X5_noBlock_6 as_X5_noBlock_6 M0 M' ∧ ∃ v : Int, r = some (0, v) ∧ 0 ≤ v ∧ v ≤ 1 ∧ ((1 ≤ v ∧ v ≤ 1) → rd M' 6 6 = 7)
set_option maxRecDepth 100000 in
set_option maxHeartbeats 4000000 in
theorem sp_X5_noBlock_6 {l : Launch} {K : EC} {M0 : Mem} {xq : Int} (hI : In Tru M0) (hE : e_all K xq) (en_6_2 : rd M0 6 2 = 2) (en_6_3 : rd M0 6 3 = 27) (en_6_4 : rd M0 6 4 = 35) (en_6_6 : rd M0 6 6 = 7) (a1 : Int) (ha1 : 0 ≤ a1 ∧ a1 ≤ 59)  : Tr l K 13 mX5_noBlock 0 [(0, (2, 6)), (1, (0, a1))] [] M0 (q_X5_noBlock_6 M0) := by
  have hS : St Tru ws_X5_noBlock_6 as_X5_noBlock_6 M0 M0 := St.rf hI
  refine Tr.aload_n (pc := 0) (i := 0) d_X5_noBlock_0 rfl rfl ?_
  refine Tr.bipush (pc := 1) d_X5_noBlock_1 rfl (by decide) ?_
  refine Tr.callV (pc := 3) (as := [_]) d_X5_noBlock_3 s_5_71 ok_X5_isOwn rfl rfl (Nat.le_of_ble_eq_true rfl) (Nat.le_of_ble_eq_true rfl) (by decide) (ty_6 hS.1.1) ?_
  refine Tr.imp (Tr.deep (by decide) (sp_X5_isOwn_6 hS.1 ((St.kp hS (by decide) (by decide) (by decide)).trans en_6_2) 13 (by omega))) ?_
  rintro M3 _ ⟨h3, r3, rfl, lr3, ur3⟩
  have hS := St.tr hS h3 (by decide) (by decide)
  refine Tr.sc [(0, r3)] rfl ?_
  refine Tr.if_ne (pc := 6) (tgt := 11) d_X5_noBlock_6 rfl (fun c6 => ?_) (fun c6 => ?_)
  · refine Tr.aload_n (pc := 11) (i := 0) d_X5_noBlock_11 rfl rfl ?_
    refine Tr.callV (pc := 12) (as := []) d_X5_noBlock_12 s_5_74 ok_X5_goOn rfl rfl (Nat.le_of_ble_eq_true rfl) (Nat.le_of_ble_eq_true rfl) (by decide) (ty_6 hS.1.1) ?_
    refine Tr.imp (Tr.deep (by decide) (sp_X5_goOn_6 hS.1 )) ?_
    rintro M12 _ ⟨h12, r12, rfl, lr12, ur12⟩
    have hS := St.tr hS h12 (by decide) (by decide)
    refine Tr.sc [(0, r12)] rfl ?_
    refine Tr.pop (pc := 15) d_X5_noBlock_15 ne01 ?_
    refine Tr.aload_n (pc := 16) (i := 0) d_X5_noBlock_16 rfl rfl ?_
    refine Tr.iload_n (pc := 17) (i := 1) d_X5_noBlock_17 rfl rfl ?_
    refine Tr.callV (pc := 18) (as := [_]) d_X5_noBlock_18 s_5_197 ok_X5_block rfl rfl (Nat.le_of_ble_eq_true rfl) (Nat.le_of_ble_eq_true rfl) (by decide) (ty_6 hS.1.1) ?_
    refine Tr.imp (Tr.deep (by decide) (sp_X5_block_6_w7 hS.1 hE ((St.kp hS (by decide) (by decide) (by decide)).trans en_6_2) ((St.kp hS (by decide) (by decide) (by decide)).trans en_6_3) ((St.kp hS (by decide) (by decide) (by decide)).trans en_6_4) ((St.kp h12 (by decide) (by decide) (by decide)).trans ((St.kp h3 (by decide) (by decide) (by decide)).trans en_6_6)) a1 (by omega))) ?_
    rintro M18 _ ⟨h18, r18, rfl, lr18, ur18, x18_6_6⟩
    have hS := St.tr hS h18 (by decide) (by decide)
    refine Tr.sc [(0, r18)] rfl ?_
    refine Tr.istore_n (pc := 21) (i := 2) (ls2 := [(2, (0, r18)), (0, (2, 6)), (1, (0, a1))]) d_X5_noBlock_21 rfl (by decide) rfl ?_
    refine Tr.aload_n (pc := 22) (i := 0) d_X5_noBlock_22 rfl rfl ?_
    refine Tr.getf (pc := 23) d_X5_noBlock_23 f_5_32 (by decide) (by decide) (ty_6 hS.1.1) ?_
    refine Tr.tp 35 ((St.kp hS (by decide) (by decide) (by decide)).trans en_6_4) ?_
    refine Tr.getf (pc := 26) d_X5_noBlock_26 f_5_203 (by decide) (by decide) (ty_35 hS.1.1) ?_
    refine Tr.tp 40 (fx_35_5 hS.1.1) ?_
    refine Tr.iload_n (pc := 29) (i := 1) d_X5_noBlock_29 rfl rfl ?_
    refine Tr.iload_n (pc := 30) (i := 2) d_X5_noBlock_30 rfl rfl ?_
    refine Tr.iastS (pc := 31) (P := St Tru ws_X5_noBlock_6 as_X5_noBlock_6 M0) d_X5_noBlock_31 (ty_40 hS.1.1) (by omega) (by omega) (sa_40 hS (by decide) (by omega) trivial) (fun M31 hS w31 => ?_)
    refine Tr.iload_n (pc := 32) (i := 2) d_X5_noBlock_32 rfl rfl ?_
    refine Tr.bipush (pc := 33) d_X5_noBlock_33 rfl (by decide) ?_
    refine Tr.icmp_eq (pc := 35) (tgt := 42) d_X5_noBlock_35 rfl (fun c35 => ?_) (fun c35 => ?_)
    · refine Tr.iconst (pc := 42) d_X5_noBlock_42 (by decide) ?_
      exact Tr.zret (pc := 43) d_X5_noBlock_43 rfl (by omega) ⟨hS, _, rfl, by omega, by omega, fun hq => absurd hq (by omega)⟩
    · refine Tr.iconst (pc := 38) d_X5_noBlock_38 (by decide) ?_
      refine Tr.goto (pc := 39) (tgt := 43) d_X5_noBlock_39 rfl ?_
      exact Tr.zret (pc := 43) d_X5_noBlock_43 rfl (by omega) ⟨hS, _, rfl, by omega, by omega, fun _ => ((Wr.b w31 rfl).trans (x18_6_6 (by omega)))⟩
  · refine Tr.iconst (pc := 9) d_X5_noBlock_9 (by decide) ?_
    exact Tr.zret (pc := 10) d_X5_noBlock_10 rfl (by omega) ⟨hS, _, rfl, by omega, by omega, fun _ => ((St.kp h3 (by decide) (by decide) (by decide)).trans en_6_6)⟩

def ws_X5_order_6_w7 : List (Int × Int) := [(6, 0), (6, 1), (6, 5), (6, 6), (35, 0), (35, 11)]
def as_X5_order_6_w7 : List Int := [36, 37, 38, 39, 40, 41, 42, 44, 45]
def q_X5_order_6_w7 (M0 M' : Mem) (r : Option PV) : Prop := St Tru ws_X5_order_6_w7 as_X5_order_6_w7 M0 M' ∧ ∃ v : Int, r = some (0, v) ∧ 0 ≤ v ∧ v ≤ 1 ∧ ((1 ≤ v ∧ v ≤ 1) → rd M' 6 6 = 7)
set_option maxRecDepth 100000 in
set_option maxHeartbeats 4000000 in
theorem sp_X5_order_6_w7 {l : Launch} {K : EC} {M0 : Mem} {xq : Int} (hI : In Tru M0) (hE : e_all K xq) (en_6_2 : rd M0 6 2 = 2) (en_6_3 : rd M0 6 3 = 27) (en_6_4 : rd M0 6 4 = 35) (en_6_6 : rd M0 6 6 = 7) (a1 : Int) (ha1 : 0 ≤ a1 ∧ a1 ≤ 59)  : Tr l K 14 mX5_order 0 [(0, (2, 6)), (1, (0, a1))] [] M0 (q_X5_order_6_w7 M0) := by
  have hS : St Tru ws_X5_order_6_w7 as_X5_order_6_w7 M0 M0 := St.rf hI
  refine Tr.aload_n (pc := 0) (i := 0) d_X5_order_0 rfl rfl ?_
  refine Tr.getf (pc := 1) d_X5_order_1 f_5_32 (by decide) (by decide) (ty_6 hS.1.1) ?_
  refine Tr.tp 35 ((St.kp hS (by decide) (by decide) (by decide)).trans en_6_4) ?_
  refine Tr.getf (pc := 4) d_X5_order_4 f_5_169 (by decide) (by decide) (ty_35 hS.1.1) ?_
  refine Tr.tp 36 (fx_35_1 hS.1.1) ?_
  refine Tr.iload_n (pc := 7) (i := 1) d_X5_order_7 rfl rfl ?_
  refine Tr.iald (pc := 8) d_X5_order_8 (ty_36 hS.1.1) (by omega) (by omega) ?_
  refine Tr.gen (P := fun v => (-2147483648) ≤ v ∧ v ≤ 2147483647) (ar_36 hS.1.2.1 _) (fun r8 er8 br8 => ?_)
  rcases (show (r8 < 5 ∨ 11 < r8) ∨ r8 = 5 ∨ r8 = 6 ∨ r8 = 7 ∨ r8 = 8 ∨ r8 = 9 ∨ r8 = 10 ∨ r8 = 11 by omega) with c9 | c9 | c9 | c9 | c9 | c9 | c9 | c9
  · refine Tr.tswOut (pc := 9) (tgt := 198) d_X5_order_9 c9 rfl ?_
    refine Tr.aload_n (pc := 198) (i := 0) d_X5_order_198 rfl rfl ?_
    refine Tr.callV (pc := 199) (as := []) d_X5_order_199 s_5_177 ok_X5_test rfl rfl (Nat.le_of_ble_eq_true rfl) (Nat.le_of_ble_eq_true rfl) (by decide) (ty_6 hS.1.1) ?_
    refine Tr.imp (Tr.deep (by decide) (sp_X5_test_6_w7 hS.1 hE ((St.kp hS (by decide) (by decide) (by decide)).trans en_6_2) ((St.kp hS (by decide) (by decide) (by decide)).trans en_6_3) ((St.kp hS (by decide) (by decide) (by decide)).trans en_6_4) en_6_6)) ?_
    rintro M199 _ ⟨h199, r199, rfl, lr199, ur199, x199_6_6⟩
    have hS := St.tr hS h199 (by decide) (by decide)
    refine Tr.sc [(0, r199)] rfl ?_
    refine Tr.if_eq (pc := 202) (tgt := 217) d_X5_order_202 rfl (fun c202 => ?_) (fun c202 => ?_)
    · refine Tr.iconst (pc := 217) d_X5_order_217 (by decide) ?_
      exact Tr.zret (pc := 218) d_X5_order_218 rfl (by omega) ⟨hS, _, rfl, by omega, by omega, fun hq => absurd hq (by omega)⟩
    · refine Tr.aload_n (pc := 205) (i := 0) d_X5_order_205 rfl rfl ?_
      refine Tr.iload_n (pc := 206) (i := 1) d_X5_order_206 rfl rfl ?_
      refine Tr.callV (pc := 207) (as := [_]) d_X5_order_207 s_5_180 ok_X5_yesBlock rfl rfl (Nat.le_of_ble_eq_true rfl) (Nat.le_of_ble_eq_true rfl) (by decide) (ty_6 hS.1.1) ?_
      refine Tr.imp (Tr.deep (by decide) (sp_X5_yesBlock_6_w7 hS.1 hE ((St.kp hS (by decide) (by decide) (by decide)).trans en_6_2) ((St.kp hS (by decide) (by decide) (by decide)).trans en_6_3) ((St.kp hS (by decide) (by decide) (by decide)).trans en_6_4) (x199_6_6 (by omega)) a1 (by omega))) ?_
      rintro M207 _ ⟨h207, r207, rfl, lr207, ur207, x207_6_6⟩
      have hS := St.tr hS h207 (by decide) (by decide)
      refine Tr.sc [(0, r207)] rfl ?_
      refine Tr.if_eq (pc := 210) (tgt := 217) d_X5_order_210 rfl (fun c210 => ?_) (fun c210 => ?_)
      · refine Tr.iconst (pc := 217) d_X5_order_217 (by decide) ?_
        exact Tr.zret (pc := 218) d_X5_order_218 rfl (by omega) ⟨hS, _, rfl, by omega, by omega, fun hq => absurd hq (by omega)⟩
      · refine Tr.iconst (pc := 213) d_X5_order_213 (by decide) ?_
        refine Tr.goto (pc := 214) (tgt := 218) d_X5_order_214 rfl ?_
        exact Tr.zret (pc := 218) d_X5_order_218 rfl (by omega) ⟨hS, _, rfl, by omega, by omega, fun _ => (x207_6_6 (by omega))⟩
  · refine Tr.tp 5 c9 ?_
    refine Tr.tswIn (pc := 9) (off := 43) (tgt := 52) d_X5_order_9 (by decide) (by decide) rfl rfl ?_
    refine Tr.aload_n (pc := 52) (i := 0) d_X5_order_52 rfl rfl ?_
    refine Tr.iload_n (pc := 53) (i := 1) d_X5_order_53 rfl rfl ?_
    refine Tr.iconst (pc := 54) d_X5_order_54 (by decide) ?_
    refine Tr.callV (pc := 55) (as := [_, _]) d_X5_order_55 s_5_170 ok_X5_about rfl rfl (Nat.le_of_ble_eq_true rfl) (Nat.le_of_ble_eq_true rfl) (by decide) (ty_6 hS.1.1) ?_
    refine Tr.imp (Tr.deep (by decide) (sp_X5_about_6_v2 hS.1 hE ((St.kp hS (by decide) (by decide) (by decide)).trans en_6_2) ((St.kp hS (by decide) (by decide) (by decide)).trans en_6_3) ((St.kp hS (by decide) (by decide) (by decide)).trans en_6_4) a1 (by omega))) ?_
    rintro M55 _ ⟨h55, r55, rfl, lr55, ur55⟩
    have hS := St.tr hS h55 (by decide) (by decide)
    refine Tr.sc [(0, r55)] rfl ?_
    refine Tr.if_eq (pc := 58) (tgt := 90) d_X5_order_58 rfl (fun c58 => ?_) (fun c58 => ?_)
    · refine Tr.iconst (pc := 90) d_X5_order_90 (by decide) ?_
      exact Tr.zret (pc := 91) d_X5_order_91 rfl (by omega) ⟨hS, _, rfl, by omega, by omega, fun hq => absurd hq (by omega)⟩
    · refine Tr.aload_n (pc := 61) (i := 0) d_X5_order_61 rfl rfl ?_
      refine Tr.bipush (pc := 62) d_X5_order_62 rfl (by decide) ?_
      refine Tr.callV (pc := 64) (as := [_]) d_X5_order_64 s_5_81 ok_X5_takeSign rfl rfl (Nat.le_of_ble_eq_true rfl) (Nat.le_of_ble_eq_true rfl) (by decide) (ty_6 hS.1.1) ?_
      refine Tr.imp (Tr.deep (by decide) (sp_X5_takeSign_6_w3 hS.1 ((St.kp hS (by decide) (by decide) (by decide)).trans en_6_2) 61 (by omega))) ?_
      rintro M64 _ ⟨h64, r64, rfl, lr64, ur64⟩
      have hS := St.tr hS h64 (by decide) (by decide)
      refine Tr.sc [(0, r64)] rfl ?_
      refine Tr.if_eq (pc := 67) (tgt := 90) d_X5_order_67 rfl (fun c67 => ?_) (fun c67 => ?_)
      · refine Tr.iconst (pc := 90) d_X5_order_90 (by decide) ?_
        exact Tr.zret (pc := 91) d_X5_order_91 rfl (by omega) ⟨hS, _, rfl, by omega, by omega, fun hq => absurd hq (by omega)⟩
      · refine Tr.aload_n (pc := 70) (i := 0) d_X5_order_70 rfl rfl ?_
        refine Tr.callV (pc := 71) (as := []) d_X5_order_71 s_5_174 ok_X5_sum rfl rfl (Nat.le_of_ble_eq_true rfl) (Nat.le_of_ble_eq_true rfl) (by decide) (ty_6 hS.1.1) ?_
        refine Tr.imp (Tr.deep (by decide) (sp_X5_sum_6_w7 hS.1 hE ((St.kp hS (by decide) (by decide) (by decide)).trans en_6_2) ((St.kp hS (by decide) (by decide) (by decide)).trans en_6_3) ((St.kp hS (by decide) (by decide) (by decide)).trans en_6_4) ((St.kp h64 (by decide) (by decide) (by decide)).trans ((St.kp h55 (by decide) (by decide) (by decide)).trans en_6_6)))) ?_
        rintro M71 _ ⟨h71, r71, rfl, lr71, ur71, x71_6_6⟩
        have hS := St.tr hS h71 (by decide) (by decide)
        refine Tr.sc [(0, r71)] rfl ?_
        refine Tr.if_eq (pc := 74) (tgt := 90) d_X5_order_74 rfl (fun c74 => ?_) (fun c74 => ?_)
        · refine Tr.iconst (pc := 90) d_X5_order_90 (by decide) ?_
          exact Tr.zret (pc := 91) d_X5_order_91 rfl (by omega) ⟨hS, _, rfl, by omega, by omega, fun hq => absurd hq (by omega)⟩
        · refine Tr.aload_n (pc := 77) (i := 0) d_X5_order_77 rfl rfl ?_
          refine Tr.bipush (pc := 78) d_X5_order_78 rfl (by decide) ?_
          refine Tr.callV (pc := 80) (as := [_]) d_X5_order_80 s_5_81 ok_X5_takeSign rfl rfl (Nat.le_of_ble_eq_true rfl) (Nat.le_of_ble_eq_true rfl) (by decide) (ty_6 hS.1.1) ?_
          refine Tr.imp (Tr.deep (by decide) (sp_X5_takeSign_6 hS.1 ((St.kp hS (by decide) (by decide) (by decide)).trans en_6_2) 59 (by omega))) ?_
          rintro M80 _ ⟨h80, r80, rfl, lr80, ur80⟩
          have hS := St.tr hS h80 (by decide) (by decide)
          refine Tr.sc [(0, r80)] rfl ?_
          refine Tr.if_eq (pc := 83) (tgt := 90) d_X5_order_83 rfl (fun c83 => ?_) (fun c83 => ?_)
          · refine Tr.iconst (pc := 90) d_X5_order_90 (by decide) ?_
            exact Tr.zret (pc := 91) d_X5_order_91 rfl (by omega) ⟨hS, _, rfl, by omega, by omega, fun hq => absurd hq (by omega)⟩
          · refine Tr.iconst (pc := 86) d_X5_order_86 (by decide) ?_
            refine Tr.goto (pc := 87) (tgt := 91) d_X5_order_87 rfl ?_
            exact Tr.zret (pc := 91) d_X5_order_91 rfl (by omega) ⟨hS, _, rfl, by omega, by omega, fun _ => ((St.kp h80 (by decide) (by decide) (by decide)).trans (x71_6_6 (by omega)))⟩
  · refine Tr.tp 6 c9 ?_
    refine Tr.tswIn (pc := 9) (off := 83) (tgt := 92) d_X5_order_9 (by decide) (by decide) rfl rfl ?_
    refine Tr.aload_n (pc := 92) (i := 0) d_X5_order_92 rfl rfl ?_
    refine Tr.iload_n (pc := 93) (i := 1) d_X5_order_93 rfl rfl ?_
    refine Tr.iconst (pc := 94) d_X5_order_94 (by decide) ?_
    refine Tr.callV (pc := 95) (as := [_, _]) d_X5_order_95 s_5_170 ok_X5_about rfl rfl (Nat.le_of_ble_eq_true rfl) (Nat.le_of_ble_eq_true rfl) (by decide) (ty_6 hS.1.1) ?_
    refine Tr.imp (Tr.deep (by decide) (sp_X5_about_6_v0 hS.1 hE ((St.kp hS (by decide) (by decide) (by decide)).trans en_6_2) ((St.kp hS (by decide) (by decide) (by decide)).trans en_6_3) ((St.kp hS (by decide) (by decide) (by decide)).trans en_6_4) a1 (by omega))) ?_
    rintro M95 _ ⟨h95, r95, rfl, lr95, ur95⟩
    have hS := St.tr hS h95 (by decide) (by decide)
    refine Tr.sc [(0, r95)] rfl ?_
    refine Tr.if_eq (pc := 98) (tgt := 121) d_X5_order_98 rfl (fun c98 => ?_) (fun c98 => ?_)
    · refine Tr.iconst (pc := 121) d_X5_order_121 (by decide) ?_
      exact Tr.zret (pc := 122) d_X5_order_122 rfl (by omega) ⟨hS, _, rfl, by omega, by omega, fun hq => absurd hq (by omega)⟩
    · refine Tr.aload_n (pc := 101) (i := 0) d_X5_order_101 rfl rfl ?_
      refine Tr.callV (pc := 102) (as := []) d_X5_order_102 s_5_174 ok_X5_sum rfl rfl (Nat.le_of_ble_eq_true rfl) (Nat.le_of_ble_eq_true rfl) (by decide) (ty_6 hS.1.1) ?_
      refine Tr.imp (Tr.deep (by decide) (sp_X5_sum_6_w7 hS.1 hE ((St.kp hS (by decide) (by decide) (by decide)).trans en_6_2) ((St.kp hS (by decide) (by decide) (by decide)).trans en_6_3) ((St.kp hS (by decide) (by decide) (by decide)).trans en_6_4) ((St.kp h95 (by decide) (by decide) (by decide)).trans en_6_6))) ?_
      rintro M102 _ ⟨h102, r102, rfl, lr102, ur102, x102_6_6⟩
      have hS := St.tr hS h102 (by decide) (by decide)
      refine Tr.sc [(0, r102)] rfl ?_
      refine Tr.if_eq (pc := 105) (tgt := 121) d_X5_order_105 rfl (fun c105 => ?_) (fun c105 => ?_)
      · refine Tr.iconst (pc := 121) d_X5_order_121 (by decide) ?_
        exact Tr.zret (pc := 122) d_X5_order_122 rfl (by omega) ⟨hS, _, rfl, by omega, by omega, fun hq => absurd hq (by omega)⟩
      · refine Tr.aload_n (pc := 108) (i := 0) d_X5_order_108 rfl rfl ?_
        refine Tr.bipush (pc := 109) d_X5_order_109 rfl (by decide) ?_
        refine Tr.callV (pc := 111) (as := [_]) d_X5_order_111 s_5_81 ok_X5_takeSign rfl rfl (Nat.le_of_ble_eq_true rfl) (Nat.le_of_ble_eq_true rfl) (by decide) (ty_6 hS.1.1) ?_
        refine Tr.imp (Tr.deep (by decide) (sp_X5_takeSign_6 hS.1 ((St.kp hS (by decide) (by decide) (by decide)).trans en_6_2) 59 (by omega))) ?_
        rintro M111 _ ⟨h111, r111, rfl, lr111, ur111⟩
        have hS := St.tr hS h111 (by decide) (by decide)
        refine Tr.sc [(0, r111)] rfl ?_
        refine Tr.if_eq (pc := 114) (tgt := 121) d_X5_order_114 rfl (fun c114 => ?_) (fun c114 => ?_)
        · refine Tr.iconst (pc := 121) d_X5_order_121 (by decide) ?_
          exact Tr.zret (pc := 122) d_X5_order_122 rfl (by omega) ⟨hS, _, rfl, by omega, by omega, fun hq => absurd hq (by omega)⟩
        · refine Tr.iconst (pc := 117) d_X5_order_117 (by decide) ?_
          refine Tr.goto (pc := 118) (tgt := 122) d_X5_order_118 rfl ?_
          exact Tr.zret (pc := 122) d_X5_order_122 rfl (by omega) ⟨hS, _, rfl, by omega, by omega, fun _ => ((St.kp h111 (by decide) (by decide) (by decide)).trans (x102_6_6 (by omega)))⟩
  · refine Tr.tp 7 c9 ?_
    refine Tr.tswIn (pc := 9) (off := 114) (tgt := 123) d_X5_order_9 (by decide) (by decide) rfl rfl ?_
    refine Tr.aload_n (pc := 123) (i := 0) d_X5_order_123 rfl rfl ?_
    refine Tr.iload_n (pc := 124) (i := 1) d_X5_order_124 rfl rfl ?_
    refine Tr.iconst (pc := 125) d_X5_order_125 (by decide) ?_
    refine Tr.callV (pc := 126) (as := [_, _]) d_X5_order_126 s_5_170 ok_X5_about rfl rfl (Nat.le_of_ble_eq_true rfl) (Nat.le_of_ble_eq_true rfl) (by decide) (ty_6 hS.1.1) ?_
    refine Tr.imp (Tr.deep (by decide) (sp_X5_about_6_v0 hS.1 hE ((St.kp hS (by decide) (by decide) (by decide)).trans en_6_2) ((St.kp hS (by decide) (by decide) (by decide)).trans en_6_3) ((St.kp hS (by decide) (by decide) (by decide)).trans en_6_4) a1 (by omega))) ?_
    rintro M126 _ ⟨h126, r126, rfl, lr126, ur126⟩
    have hS := St.tr hS h126 (by decide) (by decide)
    refine Tr.sc [(0, r126)] rfl ?_
    refine Tr.if_eq (pc := 129) (tgt := 145) d_X5_order_129 rfl (fun c129 => ?_) (fun c129 => ?_)
    · refine Tr.iconst (pc := 145) d_X5_order_145 (by decide) ?_
      exact Tr.zret (pc := 146) d_X5_order_146 rfl (by omega) ⟨hS, _, rfl, by omega, by omega, fun hq => absurd hq (by omega)⟩
    · refine Tr.aload_n (pc := 132) (i := 0) d_X5_order_132 rfl rfl ?_
      refine Tr.bipush (pc := 133) d_X5_order_133 rfl (by decide) ?_
      refine Tr.callV (pc := 135) (as := [_]) d_X5_order_135 s_5_81 ok_X5_takeSign rfl rfl (Nat.le_of_ble_eq_true rfl) (Nat.le_of_ble_eq_true rfl) (by decide) (ty_6 hS.1.1) ?_
      refine Tr.imp (Tr.deep (by decide) (sp_X5_takeSign_6 hS.1 ((St.kp hS (by decide) (by decide) (by decide)).trans en_6_2) 59 (by omega))) ?_
      rintro M135 _ ⟨h135, r135, rfl, lr135, ur135⟩
      have hS := St.tr hS h135 (by decide) (by decide)
      refine Tr.sc [(0, r135)] rfl ?_
      refine Tr.if_eq (pc := 138) (tgt := 145) d_X5_order_138 rfl (fun c138 => ?_) (fun c138 => ?_)
      · refine Tr.iconst (pc := 145) d_X5_order_145 (by decide) ?_
        exact Tr.zret (pc := 146) d_X5_order_146 rfl (by omega) ⟨hS, _, rfl, by omega, by omega, fun hq => absurd hq (by omega)⟩
      · refine Tr.iconst (pc := 141) d_X5_order_141 (by decide) ?_
        refine Tr.goto (pc := 142) (tgt := 146) d_X5_order_142 rfl ?_
        exact Tr.zret (pc := 146) d_X5_order_146 rfl (by omega) ⟨hS, _, rfl, by omega, by omega, fun _ => ((St.kp h135 (by decide) (by decide) (by decide)).trans ((St.kp h126 (by decide) (by decide) (by decide)).trans en_6_6))⟩
  · refine Tr.tp 8 c9 ?_
    refine Tr.tswIn (pc := 9) (off := 114) (tgt := 123) d_X5_order_9 (by decide) (by decide) rfl rfl ?_
    refine Tr.aload_n (pc := 123) (i := 0) d_X5_order_123 rfl rfl ?_
    refine Tr.iload_n (pc := 124) (i := 1) d_X5_order_124 rfl rfl ?_
    refine Tr.iconst (pc := 125) d_X5_order_125 (by decide) ?_
    refine Tr.callV (pc := 126) (as := [_, _]) d_X5_order_126 s_5_170 ok_X5_about rfl rfl (Nat.le_of_ble_eq_true rfl) (Nat.le_of_ble_eq_true rfl) (by decide) (ty_6 hS.1.1) ?_
    refine Tr.imp (Tr.deep (by decide) (sp_X5_about_6_v0 hS.1 hE ((St.kp hS (by decide) (by decide) (by decide)).trans en_6_2) ((St.kp hS (by decide) (by decide) (by decide)).trans en_6_3) ((St.kp hS (by decide) (by decide) (by decide)).trans en_6_4) a1 (by omega))) ?_
    rintro M126 _ ⟨h126, r126, rfl, lr126, ur126⟩
    have hS := St.tr hS h126 (by decide) (by decide)
    refine Tr.sc [(0, r126)] rfl ?_
    refine Tr.if_eq (pc := 129) (tgt := 145) d_X5_order_129 rfl (fun c129 => ?_) (fun c129 => ?_)
    · refine Tr.iconst (pc := 145) d_X5_order_145 (by decide) ?_
      exact Tr.zret (pc := 146) d_X5_order_146 rfl (by omega) ⟨hS, _, rfl, by omega, by omega, fun hq => absurd hq (by omega)⟩
    · refine Tr.aload_n (pc := 132) (i := 0) d_X5_order_132 rfl rfl ?_
      refine Tr.bipush (pc := 133) d_X5_order_133 rfl (by decide) ?_
      refine Tr.callV (pc := 135) (as := [_]) d_X5_order_135 s_5_81 ok_X5_takeSign rfl rfl (Nat.le_of_ble_eq_true rfl) (Nat.le_of_ble_eq_true rfl) (by decide) (ty_6 hS.1.1) ?_
      refine Tr.imp (Tr.deep (by decide) (sp_X5_takeSign_6 hS.1 ((St.kp hS (by decide) (by decide) (by decide)).trans en_6_2) 59 (by omega))) ?_
      rintro M135 _ ⟨h135, r135, rfl, lr135, ur135⟩
      have hS := St.tr hS h135 (by decide) (by decide)
      refine Tr.sc [(0, r135)] rfl ?_
      refine Tr.if_eq (pc := 138) (tgt := 145) d_X5_order_138 rfl (fun c138 => ?_) (fun c138 => ?_)
      · refine Tr.iconst (pc := 145) d_X5_order_145 (by decide) ?_
        exact Tr.zret (pc := 146) d_X5_order_146 rfl (by omega) ⟨hS, _, rfl, by omega, by omega, fun hq => absurd hq (by omega)⟩
      · refine Tr.iconst (pc := 141) d_X5_order_141 (by decide) ?_
        refine Tr.goto (pc := 142) (tgt := 146) d_X5_order_142 rfl ?_
        exact Tr.zret (pc := 146) d_X5_order_146 rfl (by omega) ⟨hS, _, rfl, by omega, by omega, fun _ => ((St.kp h135 (by decide) (by decide) (by decide)).trans ((St.kp h126 (by decide) (by decide) (by decide)).trans en_6_6))⟩
  · refine Tr.tp 9 c9 ?_
    refine Tr.tswIn (pc := 9) (off := 138) (tgt := 147) d_X5_order_9 (by decide) (by decide) rfl rfl ?_
    refine Tr.aload_n (pc := 147) (i := 0) d_X5_order_147 rfl rfl ?_
    refine Tr.callV (pc := 148) (as := []) d_X5_order_148 s_5_174 ok_X5_sum rfl rfl (Nat.le_of_ble_eq_true rfl) (Nat.le_of_ble_eq_true rfl) (by decide) (ty_6 hS.1.1) ?_
    refine Tr.imp (Tr.deep (by decide) (sp_X5_sum_6_w7 hS.1 hE ((St.kp hS (by decide) (by decide) (by decide)).trans en_6_2) ((St.kp hS (by decide) (by decide) (by decide)).trans en_6_3) ((St.kp hS (by decide) (by decide) (by decide)).trans en_6_4) en_6_6)) ?_
    rintro M148 _ ⟨h148, r148, rfl, lr148, ur148, x148_6_6⟩
    have hS := St.tr hS h148 (by decide) (by decide)
    refine Tr.sc [(0, r148)] rfl ?_
    refine Tr.if_eq (pc := 151) (tgt := 167) d_X5_order_151 rfl (fun c151 => ?_) (fun c151 => ?_)
    · refine Tr.iconst (pc := 167) d_X5_order_167 (by decide) ?_
      exact Tr.zret (pc := 168) d_X5_order_168 rfl (by omega) ⟨hS, _, rfl, by omega, by omega, fun hq => absurd hq (by omega)⟩
    · refine Tr.aload_n (pc := 154) (i := 0) d_X5_order_154 rfl rfl ?_
      refine Tr.bipush (pc := 155) d_X5_order_155 rfl (by decide) ?_
      refine Tr.callV (pc := 157) (as := [_]) d_X5_order_157 s_5_81 ok_X5_takeSign rfl rfl (Nat.le_of_ble_eq_true rfl) (Nat.le_of_ble_eq_true rfl) (by decide) (ty_6 hS.1.1) ?_
      refine Tr.imp (Tr.deep (by decide) (sp_X5_takeSign_6 hS.1 ((St.kp hS (by decide) (by decide) (by decide)).trans en_6_2) 59 (by omega))) ?_
      rintro M157 _ ⟨h157, r157, rfl, lr157, ur157⟩
      have hS := St.tr hS h157 (by decide) (by decide)
      refine Tr.sc [(0, r157)] rfl ?_
      refine Tr.if_eq (pc := 160) (tgt := 167) d_X5_order_160 rfl (fun c160 => ?_) (fun c160 => ?_)
      · refine Tr.iconst (pc := 167) d_X5_order_167 (by decide) ?_
        exact Tr.zret (pc := 168) d_X5_order_168 rfl (by omega) ⟨hS, _, rfl, by omega, by omega, fun hq => absurd hq (by omega)⟩
      · refine Tr.iconst (pc := 163) d_X5_order_163 (by decide) ?_
        refine Tr.goto (pc := 164) (tgt := 168) d_X5_order_164 rfl ?_
        exact Tr.zret (pc := 168) d_X5_order_168 rfl (by omega) ⟨hS, _, rfl, by omega, by omega, fun _ => ((St.kp h157 (by decide) (by decide) (by decide)).trans (x148_6_6 (by omega)))⟩
  · refine Tr.tp 10 c9 ?_
    refine Tr.tswIn (pc := 9) (off := 138) (tgt := 147) d_X5_order_9 (by decide) (by decide) rfl rfl ?_
    refine Tr.aload_n (pc := 147) (i := 0) d_X5_order_147 rfl rfl ?_
    refine Tr.callV (pc := 148) (as := []) d_X5_order_148 s_5_174 ok_X5_sum rfl rfl (Nat.le_of_ble_eq_true rfl) (Nat.le_of_ble_eq_true rfl) (by decide) (ty_6 hS.1.1) ?_
    refine Tr.imp (Tr.deep (by decide) (sp_X5_sum_6_w7 hS.1 hE ((St.kp hS (by decide) (by decide) (by decide)).trans en_6_2) ((St.kp hS (by decide) (by decide) (by decide)).trans en_6_3) ((St.kp hS (by decide) (by decide) (by decide)).trans en_6_4) en_6_6)) ?_
    rintro M148 _ ⟨h148, r148, rfl, lr148, ur148, x148_6_6⟩
    have hS := St.tr hS h148 (by decide) (by decide)
    refine Tr.sc [(0, r148)] rfl ?_
    refine Tr.if_eq (pc := 151) (tgt := 167) d_X5_order_151 rfl (fun c151 => ?_) (fun c151 => ?_)
    · refine Tr.iconst (pc := 167) d_X5_order_167 (by decide) ?_
      exact Tr.zret (pc := 168) d_X5_order_168 rfl (by omega) ⟨hS, _, rfl, by omega, by omega, fun hq => absurd hq (by omega)⟩
    · refine Tr.aload_n (pc := 154) (i := 0) d_X5_order_154 rfl rfl ?_
      refine Tr.bipush (pc := 155) d_X5_order_155 rfl (by decide) ?_
      refine Tr.callV (pc := 157) (as := [_]) d_X5_order_157 s_5_81 ok_X5_takeSign rfl rfl (Nat.le_of_ble_eq_true rfl) (Nat.le_of_ble_eq_true rfl) (by decide) (ty_6 hS.1.1) ?_
      refine Tr.imp (Tr.deep (by decide) (sp_X5_takeSign_6 hS.1 ((St.kp hS (by decide) (by decide) (by decide)).trans en_6_2) 59 (by omega))) ?_
      rintro M157 _ ⟨h157, r157, rfl, lr157, ur157⟩
      have hS := St.tr hS h157 (by decide) (by decide)
      refine Tr.sc [(0, r157)] rfl ?_
      refine Tr.if_eq (pc := 160) (tgt := 167) d_X5_order_160 rfl (fun c160 => ?_) (fun c160 => ?_)
      · refine Tr.iconst (pc := 167) d_X5_order_167 (by decide) ?_
        exact Tr.zret (pc := 168) d_X5_order_168 rfl (by omega) ⟨hS, _, rfl, by omega, by omega, fun hq => absurd hq (by omega)⟩
      · refine Tr.iconst (pc := 163) d_X5_order_163 (by decide) ?_
        refine Tr.goto (pc := 164) (tgt := 168) d_X5_order_164 rfl ?_
        exact Tr.zret (pc := 168) d_X5_order_168 rfl (by omega) ⟨hS, _, rfl, by omega, by omega, fun _ => ((St.kp h157 (by decide) (by decide) (by decide)).trans (x148_6_6 (by omega)))⟩
  · refine Tr.tp 11 c9 ?_
    refine Tr.tswIn (pc := 9) (off := 160) (tgt := 169) d_X5_order_9 (by decide) (by decide) rfl rfl ?_
    refine Tr.aload_n (pc := 169) (i := 0) d_X5_order_169 rfl rfl ?_
    refine Tr.callV (pc := 170) (as := []) d_X5_order_170 s_5_177 ok_X5_test rfl rfl (Nat.le_of_ble_eq_true rfl) (Nat.le_of_ble_eq_true rfl) (by decide) (ty_6 hS.1.1) ?_
    refine Tr.imp (Tr.deep (by decide) (sp_X5_test_6_w7 hS.1 hE ((St.kp hS (by decide) (by decide) (by decide)).trans en_6_2) ((St.kp hS (by decide) (by decide) (by decide)).trans en_6_3) ((St.kp hS (by decide) (by decide) (by decide)).trans en_6_4) en_6_6)) ?_
    rintro M170 _ ⟨h170, r170, rfl, lr170, ur170, x170_6_6⟩
    have hS := St.tr hS h170 (by decide) (by decide)
    refine Tr.sc [(0, r170)] rfl ?_
    refine Tr.if_eq (pc := 173) (tgt := 196) d_X5_order_173 rfl (fun c173 => ?_) (fun c173 => ?_)
    · refine Tr.iconst (pc := 196) d_X5_order_196 (by decide) ?_
      exact Tr.zret (pc := 197) d_X5_order_197 rfl (by omega) ⟨hS, _, rfl, by omega, by omega, fun hq => absurd hq (by omega)⟩
    · refine Tr.aload_n (pc := 176) (i := 0) d_X5_order_176 rfl rfl ?_
      refine Tr.iload_n (pc := 177) (i := 1) d_X5_order_177 rfl rfl ?_
      refine Tr.callV (pc := 178) (as := [_]) d_X5_order_178 s_5_180 ok_X5_yesBlock rfl rfl (Nat.le_of_ble_eq_true rfl) (Nat.le_of_ble_eq_true rfl) (by decide) (ty_6 hS.1.1) ?_
      refine Tr.imp (Tr.deep (by decide) (sp_X5_yesBlock_6_w7 hS.1 hE ((St.kp hS (by decide) (by decide) (by decide)).trans en_6_2) ((St.kp hS (by decide) (by decide) (by decide)).trans en_6_3) ((St.kp hS (by decide) (by decide) (by decide)).trans en_6_4) (x170_6_6 (by omega)) a1 (by omega))) ?_
      rintro M178 _ ⟨h178, r178, rfl, lr178, ur178, x178_6_6⟩
      have hS := St.tr hS h178 (by decide) (by decide)
      refine Tr.sc [(0, r178)] rfl ?_
      refine Tr.if_eq (pc := 181) (tgt := 196) d_X5_order_181 rfl (fun c181 => ?_) (fun c181 => ?_)
      · refine Tr.iconst (pc := 196) d_X5_order_196 (by decide) ?_
        exact Tr.zret (pc := 197) d_X5_order_197 rfl (by omega) ⟨hS, _, rfl, by omega, by omega, fun hq => absurd hq (by omega)⟩
      · refine Tr.aload_n (pc := 184) (i := 0) d_X5_order_184 rfl rfl ?_
        refine Tr.iload_n (pc := 185) (i := 1) d_X5_order_185 rfl rfl ?_
        refine Tr.callV (pc := 186) (as := [_]) d_X5_order_186 s_5_183 ok_X5_noBlock rfl rfl (Nat.le_of_ble_eq_true rfl) (Nat.le_of_ble_eq_true rfl) (by decide) (ty_6 hS.1.1) ?_
        refine Tr.imp (Tr.deep (by decide) (sp_X5_noBlock_6 hS.1 hE ((St.kp hS (by decide) (by decide) (by decide)).trans en_6_2) ((St.kp hS (by decide) (by decide) (by decide)).trans en_6_3) ((St.kp hS (by decide) (by decide) (by decide)).trans en_6_4) (x178_6_6 (by omega)) a1 (by omega))) ?_
        rintro M186 _ ⟨h186, r186, rfl, lr186, ur186, x186_6_6⟩
        have hS := St.tr hS h186 (by decide) (by decide)
        refine Tr.sc [(0, r186)] rfl ?_
        refine Tr.if_eq (pc := 189) (tgt := 196) d_X5_order_189 rfl (fun c189 => ?_) (fun c189 => ?_)
        · refine Tr.iconst (pc := 196) d_X5_order_196 (by decide) ?_
          exact Tr.zret (pc := 197) d_X5_order_197 rfl (by omega) ⟨hS, _, rfl, by omega, by omega, fun hq => absurd hq (by omega)⟩
        · refine Tr.iconst (pc := 192) d_X5_order_192 (by decide) ?_
          refine Tr.goto (pc := 193) (tgt := 197) d_X5_order_193 rfl ?_
          exact Tr.zret (pc := 197) d_X5_order_197 rfl (by omega) ⟨hS, _, rfl, by omega, by omega, fun _ => (x186_6_6 (by omega))⟩

def ws_X5_orders_6_w7 : List (Int × Int) := [(6, 0), (6, 1), (6, 5), (6, 6), (35, 0), (35, 11)]
def as_X5_orders_6_w7 : List Int := [36, 37, 38, 39, 40, 41, 42, 44, 45]
def q_X5_orders_6_w7 (M0 M' : Mem) (r : Option PV) : Prop := St Tru ws_X5_orders_6_w7 as_X5_orders_6_w7 M0 M' ∧ ∃ v : Int, r = some (0, v) ∧ (-2) ≤ v ∧ v ≤ 59 ∧ (((-1) ≤ v ∧ v ≤ 1000000) → rd M' 6 6 = 7)
set_option maxRecDepth 100000 in
set_option maxHeartbeats 4000000 in
theorem sp_X5_orders_6_w7 {l : Launch} {K : EC} {M0 : Mem} {xq : Int} (hI : In Tru M0) (hE : e_all K xq) (en_6_2 : rd M0 6 2 = 2) (en_6_3 : rd M0 6 3 = 27) (en_6_4 : rd M0 6 4 = 35) (en_6_6 : rd M0 6 6 = 7) (a1 : Int) (ha1 : 0 ≤ a1 ∧ a1 ≤ 59)  : Tr l K 15 mX5_orders 0 [(0, (2, 6)), (1, (0, a1))] [] M0 (q_X5_orders_6_w7 M0) := by
  have hS : St Tru ws_X5_orders_6_w7 as_X5_orders_6_w7 M0 M0 := St.rf hI
  refine Tr.iconst (pc := 0) d_X5_orders_0 (by decide) ?_
  refine Tr.istore_n (pc := 1) (i := 2) (ls2 := [(2, (0, (-1))), (0, (2, 6)), (1, (0, a1))]) d_X5_orders_1 rfl (by decide) rfl ?_
  refine Tr.iconst (pc := 2) d_X5_orders_2 (by decide) ?_
  refine Tr.istore_n (pc := 3) (i := 3) (ls2 := [(3, (0, (-1))), (2, (0, (-1))), (0, (2, 6)), (1, (0, a1))]) d_X5_orders_3 rfl (by decide) rfl ?_
  refine Tr.iconst (pc := 4) d_X5_orders_4 (by decide) ?_
  refine Tr.istore (pc := 5) (i := 4) (ls2 := [(4, (0, 0)), (3, (0, (-1))), (2, (0, (-1))), (0, (2, 6)), (1, (0, a1))]) d_X5_orders_5 (by decide) rfl ?_
  have J7 : ∀ (n7 : Nat) (M : Mem) (p7_2 p7_3 p7_4 : Int), St Tru ws_X5_orders_6_w7 as_X5_orders_6_w7 M0 M → ((-1) ≤ p7_2 ∧ p7_2 ≤ 59) → ((-1) ≤ p7_3 ∧ p7_3 ≤ 59) → (0 ≤ p7_4 ∧ p7_4 ≤ 61) → rd M 6 6 = 7 → (61 - p7_4).toNat < n7 → Tr l K 15 mX5_orders 7 [(0, (2, 6)), (1, (0, a1)), (2, (0, p7_2)), (3, (0, p7_3)), (4, (0, p7_4))] [] M (q_X5_orders_6_w7 M0) := by
    intro n7
    induction n7 with
    | zero => intro M p7_2 p7_3 p7_4 hS bp7_2 bp7_3 bp7_4 k7_6_6 hm7; exact absurd hm7 (Nat.not_lt_zero _)
    | succ n7 J7 =>
      intro M p7_2 p7_3 p7_4 hS bp7_2 bp7_3 bp7_4 k7_6_6 hm7
      refine Tr.iload (pc := 7) (i := 4) d_X5_orders_7 rfl ?_
      refine Tr.bipush (pc := 9) d_X5_orders_9 rfl (by decide) ?_
      refine Tr.icmp_gt (pc := 11) (tgt := 111) d_X5_orders_11 rfl (fun c11 => ?_) (fun c11 => ?_)
      · refine Tr.iload_n (pc := 111) (i := 2) d_X5_orders_111 rfl rfl ?_
        exact Tr.iret (pc := 112) d_X5_orders_112 rfl ⟨hS, _, rfl, by omega, by omega, fun _ => k7_6_6⟩
      · refine Tr.aload_n (pc := 14) (i := 0) d_X5_orders_14 rfl rfl ?_
        refine Tr.callV (pc := 15) (as := []) d_X5_orders_15 s_5_154 ok_X5_isOrder rfl rfl (Nat.le_of_ble_eq_true rfl) (Nat.le_of_ble_eq_true rfl) (by decide) (ty_6 hS.1.1) ?_
        refine Tr.imp (Tr.deep (by decide) (sp_X5_isOrder_6 hS.1 ((St.kp hS (by decide) (by decide) (by decide)).trans en_6_2))) ?_
        rintro M15 _ ⟨h15, r15, rfl, lr15, ur15⟩
        have hS := St.tr hS h15 (by decide) (by decide)
        refine Tr.sc [(0, r15)] rfl ?_
        refine Tr.if_eq (pc := 18) (tgt := 111) d_X5_orders_18 rfl (fun c18 => ?_) (fun c18 => ?_)
        · refine Tr.iload_n (pc := 111) (i := 2) d_X5_orders_111 rfl rfl ?_
          exact Tr.iret (pc := 112) d_X5_orders_112 rfl ⟨hS, _, rfl, by omega, by omega, fun _ => ((St.kp h15 (by decide) (by decide) (by decide)).trans k7_6_6)⟩
        · refine Tr.aload_n (pc := 21) (i := 0) d_X5_orders_21 rfl rfl ?_
          refine Tr.getf (pc := 22) d_X5_orders_22 f_5_32 (by decide) (by decide) (ty_6 hS.1.1) ?_
          refine Tr.tp 35 ((St.kp hS (by decide) (by decide) (by decide)).trans en_6_4) ?_
          refine Tr.getf (pc := 25) d_X5_orders_25 f_5_157 (by decide) (by decide) (ty_35 hS.1.1) ?_
          refine Tr.gen (P := fun v => 0 ≤ v ∧ v ≤ 60) (ir_35_0 hS.1.2.1) (fun r25 er25 br25 => ?_)
          refine Tr.bipush (pc := 28) d_X5_orders_28 rfl (by decide) ?_
          refine Tr.icmp_lt (pc := 30) (tgt := 42) d_X5_orders_30 rfl (fun c30 => ?_) (fun c30 => ?_)
          · refine Tr.aload_n (pc := 42) (i := 0) d_X5_orders_42 rfl rfl ?_
            refine Tr.getf (pc := 43) d_X5_orders_43 f_5_32 (by decide) (by decide) (ty_6 hS.1.1) ?_
            refine Tr.tp 35 ((St.kp hS (by decide) (by decide) (by decide)).trans en_6_4) ?_
            refine Tr.aload_n (pc := 46) (i := 0) d_X5_orders_46 rfl rfl ?_
            refine Tr.getf (pc := 47) d_X5_orders_47 f_5_18 (by decide) (by decide) (ty_6 hS.1.1) ?_
            refine Tr.tp 2 ((St.kp hS (by decide) (by decide) (by decide)).trans en_6_2) ?_
            refine Tr.getf (pc := 50) d_X5_orders_50 f_5_68 (by decide) (by decide) (ty_2 hS.1.1) ?_
            refine Tr.tp 5 (fx_2_2 hS.1.1) ?_
            refine Tr.aload_n (pc := 53) (i := 0) d_X5_orders_53 rfl rfl ?_
            refine Tr.getf (pc := 54) d_X5_orders_54 f_5_36 (by decide) (by decide) (ty_6 hS.1.1) ?_
            refine Tr.gen (P := fun v => 0 ≤ v ∧ v ≤ 900) (ir_6_5 hS.1.2.1) (fun r54 er54 br54 => ?_)
            refine Tr.iald (pc := 57) d_X5_orders_57 (ty_5 hS.1.1) (by omega) (by omega) ?_
            refine Tr.gen (P := fun v => (-2147483648) ≤ v ∧ v ≤ 2147483647) (ar_5 hS.1.2.1 _) (fun r57 er57 br57 => ?_)
            refine Tr.iload_n (pc := 58) (i := 1) d_X5_orders_58 rfl rfl ?_
            refine Tr.callV (pc := 59) (as := [_, _]) d_X5_orders_59 s_5_160 ok_X4_open rfl rfl (Nat.le_of_ble_eq_true rfl) (Nat.le_of_ble_eq_true rfl) (by decide) (ty_35 hS.1.1) ?_
            refine Tr.imp (Tr.deep (by decide) (sp_X4_open_35_w1 hS.1 r57 (by omega) a1 (by omega) (by have h9 := er25; omega))) ?_
            rintro M59 _ ⟨h59, r59, rfl, lr59, ur59⟩
            have hS := St.tr hS h59 (by decide) (by decide)
            refine Tr.sc [(0, r59)] rfl ?_
            refine Tr.istore (pc := 62) (i := 5) (ls2 := [(5, (0, r59)), (0, (2, 6)), (1, (0, a1)), (2, (0, p7_2)), (3, (0, p7_3)), (4, (0, p7_4))]) d_X5_orders_62 (by decide) rfl ?_
            refine Tr.iload_n (pc := 64) (i := 3) d_X5_orders_64 rfl rfl ?_
            have J85 : ∀ (M : Mem) (p85_2 : Int), St Tru ws_X5_orders_6_w7 as_X5_orders_6_w7 M0 M → ((-1) ≤ p85_2 ∧ p85_2 ≤ 59) → rd M 5 r54 = r57 → rd M 6 5 = r54 → rd M 6 6 = 7 → Tr l K 15 mX5_orders 85 [(0, (2, 6)), (1, (0, a1)), (2, (0, p85_2)), (4, (0, p7_4)), (5, (0, r59))] [] M (q_X5_orders_6_w7 M0) := by
              intro M p85_2 hS bp85_2 k85_5_r5410 k85_6_5 k85_6_6
              refine Tr.iload (pc := 85) (i := 5) d_X5_orders_85 rfl ?_
              refine Tr.istore_n (pc := 87) (i := 3) (ls2 := [(3, (0, r59)), (0, (2, 6)), (1, (0, a1)), (2, (0, p85_2)), (4, (0, p7_4)), (5, (0, r59))]) d_X5_orders_87 rfl (by decide) rfl ?_
              refine Tr.aload_n (pc := 88) (i := 0) d_X5_orders_88 rfl rfl ?_
              refine Tr.callV (pc := 89) (as := []) d_X5_orders_89 s_5_74 ok_X5_goOn rfl rfl (Nat.le_of_ble_eq_true rfl) (Nat.le_of_ble_eq_true rfl) (by decide) (ty_6 hS.1.1) ?_
              refine Tr.imp (Tr.deep (by decide) (sp_X5_goOn_6 hS.1 )) ?_
              rintro M89 _ ⟨h89, r89, rfl, lr89, ur89⟩
              have hS := St.tr hS h89 (by decide) (by decide)
              refine Tr.sc [(0, r89)] rfl ?_
              refine Tr.pop (pc := 92) d_X5_orders_92 ne01 ?_
              refine Tr.aload_n (pc := 93) (i := 0) d_X5_orders_93 rfl rfl ?_
              refine Tr.iload (pc := 94) (i := 5) d_X5_orders_94 rfl ?_
              refine Tr.callV (pc := 96) (as := [_]) d_X5_orders_96 s_5_166 ok_X5_order rfl rfl (Nat.le_of_ble_eq_true rfl) (Nat.le_of_ble_eq_true rfl) (by decide) (ty_6 hS.1.1) ?_
              refine Tr.imp (Tr.deep (by decide) (sp_X5_order_6_w7 hS.1 hE ((St.kp hS (by decide) (by decide) (by decide)).trans en_6_2) ((St.kp hS (by decide) (by decide) (by decide)).trans en_6_3) ((St.kp hS (by decide) (by decide) (by decide)).trans en_6_4) ((St.kp h89 (by decide) (by decide) (by decide)).trans k85_6_6) r59 (by omega))) ?_
              rintro M96 _ ⟨h96, r96, rfl, lr96, ur96, x96_6_6⟩
              have hS := St.tr hS h96 (by decide) (by decide)
              refine Tr.sc [(0, r96)] rfl ?_
              refine Tr.if_ne (pc := 99) (tgt := 105) d_X5_orders_99 rfl (fun c99 => ?_) (fun c99 => ?_)
              · refine Tr.iincV (pc := 105) (n2 := (p7_4 + 1)) (ls2 := [(4, (0, (p7_4 + 1))), (3, (0, r59)), (0, (2, 6)), (1, (0, a1)), (2, (0, p85_2)), (5, (0, r59))]) d_X5_orders_105 rfl (by decide) ((w32_id (by omega)).trans (by omega)) rfl ?_
                refine Tr.goto (pc := 108) (tgt := 7) d_X5_orders_108 rfl ?_
                refine Tr.pick [2, 3, 4, 1, 0] (ls2 := [(0, (2, 6)), (1, (0, a1)), (2, (0, p85_2)), (3, (0, r59)), (4, (0, (p7_4 + 1)))]) rfl ?_
                exact J7 _ _ _ _ hS (by omega) (by omega) (by omega) (x96_6_6 (by omega)) (by omega)
              · refine Tr.bipush (pc := 102) d_X5_orders_102 rfl (by decide) ?_
                exact Tr.iret (pc := 104) d_X5_orders_104 rfl ⟨hS, _, rfl, by omega, by omega, fun hq => absurd hq (by omega)⟩
            refine Tr.if_ge (pc := 65) (tgt := 74) d_X5_orders_65 rfl (fun c65 => ?_) (fun c65 => ?_)
            · refine Tr.aload_n (pc := 74) (i := 0) d_X5_orders_74 rfl rfl ?_
              refine Tr.getf (pc := 75) d_X5_orders_75 f_5_32 (by decide) (by decide) (ty_6 hS.1.1) ?_
              refine Tr.tp 35 ((St.kp hS (by decide) (by decide) (by decide)).trans en_6_4) ?_
              refine Tr.getf (pc := 78) d_X5_orders_78 f_5_163 (by decide) (by decide) (ty_35 hS.1.1) ?_
              refine Tr.tp 41 (fx_35_6 hS.1.1) ?_
              refine Tr.iload_n (pc := 81) (i := 3) d_X5_orders_81 rfl rfl ?_
              refine Tr.iload (pc := 82) (i := 5) d_X5_orders_82 rfl ?_
              refine Tr.iastS (pc := 84) (P := St Tru ws_X5_orders_6_w7 as_X5_orders_6_w7 M0) d_X5_orders_84 (ty_41 hS.1.1) (by omega) (by omega) (sa_41 hS (by decide) (by omega) trivial) (fun M84 hS w84 => ?_)
              refine Tr.pick [1, 2, 3, 5, 0] (ls2 := [(0, (2, 6)), (1, (0, a1)), (2, (0, p7_2)), (4, (0, p7_4)), (5, (0, r59))]) rfl ?_
              exact J85 _ _ hS (by omega) ((Wr.b w84 rfl).trans ((St.ka h59 (by decide) (by decide) (by decide)).trans er57)) ((Wr.b w84 rfl).trans ((St.kp h59 (by decide) (by decide) (by decide)).trans er54)) ((Wr.b w84 rfl).trans ((St.kp h59 (by decide) (by decide) (by decide)).trans ((St.kp h15 (by decide) (by decide) (by decide)).trans k7_6_6)))
            · refine Tr.iload (pc := 68) (i := 5) d_X5_orders_68 rfl ?_
              refine Tr.istore_n (pc := 70) (i := 2) (ls2 := [(2, (0, r59)), (5, (0, r59)), (0, (2, 6)), (1, (0, a1)), (3, (0, p7_3)), (4, (0, p7_4))]) d_X5_orders_70 rfl (by decide) rfl ?_
              refine Tr.goto (pc := 71) (tgt := 85) d_X5_orders_71 rfl ?_
              refine Tr.pick [2, 3, 0, 5, 1] (ls2 := [(0, (2, 6)), (1, (0, a1)), (2, (0, r59)), (4, (0, p7_4)), (5, (0, r59))]) rfl ?_
              exact J85 _ _ hS (by omega) ((St.ka h59 (by decide) (by decide) (by decide)).trans er57) ((St.kp h59 (by decide) (by decide) (by decide)).trans er54) ((St.kp h59 (by decide) (by decide) (by decide)).trans ((St.kp h15 (by decide) (by decide) (by decide)).trans k7_6_6))
          · refine Tr.aload_n (pc := 33) (i := 0) d_X5_orders_33 rfl rfl ?_
            refine Tr.iconst (pc := 34) d_X5_orders_34 (by decide) ?_
            refine Tr.callV (pc := 35) (as := [_]) d_X5_orders_35 s_5_56 ok_X5_refuse rfl rfl (Nat.le_of_ble_eq_true rfl) (Nat.le_of_ble_eq_true rfl) (by decide) (ty_6 hS.1.1) ?_
            refine Tr.imp (Tr.deep (by decide) (sp_X5_refuse_6_w2 hS.1 ((St.kp hS (by decide) (by decide) (by decide)).trans en_6_2) 5 (by omega))) ?_
            rintro M35 _ ⟨h35, r35, rfl, lr35, ur35⟩
            have hS := St.tr hS h35 (by decide) (by decide)
            refine Tr.sc [(0, r35)] rfl ?_
            refine Tr.pop (pc := 38) d_X5_orders_38 ne01 ?_
            refine Tr.bipush (pc := 39) d_X5_orders_39 rfl (by decide) ?_
            exact Tr.iret (pc := 41) d_X5_orders_41 rfl ⟨hS, _, rfl, by omega, by omega, fun hq => absurd hq (by omega)⟩
  refine Tr.pick [3, 4, 2, 1, 0] (ls2 := [(0, (2, 6)), (1, (0, a1)), (2, (0, (-1))), (3, (0, (-1))), (4, (0, 0))]) rfl ?_
  exact J7 _ _ _ _ _ hS (by omega) (by omega) (by omega) en_6_6 (Nat.lt_succ_self _)

def ws_X5_block_6_w6 : List (Int × Int) := [(6, 0), (6, 1), (6, 5), (6, 6), (35, 0), (35, 11)]
def as_X5_block_6_w6 : List Int := [36, 37, 38, 39, 40, 41, 42, 44, 45]
def q_X5_block_6_w6 (M0 M' : Mem) (r : Option PV) : Prop := St Tru ws_X5_block_6_w6 as_X5_block_6_w6 M0 M' ∧ ∃ v : Int, r = some (0, v) ∧ (-2) ≤ v ∧ v ≤ 59 ∧ (((-1) ≤ v ∧ v ≤ 1000000) → rd M' 6 6 = 6)
set_option maxRecDepth 100000 in
set_option maxHeartbeats 4000000 in
theorem sp_X5_block_6_w6 {l : Launch} {K : EC} {M0 : Mem} {xq : Int} (hI : In Tru M0) (hE : e_all K xq) (en_6_2 : rd M0 6 2 = 2) (en_6_3 : rd M0 6 3 = 27) (en_6_4 : rd M0 6 4 = 35) (en_6_6 : rd M0 6 6 = 6) (a1 : Int) (ha1 : 0 ≤ a1 ∧ a1 ≤ 59)  : Tr l K 16 mX5_block 0 [(0, (2, 6)), (1, (0, a1))] [] M0 (q_X5_block_6_w6 M0) := by
  have hS : St Tru ws_X5_block_6_w6 as_X5_block_6_w6 M0 M0 := St.rf hI
  refine Tr.aload_n (pc := 0) (i := 0) d_X5_block_0 rfl rfl ?_
  refine Tr.bipush (pc := 1) d_X5_block_1 rfl (by decide) ?_
  refine Tr.callV (pc := 3) (as := [_]) d_X5_block_3 s_5_206 ok_X5_takeOpening rfl rfl (Nat.le_of_ble_eq_true rfl) (Nat.le_of_ble_eq_true rfl) (by decide) (ty_6 hS.1.1) ?_
  refine Tr.imp (Tr.deep (by decide) (sp_X5_takeOpening_6_w24 hS.1 ((St.kp hS (by decide) (by decide) (by decide)).trans en_6_2) en_6_6 123 (by omega))) ?_
  rintro M3 _ ⟨h3, r3, rfl, lr3, ur3, x3_6_6⟩
  have hS := St.tr hS h3 (by decide) (by decide)
  refine Tr.sc [(0, r3)] rfl ?_
  refine Tr.if_ne (pc := 6) (tgt := 12) d_X5_block_6 rfl (fun c6 => ?_) (fun c6 => ?_)
  · refine Tr.aload_n (pc := 12) (i := 0) d_X5_block_12 rfl rfl ?_
    refine Tr.iload_n (pc := 13) (i := 1) d_X5_block_13 rfl rfl ?_
    refine Tr.callV (pc := 14) (as := [_]) d_X5_block_14 s_5_46 ok_X5_orders rfl rfl (Nat.le_of_ble_eq_true rfl) (Nat.le_of_ble_eq_true rfl) (by decide) (ty_6 hS.1.1) ?_
    refine Tr.imp (Tr.deep (by decide) (sp_X5_orders_6_w7 hS.1 hE ((St.kp hS (by decide) (by decide) (by decide)).trans en_6_2) ((St.kp hS (by decide) (by decide) (by decide)).trans en_6_3) ((St.kp hS (by decide) (by decide) (by decide)).trans en_6_4) (x3_6_6 (by omega)) a1 (by omega))) ?_
    rintro M14 _ ⟨h14, r14, rfl, lr14, ur14, x14_6_6⟩
    have hS := St.tr hS h14 (by decide) (by decide)
    refine Tr.sc [(0, r14)] rfl ?_
    refine Tr.istore_n (pc := 17) (i := 2) (ls2 := [(2, (0, r14)), (0, (2, 6)), (1, (0, a1))]) d_X5_block_17 rfl (by decide) rfl ?_
    refine Tr.iload_n (pc := 18) (i := 2) d_X5_block_18 rfl rfl ?_
    refine Tr.bipush (pc := 19) d_X5_block_19 rfl (by decide) ?_
    refine Tr.icmp_eq (pc := 21) (tgt := 33) d_X5_block_21 rfl (fun c21 => ?_) (fun c21 => ?_)
    · refine Tr.bipush (pc := 33) d_X5_block_33 rfl (by decide) ?_
      exact Tr.iret (pc := 35) d_X5_block_35 rfl ⟨hS, _, rfl, by omega, by omega, fun hq => absurd hq (by omega)⟩
    · refine Tr.aload_n (pc := 24) (i := 0) d_X5_block_24 rfl rfl ?_
      refine Tr.bipush (pc := 25) d_X5_block_25 rfl (by decide) ?_
      refine Tr.callV (pc := 27) (as := [_]) d_X5_block_27 s_5_209 ok_X5_takeClosing rfl rfl (Nat.le_of_ble_eq_true rfl) (Nat.le_of_ble_eq_true rfl) (by decide) (ty_6 hS.1.1) ?_
      refine Tr.imp (Tr.deep (by decide) (sp_X5_takeClosing_6_w17 hS.1 ((St.kp hS (by decide) (by decide) (by decide)).trans en_6_2) (x14_6_6 (by omega)) 125 (by omega))) ?_
      rintro M27 _ ⟨h27, r27, rfl, lr27, ur27, x27_6_6⟩
      have hS := St.tr hS h27 (by decide) (by decide)
      refine Tr.sc [(0, r27)] rfl ?_
      refine Tr.if_ne (pc := 30) (tgt := 36) d_X5_block_30 rfl (fun c30 => ?_) (fun c30 => ?_)
      · refine Tr.iload_n (pc := 36) (i := 2) d_X5_block_36 rfl rfl ?_
        exact Tr.iret (pc := 37) d_X5_block_37 rfl ⟨hS, _, rfl, by omega, by omega, fun _ => (x27_6_6 (by omega))⟩
      · refine Tr.bipush (pc := 33) d_X5_block_33 rfl (by decide) ?_
        exact Tr.iret (pc := 35) d_X5_block_35 rfl ⟨hS, _, rfl, by omega, by omega, fun hq => absurd hq (by omega)⟩
  · refine Tr.bipush (pc := 9) d_X5_block_9 rfl (by decide) ?_
    exact Tr.iret (pc := 11) d_X5_block_11 rfl ⟨hS, _, rfl, by omega, by omega, fun hq => absurd hq (by omega)⟩

def ws_X5_yesBlock_6_w6 : List (Int × Int) := [(6, 0), (6, 1), (6, 5), (6, 6), (35, 0), (35, 11)]
def as_X5_yesBlock_6_w6 : List Int := [36, 37, 38, 39, 40, 41, 42, 44, 45]
def q_X5_yesBlock_6_w6 (M0 M' : Mem) (r : Option PV) : Prop := St Tru ws_X5_yesBlock_6_w6 as_X5_yesBlock_6_w6 M0 M' ∧ ∃ v : Int, r = some (0, v) ∧ 0 ≤ v ∧ v ≤ 1 ∧ ((1 ≤ v ∧ v ≤ 1) → rd M' 6 6 = 6)
set_option maxRecDepth 100000 in
set_option maxHeartbeats 4000000 in
theorem sp_X5_yesBlock_6_w6 {l : Launch} {K : EC} {M0 : Mem} {xq : Int} (hI : In Tru M0) (hE : e_all K xq) (en_6_2 : rd M0 6 2 = 2) (en_6_3 : rd M0 6 3 = 27) (en_6_4 : rd M0 6 4 = 35) (en_6_6 : rd M0 6 6 = 6) (a1 : Int) (ha1 : 0 ≤ a1 ∧ a1 ≤ 59)  : Tr l K 17 mX5_yesBlock 0 [(0, (2, 6)), (1, (0, a1))] [] M0 (q_X5_yesBlock_6_w6 M0) := by
  have hS : St Tru ws_X5_yesBlock_6_w6 as_X5_yesBlock_6_w6 M0 M0 := St.rf hI
  refine Tr.aload_n (pc := 0) (i := 0) d_X5_yesBlock_0 rfl rfl ?_
  refine Tr.iload_n (pc := 1) (i := 1) d_X5_yesBlock_1 rfl rfl ?_
  refine Tr.callV (pc := 2) (as := [_]) d_X5_yesBlock_2 s_5_197 ok_X5_block rfl rfl (Nat.le_of_ble_eq_true rfl) (Nat.le_of_ble_eq_true rfl) (by decide) (ty_6 hS.1.1) ?_
  refine Tr.imp (Tr.deep (by decide) (sp_X5_block_6_w6 hS.1 hE ((St.kp hS (by decide) (by decide) (by decide)).trans en_6_2) ((St.kp hS (by decide) (by decide) (by decide)).trans en_6_3) ((St.kp hS (by decide) (by decide) (by decide)).trans en_6_4) en_6_6 a1 (by omega))) ?_
  rintro M2 _ ⟨h2, r2, rfl, lr2, ur2, x2_6_6⟩
  have hS := St.tr hS h2 (by decide) (by decide)
  refine Tr.sc [(0, r2)] rfl ?_
  refine Tr.istore_n (pc := 5) (i := 2) (ls2 := [(2, (0, r2)), (0, (2, 6)), (1, (0, a1))]) d_X5_yesBlock_5 rfl (by decide) rfl ?_
  refine Tr.aload_n (pc := 6) (i := 0) d_X5_yesBlock_6 rfl rfl ?_
  refine Tr.getf (pc := 7) d_X5_yesBlock_7 f_5_32 (by decide) (by decide) (ty_6 hS.1.1) ?_
  refine Tr.tp 35 ((St.kp hS (by decide) (by decide) (by decide)).trans en_6_4) ?_
  refine Tr.getf (pc := 10) d_X5_yesBlock_10 f_5_200 (by decide) (by decide) (ty_35 hS.1.1) ?_
  refine Tr.tp 39 (fx_35_4 hS.1.1) ?_
  refine Tr.iload_n (pc := 13) (i := 1) d_X5_yesBlock_13 rfl rfl ?_
  refine Tr.iload_n (pc := 14) (i := 2) d_X5_yesBlock_14 rfl rfl ?_
  refine Tr.iastS (pc := 15) (P := St Tru ws_X5_yesBlock_6_w6 as_X5_yesBlock_6_w6 M0) d_X5_yesBlock_15 (ty_39 hS.1.1) (by omega) (by omega) (sa_39 hS (by decide) (by omega) trivial) (fun M15 hS w15 => ?_)
  refine Tr.iload_n (pc := 16) (i := 2) d_X5_yesBlock_16 rfl rfl ?_
  refine Tr.bipush (pc := 17) d_X5_yesBlock_17 rfl (by decide) ?_
  refine Tr.icmp_eq (pc := 19) (tgt := 26) d_X5_yesBlock_19 rfl (fun c19 => ?_) (fun c19 => ?_)
  · refine Tr.iconst (pc := 26) d_X5_yesBlock_26 (by decide) ?_
    exact Tr.zret (pc := 27) d_X5_yesBlock_27 rfl (by omega) ⟨hS, _, rfl, by omega, by omega, fun hq => absurd hq (by omega)⟩
  · refine Tr.iconst (pc := 22) d_X5_yesBlock_22 (by decide) ?_
    refine Tr.goto (pc := 23) (tgt := 27) d_X5_yesBlock_23 rfl ?_
    exact Tr.zret (pc := 27) d_X5_yesBlock_27 rfl (by omega) ⟨hS, _, rfl, by omega, by omega, fun _ => ((Wr.b w15 rfl).trans (x2_6_6 (by omega)))⟩

def ws_X5_noBlock_6_w1 : List (Int × Int) := [(6, 0), (6, 1), (6, 5), (6, 6), (35, 0), (35, 11)]
def as_X5_noBlock_6_w1 : List Int := [36, 37, 38, 39, 40, 41, 42, 44, 45]
def q_X5_noBlock_6_w1 (M0 M' : Mem) (r : Option PV) : Prop := St Tru ws_X5_noBlock_6_w1 as_X5_noBlock_6_w1 M0 M' ∧ ∃ v : Int, r = some (0, v) ∧ 0 ≤ v ∧ v ≤ 1 ∧ ((1 ≤ v ∧ v ≤ 1) → rd M' 6 6 = 6)
set_option maxRecDepth 100000 in
set_option maxHeartbeats 4000000 in
theorem sp_X5_noBlock_6_w1 {l : Launch} {K : EC} {M0 : Mem} {xq : Int} (hI : In Tru M0) (hE : e_all K xq) (en_6_2 : rd M0 6 2 = 2) (en_6_3 : rd M0 6 3 = 27) (en_6_4 : rd M0 6 4 = 35) (en_6_6 : rd M0 6 6 = 6) (a1 : Int) (ha1 : 0 ≤ a1 ∧ a1 ≤ 59)  : Tr l K 17 mX5_noBlock 0 [(0, (2, 6)), (1, (0, a1))] [] M0 (q_X5_noBlock_6_w1 M0) := by
  have hS : St Tru ws_X5_noBlock_6_w1 as_X5_noBlock_6_w1 M0 M0 := St.rf hI
  refine Tr.aload_n (pc := 0) (i := 0) d_X5_noBlock_0 rfl rfl ?_
  refine Tr.bipush (pc := 1) d_X5_noBlock_1 rfl (by decide) ?_
  refine Tr.callV (pc := 3) (as := [_]) d_X5_noBlock_3 s_5_71 ok_X5_isOwn rfl rfl (Nat.le_of_ble_eq_true rfl) (Nat.le_of_ble_eq_true rfl) (by decide) (ty_6 hS.1.1) ?_
  refine Tr.imp (Tr.deep (by decide) (sp_X5_isOwn_6 hS.1 ((St.kp hS (by decide) (by decide) (by decide)).trans en_6_2) 13 (by omega))) ?_
  rintro M3 _ ⟨h3, r3, rfl, lr3, ur3⟩
  have hS := St.tr hS h3 (by decide) (by decide)
  refine Tr.sc [(0, r3)] rfl ?_
  refine Tr.if_ne (pc := 6) (tgt := 11) d_X5_noBlock_6 rfl (fun c6 => ?_) (fun c6 => ?_)
  · refine Tr.aload_n (pc := 11) (i := 0) d_X5_noBlock_11 rfl rfl ?_
    refine Tr.callV (pc := 12) (as := []) d_X5_noBlock_12 s_5_74 ok_X5_goOn rfl rfl (Nat.le_of_ble_eq_true rfl) (Nat.le_of_ble_eq_true rfl) (by decide) (ty_6 hS.1.1) ?_
    refine Tr.imp (Tr.deep (by decide) (sp_X5_goOn_6 hS.1 )) ?_
    rintro M12 _ ⟨h12, r12, rfl, lr12, ur12⟩
    have hS := St.tr hS h12 (by decide) (by decide)
    refine Tr.sc [(0, r12)] rfl ?_
    refine Tr.pop (pc := 15) d_X5_noBlock_15 ne01 ?_
    refine Tr.aload_n (pc := 16) (i := 0) d_X5_noBlock_16 rfl rfl ?_
    refine Tr.iload_n (pc := 17) (i := 1) d_X5_noBlock_17 rfl rfl ?_
    refine Tr.callV (pc := 18) (as := [_]) d_X5_noBlock_18 s_5_197 ok_X5_block rfl rfl (Nat.le_of_ble_eq_true rfl) (Nat.le_of_ble_eq_true rfl) (by decide) (ty_6 hS.1.1) ?_
    refine Tr.imp (Tr.deep (by decide) (sp_X5_block_6_w6 hS.1 hE ((St.kp hS (by decide) (by decide) (by decide)).trans en_6_2) ((St.kp hS (by decide) (by decide) (by decide)).trans en_6_3) ((St.kp hS (by decide) (by decide) (by decide)).trans en_6_4) ((St.kp h12 (by decide) (by decide) (by decide)).trans ((St.kp h3 (by decide) (by decide) (by decide)).trans en_6_6)) a1 (by omega))) ?_
    rintro M18 _ ⟨h18, r18, rfl, lr18, ur18, x18_6_6⟩
    have hS := St.tr hS h18 (by decide) (by decide)
    refine Tr.sc [(0, r18)] rfl ?_
    refine Tr.istore_n (pc := 21) (i := 2) (ls2 := [(2, (0, r18)), (0, (2, 6)), (1, (0, a1))]) d_X5_noBlock_21 rfl (by decide) rfl ?_
    refine Tr.aload_n (pc := 22) (i := 0) d_X5_noBlock_22 rfl rfl ?_
    refine Tr.getf (pc := 23) d_X5_noBlock_23 f_5_32 (by decide) (by decide) (ty_6 hS.1.1) ?_
    refine Tr.tp 35 ((St.kp hS (by decide) (by decide) (by decide)).trans en_6_4) ?_
    refine Tr.getf (pc := 26) d_X5_noBlock_26 f_5_203 (by decide) (by decide) (ty_35 hS.1.1) ?_
    refine Tr.tp 40 (fx_35_5 hS.1.1) ?_
    refine Tr.iload_n (pc := 29) (i := 1) d_X5_noBlock_29 rfl rfl ?_
    refine Tr.iload_n (pc := 30) (i := 2) d_X5_noBlock_30 rfl rfl ?_
    refine Tr.iastS (pc := 31) (P := St Tru ws_X5_noBlock_6_w1 as_X5_noBlock_6_w1 M0) d_X5_noBlock_31 (ty_40 hS.1.1) (by omega) (by omega) (sa_40 hS (by decide) (by omega) trivial) (fun M31 hS w31 => ?_)
    refine Tr.iload_n (pc := 32) (i := 2) d_X5_noBlock_32 rfl rfl ?_
    refine Tr.bipush (pc := 33) d_X5_noBlock_33 rfl (by decide) ?_
    refine Tr.icmp_eq (pc := 35) (tgt := 42) d_X5_noBlock_35 rfl (fun c35 => ?_) (fun c35 => ?_)
    · refine Tr.iconst (pc := 42) d_X5_noBlock_42 (by decide) ?_
      exact Tr.zret (pc := 43) d_X5_noBlock_43 rfl (by omega) ⟨hS, _, rfl, by omega, by omega, fun hq => absurd hq (by omega)⟩
    · refine Tr.iconst (pc := 38) d_X5_noBlock_38 (by decide) ?_
      refine Tr.goto (pc := 39) (tgt := 43) d_X5_noBlock_39 rfl ?_
      exact Tr.zret (pc := 43) d_X5_noBlock_43 rfl (by omega) ⟨hS, _, rfl, by omega, by omega, fun _ => ((Wr.b w31 rfl).trans (x18_6_6 (by omega)))⟩
  · refine Tr.iconst (pc := 9) d_X5_noBlock_9 (by decide) ?_
    exact Tr.zret (pc := 10) d_X5_noBlock_10 rfl (by omega) ⟨hS, _, rfl, by omega, by omega, fun _ => ((St.kp h3 (by decide) (by decide) (by decide)).trans en_6_6)⟩

def ws_X5_order_6_w6 : List (Int × Int) := [(6, 0), (6, 1), (6, 5), (6, 6), (35, 0), (35, 11)]
def as_X5_order_6_w6 : List Int := [36, 37, 38, 39, 40, 41, 42, 44, 45]
def q_X5_order_6_w6 (M0 M' : Mem) (r : Option PV) : Prop := St Tru ws_X5_order_6_w6 as_X5_order_6_w6 M0 M' ∧ ∃ v : Int, r = some (0, v) ∧ 0 ≤ v ∧ v ≤ 1 ∧ ((1 ≤ v ∧ v ≤ 1) → rd M' 6 6 = 6)
set_option maxRecDepth 100000 in
set_option maxHeartbeats 4000000 in
theorem sp_X5_order_6_w6 {l : Launch} {K : EC} {M0 : Mem} {xq : Int} (hI : In Tru M0) (hE : e_all K xq) (en_6_2 : rd M0 6 2 = 2) (en_6_3 : rd M0 6 3 = 27) (en_6_4 : rd M0 6 4 = 35) (en_6_6 : rd M0 6 6 = 6) (a1 : Int) (ha1 : 0 ≤ a1 ∧ a1 ≤ 59)  : Tr l K 18 mX5_order 0 [(0, (2, 6)), (1, (0, a1))] [] M0 (q_X5_order_6_w6 M0) := by
  have hS : St Tru ws_X5_order_6_w6 as_X5_order_6_w6 M0 M0 := St.rf hI
  refine Tr.aload_n (pc := 0) (i := 0) d_X5_order_0 rfl rfl ?_
  refine Tr.getf (pc := 1) d_X5_order_1 f_5_32 (by decide) (by decide) (ty_6 hS.1.1) ?_
  refine Tr.tp 35 ((St.kp hS (by decide) (by decide) (by decide)).trans en_6_4) ?_
  refine Tr.getf (pc := 4) d_X5_order_4 f_5_169 (by decide) (by decide) (ty_35 hS.1.1) ?_
  refine Tr.tp 36 (fx_35_1 hS.1.1) ?_
  refine Tr.iload_n (pc := 7) (i := 1) d_X5_order_7 rfl rfl ?_
  refine Tr.iald (pc := 8) d_X5_order_8 (ty_36 hS.1.1) (by omega) (by omega) ?_
  refine Tr.gen (P := fun v => (-2147483648) ≤ v ∧ v ≤ 2147483647) (ar_36 hS.1.2.1 _) (fun r8 er8 br8 => ?_)
  rcases (show (r8 < 5 ∨ 11 < r8) ∨ r8 = 5 ∨ r8 = 6 ∨ r8 = 7 ∨ r8 = 8 ∨ r8 = 9 ∨ r8 = 10 ∨ r8 = 11 by omega) with c9 | c9 | c9 | c9 | c9 | c9 | c9 | c9
  · refine Tr.tswOut (pc := 9) (tgt := 198) d_X5_order_9 c9 rfl ?_
    refine Tr.aload_n (pc := 198) (i := 0) d_X5_order_198 rfl rfl ?_
    refine Tr.callV (pc := 199) (as := []) d_X5_order_199 s_5_177 ok_X5_test rfl rfl (Nat.le_of_ble_eq_true rfl) (Nat.le_of_ble_eq_true rfl) (by decide) (ty_6 hS.1.1) ?_
    refine Tr.imp (Tr.deep (by decide) (sp_X5_test_6_w6 hS.1 hE ((St.kp hS (by decide) (by decide) (by decide)).trans en_6_2) ((St.kp hS (by decide) (by decide) (by decide)).trans en_6_3) ((St.kp hS (by decide) (by decide) (by decide)).trans en_6_4) en_6_6)) ?_
    rintro M199 _ ⟨h199, r199, rfl, lr199, ur199, x199_6_6⟩
    have hS := St.tr hS h199 (by decide) (by decide)
    refine Tr.sc [(0, r199)] rfl ?_
    refine Tr.if_eq (pc := 202) (tgt := 217) d_X5_order_202 rfl (fun c202 => ?_) (fun c202 => ?_)
    · refine Tr.iconst (pc := 217) d_X5_order_217 (by decide) ?_
      exact Tr.zret (pc := 218) d_X5_order_218 rfl (by omega) ⟨hS, _, rfl, by omega, by omega, fun hq => absurd hq (by omega)⟩
    · refine Tr.aload_n (pc := 205) (i := 0) d_X5_order_205 rfl rfl ?_
      refine Tr.iload_n (pc := 206) (i := 1) d_X5_order_206 rfl rfl ?_
      refine Tr.callV (pc := 207) (as := [_]) d_X5_order_207 s_5_180 ok_X5_yesBlock rfl rfl (Nat.le_of_ble_eq_true rfl) (Nat.le_of_ble_eq_true rfl) (by decide) (ty_6 hS.1.1) ?_
      refine Tr.imp (Tr.deep (by decide) (sp_X5_yesBlock_6_w6 hS.1 hE ((St.kp hS (by decide) (by decide) (by decide)).trans en_6_2) ((St.kp hS (by decide) (by decide) (by decide)).trans en_6_3) ((St.kp hS (by decide) (by decide) (by decide)).trans en_6_4) (x199_6_6 (by omega)) a1 (by omega))) ?_
      rintro M207 _ ⟨h207, r207, rfl, lr207, ur207, x207_6_6⟩
      have hS := St.tr hS h207 (by decide) (by decide)
      refine Tr.sc [(0, r207)] rfl ?_
      refine Tr.if_eq (pc := 210) (tgt := 217) d_X5_order_210 rfl (fun c210 => ?_) (fun c210 => ?_)
      · refine Tr.iconst (pc := 217) d_X5_order_217 (by decide) ?_
        exact Tr.zret (pc := 218) d_X5_order_218 rfl (by omega) ⟨hS, _, rfl, by omega, by omega, fun hq => absurd hq (by omega)⟩
      · refine Tr.iconst (pc := 213) d_X5_order_213 (by decide) ?_
        refine Tr.goto (pc := 214) (tgt := 218) d_X5_order_214 rfl ?_
        exact Tr.zret (pc := 218) d_X5_order_218 rfl (by omega) ⟨hS, _, rfl, by omega, by omega, fun _ => (x207_6_6 (by omega))⟩
  · refine Tr.tp 5 c9 ?_
    refine Tr.tswIn (pc := 9) (off := 43) (tgt := 52) d_X5_order_9 (by decide) (by decide) rfl rfl ?_
    refine Tr.aload_n (pc := 52) (i := 0) d_X5_order_52 rfl rfl ?_
    refine Tr.iload_n (pc := 53) (i := 1) d_X5_order_53 rfl rfl ?_
    refine Tr.iconst (pc := 54) d_X5_order_54 (by decide) ?_
    refine Tr.callV (pc := 55) (as := [_, _]) d_X5_order_55 s_5_170 ok_X5_about rfl rfl (Nat.le_of_ble_eq_true rfl) (Nat.le_of_ble_eq_true rfl) (by decide) (ty_6 hS.1.1) ?_
    refine Tr.imp (Tr.deep (by decide) (sp_X5_about_6_v2 hS.1 hE ((St.kp hS (by decide) (by decide) (by decide)).trans en_6_2) ((St.kp hS (by decide) (by decide) (by decide)).trans en_6_3) ((St.kp hS (by decide) (by decide) (by decide)).trans en_6_4) a1 (by omega))) ?_
    rintro M55 _ ⟨h55, r55, rfl, lr55, ur55⟩
    have hS := St.tr hS h55 (by decide) (by decide)
    refine Tr.sc [(0, r55)] rfl ?_
    refine Tr.if_eq (pc := 58) (tgt := 90) d_X5_order_58 rfl (fun c58 => ?_) (fun c58 => ?_)
    · refine Tr.iconst (pc := 90) d_X5_order_90 (by decide) ?_
      exact Tr.zret (pc := 91) d_X5_order_91 rfl (by omega) ⟨hS, _, rfl, by omega, by omega, fun hq => absurd hq (by omega)⟩
    · refine Tr.aload_n (pc := 61) (i := 0) d_X5_order_61 rfl rfl ?_
      refine Tr.bipush (pc := 62) d_X5_order_62 rfl (by decide) ?_
      refine Tr.callV (pc := 64) (as := [_]) d_X5_order_64 s_5_81 ok_X5_takeSign rfl rfl (Nat.le_of_ble_eq_true rfl) (Nat.le_of_ble_eq_true rfl) (by decide) (ty_6 hS.1.1) ?_
      refine Tr.imp (Tr.deep (by decide) (sp_X5_takeSign_6_w3 hS.1 ((St.kp hS (by decide) (by decide) (by decide)).trans en_6_2) 61 (by omega))) ?_
      rintro M64 _ ⟨h64, r64, rfl, lr64, ur64⟩
      have hS := St.tr hS h64 (by decide) (by decide)
      refine Tr.sc [(0, r64)] rfl ?_
      refine Tr.if_eq (pc := 67) (tgt := 90) d_X5_order_67 rfl (fun c67 => ?_) (fun c67 => ?_)
      · refine Tr.iconst (pc := 90) d_X5_order_90 (by decide) ?_
        exact Tr.zret (pc := 91) d_X5_order_91 rfl (by omega) ⟨hS, _, rfl, by omega, by omega, fun hq => absurd hq (by omega)⟩
      · refine Tr.aload_n (pc := 70) (i := 0) d_X5_order_70 rfl rfl ?_
        refine Tr.callV (pc := 71) (as := []) d_X5_order_71 s_5_174 ok_X5_sum rfl rfl (Nat.le_of_ble_eq_true rfl) (Nat.le_of_ble_eq_true rfl) (by decide) (ty_6 hS.1.1) ?_
        refine Tr.imp (Tr.deep (by decide) (sp_X5_sum_6_w6 hS.1 hE ((St.kp hS (by decide) (by decide) (by decide)).trans en_6_2) ((St.kp hS (by decide) (by decide) (by decide)).trans en_6_3) ((St.kp hS (by decide) (by decide) (by decide)).trans en_6_4) ((St.kp h64 (by decide) (by decide) (by decide)).trans ((St.kp h55 (by decide) (by decide) (by decide)).trans en_6_6)))) ?_
        rintro M71 _ ⟨h71, r71, rfl, lr71, ur71, x71_6_6⟩
        have hS := St.tr hS h71 (by decide) (by decide)
        refine Tr.sc [(0, r71)] rfl ?_
        refine Tr.if_eq (pc := 74) (tgt := 90) d_X5_order_74 rfl (fun c74 => ?_) (fun c74 => ?_)
        · refine Tr.iconst (pc := 90) d_X5_order_90 (by decide) ?_
          exact Tr.zret (pc := 91) d_X5_order_91 rfl (by omega) ⟨hS, _, rfl, by omega, by omega, fun hq => absurd hq (by omega)⟩
        · refine Tr.aload_n (pc := 77) (i := 0) d_X5_order_77 rfl rfl ?_
          refine Tr.bipush (pc := 78) d_X5_order_78 rfl (by decide) ?_
          refine Tr.callV (pc := 80) (as := [_]) d_X5_order_80 s_5_81 ok_X5_takeSign rfl rfl (Nat.le_of_ble_eq_true rfl) (Nat.le_of_ble_eq_true rfl) (by decide) (ty_6 hS.1.1) ?_
          refine Tr.imp (Tr.deep (by decide) (sp_X5_takeSign_6 hS.1 ((St.kp hS (by decide) (by decide) (by decide)).trans en_6_2) 59 (by omega))) ?_
          rintro M80 _ ⟨h80, r80, rfl, lr80, ur80⟩
          have hS := St.tr hS h80 (by decide) (by decide)
          refine Tr.sc [(0, r80)] rfl ?_
          refine Tr.if_eq (pc := 83) (tgt := 90) d_X5_order_83 rfl (fun c83 => ?_) (fun c83 => ?_)
          · refine Tr.iconst (pc := 90) d_X5_order_90 (by decide) ?_
            exact Tr.zret (pc := 91) d_X5_order_91 rfl (by omega) ⟨hS, _, rfl, by omega, by omega, fun hq => absurd hq (by omega)⟩
          · refine Tr.iconst (pc := 86) d_X5_order_86 (by decide) ?_
            refine Tr.goto (pc := 87) (tgt := 91) d_X5_order_87 rfl ?_
            exact Tr.zret (pc := 91) d_X5_order_91 rfl (by omega) ⟨hS, _, rfl, by omega, by omega, fun _ => ((St.kp h80 (by decide) (by decide) (by decide)).trans (x71_6_6 (by omega)))⟩
  · refine Tr.tp 6 c9 ?_
    refine Tr.tswIn (pc := 9) (off := 83) (tgt := 92) d_X5_order_9 (by decide) (by decide) rfl rfl ?_
    refine Tr.aload_n (pc := 92) (i := 0) d_X5_order_92 rfl rfl ?_
    refine Tr.iload_n (pc := 93) (i := 1) d_X5_order_93 rfl rfl ?_
    refine Tr.iconst (pc := 94) d_X5_order_94 (by decide) ?_
    refine Tr.callV (pc := 95) (as := [_, _]) d_X5_order_95 s_5_170 ok_X5_about rfl rfl (Nat.le_of_ble_eq_true rfl) (Nat.le_of_ble_eq_true rfl) (by decide) (ty_6 hS.1.1) ?_
    refine Tr.imp (Tr.deep (by decide) (sp_X5_about_6_v0 hS.1 hE ((St.kp hS (by decide) (by decide) (by decide)).trans en_6_2) ((St.kp hS (by decide) (by decide) (by decide)).trans en_6_3) ((St.kp hS (by decide) (by decide) (by decide)).trans en_6_4) a1 (by omega))) ?_
    rintro M95 _ ⟨h95, r95, rfl, lr95, ur95⟩
    have hS := St.tr hS h95 (by decide) (by decide)
    refine Tr.sc [(0, r95)] rfl ?_
    refine Tr.if_eq (pc := 98) (tgt := 121) d_X5_order_98 rfl (fun c98 => ?_) (fun c98 => ?_)
    · refine Tr.iconst (pc := 121) d_X5_order_121 (by decide) ?_
      exact Tr.zret (pc := 122) d_X5_order_122 rfl (by omega) ⟨hS, _, rfl, by omega, by omega, fun hq => absurd hq (by omega)⟩
    · refine Tr.aload_n (pc := 101) (i := 0) d_X5_order_101 rfl rfl ?_
      refine Tr.callV (pc := 102) (as := []) d_X5_order_102 s_5_174 ok_X5_sum rfl rfl (Nat.le_of_ble_eq_true rfl) (Nat.le_of_ble_eq_true rfl) (by decide) (ty_6 hS.1.1) ?_
      refine Tr.imp (Tr.deep (by decide) (sp_X5_sum_6_w6 hS.1 hE ((St.kp hS (by decide) (by decide) (by decide)).trans en_6_2) ((St.kp hS (by decide) (by decide) (by decide)).trans en_6_3) ((St.kp hS (by decide) (by decide) (by decide)).trans en_6_4) ((St.kp h95 (by decide) (by decide) (by decide)).trans en_6_6))) ?_
      rintro M102 _ ⟨h102, r102, rfl, lr102, ur102, x102_6_6⟩
      have hS := St.tr hS h102 (by decide) (by decide)
      refine Tr.sc [(0, r102)] rfl ?_
      refine Tr.if_eq (pc := 105) (tgt := 121) d_X5_order_105 rfl (fun c105 => ?_) (fun c105 => ?_)
      · refine Tr.iconst (pc := 121) d_X5_order_121 (by decide) ?_
        exact Tr.zret (pc := 122) d_X5_order_122 rfl (by omega) ⟨hS, _, rfl, by omega, by omega, fun hq => absurd hq (by omega)⟩
      · refine Tr.aload_n (pc := 108) (i := 0) d_X5_order_108 rfl rfl ?_
        refine Tr.bipush (pc := 109) d_X5_order_109 rfl (by decide) ?_
        refine Tr.callV (pc := 111) (as := [_]) d_X5_order_111 s_5_81 ok_X5_takeSign rfl rfl (Nat.le_of_ble_eq_true rfl) (Nat.le_of_ble_eq_true rfl) (by decide) (ty_6 hS.1.1) ?_
        refine Tr.imp (Tr.deep (by decide) (sp_X5_takeSign_6 hS.1 ((St.kp hS (by decide) (by decide) (by decide)).trans en_6_2) 59 (by omega))) ?_
        rintro M111 _ ⟨h111, r111, rfl, lr111, ur111⟩
        have hS := St.tr hS h111 (by decide) (by decide)
        refine Tr.sc [(0, r111)] rfl ?_
        refine Tr.if_eq (pc := 114) (tgt := 121) d_X5_order_114 rfl (fun c114 => ?_) (fun c114 => ?_)
        · refine Tr.iconst (pc := 121) d_X5_order_121 (by decide) ?_
          exact Tr.zret (pc := 122) d_X5_order_122 rfl (by omega) ⟨hS, _, rfl, by omega, by omega, fun hq => absurd hq (by omega)⟩
        · refine Tr.iconst (pc := 117) d_X5_order_117 (by decide) ?_
          refine Tr.goto (pc := 118) (tgt := 122) d_X5_order_118 rfl ?_
          exact Tr.zret (pc := 122) d_X5_order_122 rfl (by omega) ⟨hS, _, rfl, by omega, by omega, fun _ => ((St.kp h111 (by decide) (by decide) (by decide)).trans (x102_6_6 (by omega)))⟩
  · refine Tr.tp 7 c9 ?_
    refine Tr.tswIn (pc := 9) (off := 114) (tgt := 123) d_X5_order_9 (by decide) (by decide) rfl rfl ?_
    refine Tr.aload_n (pc := 123) (i := 0) d_X5_order_123 rfl rfl ?_
    refine Tr.iload_n (pc := 124) (i := 1) d_X5_order_124 rfl rfl ?_
    refine Tr.iconst (pc := 125) d_X5_order_125 (by decide) ?_
    refine Tr.callV (pc := 126) (as := [_, _]) d_X5_order_126 s_5_170 ok_X5_about rfl rfl (Nat.le_of_ble_eq_true rfl) (Nat.le_of_ble_eq_true rfl) (by decide) (ty_6 hS.1.1) ?_
    refine Tr.imp (Tr.deep (by decide) (sp_X5_about_6_v0 hS.1 hE ((St.kp hS (by decide) (by decide) (by decide)).trans en_6_2) ((St.kp hS (by decide) (by decide) (by decide)).trans en_6_3) ((St.kp hS (by decide) (by decide) (by decide)).trans en_6_4) a1 (by omega))) ?_
    rintro M126 _ ⟨h126, r126, rfl, lr126, ur126⟩
    have hS := St.tr hS h126 (by decide) (by decide)
    refine Tr.sc [(0, r126)] rfl ?_
    refine Tr.if_eq (pc := 129) (tgt := 145) d_X5_order_129 rfl (fun c129 => ?_) (fun c129 => ?_)
    · refine Tr.iconst (pc := 145) d_X5_order_145 (by decide) ?_
      exact Tr.zret (pc := 146) d_X5_order_146 rfl (by omega) ⟨hS, _, rfl, by omega, by omega, fun hq => absurd hq (by omega)⟩
    · refine Tr.aload_n (pc := 132) (i := 0) d_X5_order_132 rfl rfl ?_
      refine Tr.bipush (pc := 133) d_X5_order_133 rfl (by decide) ?_
      refine Tr.callV (pc := 135) (as := [_]) d_X5_order_135 s_5_81 ok_X5_takeSign rfl rfl (Nat.le_of_ble_eq_true rfl) (Nat.le_of_ble_eq_true rfl) (by decide) (ty_6 hS.1.1) ?_
      refine Tr.imp (Tr.deep (by decide) (sp_X5_takeSign_6 hS.1 ((St.kp hS (by decide) (by decide) (by decide)).trans en_6_2) 59 (by omega))) ?_
      rintro M135 _ ⟨h135, r135, rfl, lr135, ur135⟩
      have hS := St.tr hS h135 (by decide) (by decide)
      refine Tr.sc [(0, r135)] rfl ?_
      refine Tr.if_eq (pc := 138) (tgt := 145) d_X5_order_138 rfl (fun c138 => ?_) (fun c138 => ?_)
      · refine Tr.iconst (pc := 145) d_X5_order_145 (by decide) ?_
        exact Tr.zret (pc := 146) d_X5_order_146 rfl (by omega) ⟨hS, _, rfl, by omega, by omega, fun hq => absurd hq (by omega)⟩
      · refine Tr.iconst (pc := 141) d_X5_order_141 (by decide) ?_
        refine Tr.goto (pc := 142) (tgt := 146) d_X5_order_142 rfl ?_
        exact Tr.zret (pc := 146) d_X5_order_146 rfl (by omega) ⟨hS, _, rfl, by omega, by omega, fun _ => ((St.kp h135 (by decide) (by decide) (by decide)).trans ((St.kp h126 (by decide) (by decide) (by decide)).trans en_6_6))⟩
  · refine Tr.tp 8 c9 ?_
    refine Tr.tswIn (pc := 9) (off := 114) (tgt := 123) d_X5_order_9 (by decide) (by decide) rfl rfl ?_
    refine Tr.aload_n (pc := 123) (i := 0) d_X5_order_123 rfl rfl ?_
    refine Tr.iload_n (pc := 124) (i := 1) d_X5_order_124 rfl rfl ?_
    refine Tr.iconst (pc := 125) d_X5_order_125 (by decide) ?_
    refine Tr.callV (pc := 126) (as := [_, _]) d_X5_order_126 s_5_170 ok_X5_about rfl rfl (Nat.le_of_ble_eq_true rfl) (Nat.le_of_ble_eq_true rfl) (by decide) (ty_6 hS.1.1) ?_
    refine Tr.imp (Tr.deep (by decide) (sp_X5_about_6_v0 hS.1 hE ((St.kp hS (by decide) (by decide) (by decide)).trans en_6_2) ((St.kp hS (by decide) (by decide) (by decide)).trans en_6_3) ((St.kp hS (by decide) (by decide) (by decide)).trans en_6_4) a1 (by omega))) ?_
    rintro M126 _ ⟨h126, r126, rfl, lr126, ur126⟩
    have hS := St.tr hS h126 (by decide) (by decide)
    refine Tr.sc [(0, r126)] rfl ?_
    refine Tr.if_eq (pc := 129) (tgt := 145) d_X5_order_129 rfl (fun c129 => ?_) (fun c129 => ?_)
    · refine Tr.iconst (pc := 145) d_X5_order_145 (by decide) ?_
      exact Tr.zret (pc := 146) d_X5_order_146 rfl (by omega) ⟨hS, _, rfl, by omega, by omega, fun hq => absurd hq (by omega)⟩
    · refine Tr.aload_n (pc := 132) (i := 0) d_X5_order_132 rfl rfl ?_
      refine Tr.bipush (pc := 133) d_X5_order_133 rfl (by decide) ?_
      refine Tr.callV (pc := 135) (as := [_]) d_X5_order_135 s_5_81 ok_X5_takeSign rfl rfl (Nat.le_of_ble_eq_true rfl) (Nat.le_of_ble_eq_true rfl) (by decide) (ty_6 hS.1.1) ?_
      refine Tr.imp (Tr.deep (by decide) (sp_X5_takeSign_6 hS.1 ((St.kp hS (by decide) (by decide) (by decide)).trans en_6_2) 59 (by omega))) ?_
      rintro M135 _ ⟨h135, r135, rfl, lr135, ur135⟩
      have hS := St.tr hS h135 (by decide) (by decide)
      refine Tr.sc [(0, r135)] rfl ?_
      refine Tr.if_eq (pc := 138) (tgt := 145) d_X5_order_138 rfl (fun c138 => ?_) (fun c138 => ?_)
      · refine Tr.iconst (pc := 145) d_X5_order_145 (by decide) ?_
        exact Tr.zret (pc := 146) d_X5_order_146 rfl (by omega) ⟨hS, _, rfl, by omega, by omega, fun hq => absurd hq (by omega)⟩
      · refine Tr.iconst (pc := 141) d_X5_order_141 (by decide) ?_
        refine Tr.goto (pc := 142) (tgt := 146) d_X5_order_142 rfl ?_
        exact Tr.zret (pc := 146) d_X5_order_146 rfl (by omega) ⟨hS, _, rfl, by omega, by omega, fun _ => ((St.kp h135 (by decide) (by decide) (by decide)).trans ((St.kp h126 (by decide) (by decide) (by decide)).trans en_6_6))⟩
  · refine Tr.tp 9 c9 ?_
    refine Tr.tswIn (pc := 9) (off := 138) (tgt := 147) d_X5_order_9 (by decide) (by decide) rfl rfl ?_
    refine Tr.aload_n (pc := 147) (i := 0) d_X5_order_147 rfl rfl ?_
    refine Tr.callV (pc := 148) (as := []) d_X5_order_148 s_5_174 ok_X5_sum rfl rfl (Nat.le_of_ble_eq_true rfl) (Nat.le_of_ble_eq_true rfl) (by decide) (ty_6 hS.1.1) ?_
    refine Tr.imp (Tr.deep (by decide) (sp_X5_sum_6_w6 hS.1 hE ((St.kp hS (by decide) (by decide) (by decide)).trans en_6_2) ((St.kp hS (by decide) (by decide) (by decide)).trans en_6_3) ((St.kp hS (by decide) (by decide) (by decide)).trans en_6_4) en_6_6)) ?_
    rintro M148 _ ⟨h148, r148, rfl, lr148, ur148, x148_6_6⟩
    have hS := St.tr hS h148 (by decide) (by decide)
    refine Tr.sc [(0, r148)] rfl ?_
    refine Tr.if_eq (pc := 151) (tgt := 167) d_X5_order_151 rfl (fun c151 => ?_) (fun c151 => ?_)
    · refine Tr.iconst (pc := 167) d_X5_order_167 (by decide) ?_
      exact Tr.zret (pc := 168) d_X5_order_168 rfl (by omega) ⟨hS, _, rfl, by omega, by omega, fun hq => absurd hq (by omega)⟩
    · refine Tr.aload_n (pc := 154) (i := 0) d_X5_order_154 rfl rfl ?_
      refine Tr.bipush (pc := 155) d_X5_order_155 rfl (by decide) ?_
      refine Tr.callV (pc := 157) (as := [_]) d_X5_order_157 s_5_81 ok_X5_takeSign rfl rfl (Nat.le_of_ble_eq_true rfl) (Nat.le_of_ble_eq_true rfl) (by decide) (ty_6 hS.1.1) ?_
      refine Tr.imp (Tr.deep (by decide) (sp_X5_takeSign_6 hS.1 ((St.kp hS (by decide) (by decide) (by decide)).trans en_6_2) 59 (by omega))) ?_
      rintro M157 _ ⟨h157, r157, rfl, lr157, ur157⟩
      have hS := St.tr hS h157 (by decide) (by decide)
      refine Tr.sc [(0, r157)] rfl ?_
      refine Tr.if_eq (pc := 160) (tgt := 167) d_X5_order_160 rfl (fun c160 => ?_) (fun c160 => ?_)
      · refine Tr.iconst (pc := 167) d_X5_order_167 (by decide) ?_
        exact Tr.zret (pc := 168) d_X5_order_168 rfl (by omega) ⟨hS, _, rfl, by omega, by omega, fun hq => absurd hq (by omega)⟩
      · refine Tr.iconst (pc := 163) d_X5_order_163 (by decide) ?_
        refine Tr.goto (pc := 164) (tgt := 168) d_X5_order_164 rfl ?_
        exact Tr.zret (pc := 168) d_X5_order_168 rfl (by omega) ⟨hS, _, rfl, by omega, by omega, fun _ => ((St.kp h157 (by decide) (by decide) (by decide)).trans (x148_6_6 (by omega)))⟩
  · refine Tr.tp 10 c9 ?_
    refine Tr.tswIn (pc := 9) (off := 138) (tgt := 147) d_X5_order_9 (by decide) (by decide) rfl rfl ?_
    refine Tr.aload_n (pc := 147) (i := 0) d_X5_order_147 rfl rfl ?_
    refine Tr.callV (pc := 148) (as := []) d_X5_order_148 s_5_174 ok_X5_sum rfl rfl (Nat.le_of_ble_eq_true rfl) (Nat.le_of_ble_eq_true rfl) (by decide) (ty_6 hS.1.1) ?_
    refine Tr.imp (Tr.deep (by decide) (sp_X5_sum_6_w6 hS.1 hE ((St.kp hS (by decide) (by decide) (by decide)).trans en_6_2) ((St.kp hS (by decide) (by decide) (by decide)).trans en_6_3) ((St.kp hS (by decide) (by decide) (by decide)).trans en_6_4) en_6_6)) ?_
    rintro M148 _ ⟨h148, r148, rfl, lr148, ur148, x148_6_6⟩
    have hS := St.tr hS h148 (by decide) (by decide)
    refine Tr.sc [(0, r148)] rfl ?_
    refine Tr.if_eq (pc := 151) (tgt := 167) d_X5_order_151 rfl (fun c151 => ?_) (fun c151 => ?_)
    · refine Tr.iconst (pc := 167) d_X5_order_167 (by decide) ?_
      exact Tr.zret (pc := 168) d_X5_order_168 rfl (by omega) ⟨hS, _, rfl, by omega, by omega, fun hq => absurd hq (by omega)⟩
    · refine Tr.aload_n (pc := 154) (i := 0) d_X5_order_154 rfl rfl ?_
      refine Tr.bipush (pc := 155) d_X5_order_155 rfl (by decide) ?_
      refine Tr.callV (pc := 157) (as := [_]) d_X5_order_157 s_5_81 ok_X5_takeSign rfl rfl (Nat.le_of_ble_eq_true rfl) (Nat.le_of_ble_eq_true rfl) (by decide) (ty_6 hS.1.1) ?_
      refine Tr.imp (Tr.deep (by decide) (sp_X5_takeSign_6 hS.1 ((St.kp hS (by decide) (by decide) (by decide)).trans en_6_2) 59 (by omega))) ?_
      rintro M157 _ ⟨h157, r157, rfl, lr157, ur157⟩
      have hS := St.tr hS h157 (by decide) (by decide)
      refine Tr.sc [(0, r157)] rfl ?_
      refine Tr.if_eq (pc := 160) (tgt := 167) d_X5_order_160 rfl (fun c160 => ?_) (fun c160 => ?_)
      · refine Tr.iconst (pc := 167) d_X5_order_167 (by decide) ?_
        exact Tr.zret (pc := 168) d_X5_order_168 rfl (by omega) ⟨hS, _, rfl, by omega, by omega, fun hq => absurd hq (by omega)⟩
      · refine Tr.iconst (pc := 163) d_X5_order_163 (by decide) ?_
        refine Tr.goto (pc := 164) (tgt := 168) d_X5_order_164 rfl ?_
        exact Tr.zret (pc := 168) d_X5_order_168 rfl (by omega) ⟨hS, _, rfl, by omega, by omega, fun _ => ((St.kp h157 (by decide) (by decide) (by decide)).trans (x148_6_6 (by omega)))⟩
  · refine Tr.tp 11 c9 ?_
    refine Tr.tswIn (pc := 9) (off := 160) (tgt := 169) d_X5_order_9 (by decide) (by decide) rfl rfl ?_
    refine Tr.aload_n (pc := 169) (i := 0) d_X5_order_169 rfl rfl ?_
    refine Tr.callV (pc := 170) (as := []) d_X5_order_170 s_5_177 ok_X5_test rfl rfl (Nat.le_of_ble_eq_true rfl) (Nat.le_of_ble_eq_true rfl) (by decide) (ty_6 hS.1.1) ?_
    refine Tr.imp (Tr.deep (by decide) (sp_X5_test_6_w6 hS.1 hE ((St.kp hS (by decide) (by decide) (by decide)).trans en_6_2) ((St.kp hS (by decide) (by decide) (by decide)).trans en_6_3) ((St.kp hS (by decide) (by decide) (by decide)).trans en_6_4) en_6_6)) ?_
    rintro M170 _ ⟨h170, r170, rfl, lr170, ur170, x170_6_6⟩
    have hS := St.tr hS h170 (by decide) (by decide)
    refine Tr.sc [(0, r170)] rfl ?_
    refine Tr.if_eq (pc := 173) (tgt := 196) d_X5_order_173 rfl (fun c173 => ?_) (fun c173 => ?_)
    · refine Tr.iconst (pc := 196) d_X5_order_196 (by decide) ?_
      exact Tr.zret (pc := 197) d_X5_order_197 rfl (by omega) ⟨hS, _, rfl, by omega, by omega, fun hq => absurd hq (by omega)⟩
    · refine Tr.aload_n (pc := 176) (i := 0) d_X5_order_176 rfl rfl ?_
      refine Tr.iload_n (pc := 177) (i := 1) d_X5_order_177 rfl rfl ?_
      refine Tr.callV (pc := 178) (as := [_]) d_X5_order_178 s_5_180 ok_X5_yesBlock rfl rfl (Nat.le_of_ble_eq_true rfl) (Nat.le_of_ble_eq_true rfl) (by decide) (ty_6 hS.1.1) ?_
      refine Tr.imp (Tr.deep (by decide) (sp_X5_yesBlock_6_w6 hS.1 hE ((St.kp hS (by decide) (by decide) (by decide)).trans en_6_2) ((St.kp hS (by decide) (by decide) (by decide)).trans en_6_3) ((St.kp hS (by decide) (by decide) (by decide)).trans en_6_4) (x170_6_6 (by omega)) a1 (by omega))) ?_
      rintro M178 _ ⟨h178, r178, rfl, lr178, ur178, x178_6_6⟩
      have hS := St.tr hS h178 (by decide) (by decide)
      refine Tr.sc [(0, r178)] rfl ?_
      refine Tr.if_eq (pc := 181) (tgt := 196) d_X5_order_181 rfl (fun c181 => ?_) (fun c181 => ?_)
      · refine Tr.iconst (pc := 196) d_X5_order_196 (by decide) ?_
        exact Tr.zret (pc := 197) d_X5_order_197 rfl (by omega) ⟨hS, _, rfl, by omega, by omega, fun hq => absurd hq (by omega)⟩
      · refine Tr.aload_n (pc := 184) (i := 0) d_X5_order_184 rfl rfl ?_
        refine Tr.iload_n (pc := 185) (i := 1) d_X5_order_185 rfl rfl ?_
        refine Tr.callV (pc := 186) (as := [_]) d_X5_order_186 s_5_183 ok_X5_noBlock rfl rfl (Nat.le_of_ble_eq_true rfl) (Nat.le_of_ble_eq_true rfl) (by decide) (ty_6 hS.1.1) ?_
        refine Tr.imp (Tr.deep (by decide) (sp_X5_noBlock_6_w1 hS.1 hE ((St.kp hS (by decide) (by decide) (by decide)).trans en_6_2) ((St.kp hS (by decide) (by decide) (by decide)).trans en_6_3) ((St.kp hS (by decide) (by decide) (by decide)).trans en_6_4) (x178_6_6 (by omega)) a1 (by omega))) ?_
        rintro M186 _ ⟨h186, r186, rfl, lr186, ur186, x186_6_6⟩
        have hS := St.tr hS h186 (by decide) (by decide)
        refine Tr.sc [(0, r186)] rfl ?_
        refine Tr.if_eq (pc := 189) (tgt := 196) d_X5_order_189 rfl (fun c189 => ?_) (fun c189 => ?_)
        · refine Tr.iconst (pc := 196) d_X5_order_196 (by decide) ?_
          exact Tr.zret (pc := 197) d_X5_order_197 rfl (by omega) ⟨hS, _, rfl, by omega, by omega, fun hq => absurd hq (by omega)⟩
        · refine Tr.iconst (pc := 192) d_X5_order_192 (by decide) ?_
          refine Tr.goto (pc := 193) (tgt := 197) d_X5_order_193 rfl ?_
          exact Tr.zret (pc := 197) d_X5_order_197 rfl (by omega) ⟨hS, _, rfl, by omega, by omega, fun _ => (x186_6_6 (by omega))⟩
end
/-! 34.15 -/
section
def ws_X5_orders_6_w6 : List (Int × Int) := [(6, 0), (6, 1), (6, 5), (6, 6), (35, 0), (35, 11)]
def as_X5_orders_6_w6 : List Int := [36, 37, 38, 39, 40, 41, 42, 44, 45]
def q_X5_orders_6_w6 (M0 M' : Mem) (r : Option PV) : Prop := St Tru ws_X5_orders_6_w6 as_X5_orders_6_w6 M0 M' ∧ ∃ v : Int, r = some (0, v) ∧ (-2) ≤ v ∧ v ≤ 59 ∧ (((-1) ≤ v ∧ v ≤ 1000000) → rd M' 6 6 = 6)
set_option maxRecDepth 100000 in
set_option maxHeartbeats 4000000 in
theorem sp_X5_orders_6_w6 {l : Launch} {K : EC} {M0 : Mem} {xq : Int} (hI : In Tru M0) (hE : e_all K xq) (en_6_2 : rd M0 6 2 = 2) (en_6_3 : rd M0 6 3 = 27) (en_6_4 : rd M0 6 4 = 35) (en_6_6 : rd M0 6 6 = 6) (a1 : Int) (ha1 : 0 ≤ a1 ∧ a1 ≤ 59)  : Tr l K 19 mX5_orders 0 [(0, (2, 6)), (1, (0, a1))] [] M0 (q_X5_orders_6_w6 M0) := by
  have hS : St Tru ws_X5_orders_6_w6 as_X5_orders_6_w6 M0 M0 := St.rf hI
  refine Tr.iconst (pc := 0) d_X5_orders_0 (by decide) ?_
  refine Tr.istore_n (pc := 1) (i := 2) (ls2 := [(2, (0, (-1))), (0, (2, 6)), (1, (0, a1))]) d_X5_orders_1 rfl (by decide) rfl ?_
  refine Tr.iconst (pc := 2) d_X5_orders_2 (by decide) ?_
  refine Tr.istore_n (pc := 3) (i := 3) (ls2 := [(3, (0, (-1))), (2, (0, (-1))), (0, (2, 6)), (1, (0, a1))]) d_X5_orders_3 rfl (by decide) rfl ?_
  refine Tr.iconst (pc := 4) d_X5_orders_4 (by decide) ?_
  refine Tr.istore (pc := 5) (i := 4) (ls2 := [(4, (0, 0)), (3, (0, (-1))), (2, (0, (-1))), (0, (2, 6)), (1, (0, a1))]) d_X5_orders_5 (by decide) rfl ?_
  have J7 : ∀ (n7 : Nat) (M : Mem) (p7_2 p7_3 p7_4 : Int), St Tru ws_X5_orders_6_w6 as_X5_orders_6_w6 M0 M → ((-1) ≤ p7_2 ∧ p7_2 ≤ 59) → ((-1) ≤ p7_3 ∧ p7_3 ≤ 59) → (0 ≤ p7_4 ∧ p7_4 ≤ 61) → rd M 6 6 = 6 → (61 - p7_4).toNat < n7 → Tr l K 19 mX5_orders 7 [(0, (2, 6)), (1, (0, a1)), (2, (0, p7_2)), (3, (0, p7_3)), (4, (0, p7_4))] [] M (q_X5_orders_6_w6 M0) := by
    intro n7
    induction n7 with
    | zero => intro M p7_2 p7_3 p7_4 hS bp7_2 bp7_3 bp7_4 k7_6_6 hm7; exact absurd hm7 (Nat.not_lt_zero _)
    | succ n7 J7 =>
      intro M p7_2 p7_3 p7_4 hS bp7_2 bp7_3 bp7_4 k7_6_6 hm7
      refine Tr.iload (pc := 7) (i := 4) d_X5_orders_7 rfl ?_
      refine Tr.bipush (pc := 9) d_X5_orders_9 rfl (by decide) ?_
      refine Tr.icmp_gt (pc := 11) (tgt := 111) d_X5_orders_11 rfl (fun c11 => ?_) (fun c11 => ?_)
      · refine Tr.iload_n (pc := 111) (i := 2) d_X5_orders_111 rfl rfl ?_
        exact Tr.iret (pc := 112) d_X5_orders_112 rfl ⟨hS, _, rfl, by omega, by omega, fun _ => k7_6_6⟩
      · refine Tr.aload_n (pc := 14) (i := 0) d_X5_orders_14 rfl rfl ?_
        refine Tr.callV (pc := 15) (as := []) d_X5_orders_15 s_5_154 ok_X5_isOrder rfl rfl (Nat.le_of_ble_eq_true rfl) (Nat.le_of_ble_eq_true rfl) (by decide) (ty_6 hS.1.1) ?_
        refine Tr.imp (Tr.deep (by decide) (sp_X5_isOrder_6 hS.1 ((St.kp hS (by decide) (by decide) (by decide)).trans en_6_2))) ?_
        rintro M15 _ ⟨h15, r15, rfl, lr15, ur15⟩
        have hS := St.tr hS h15 (by decide) (by decide)
        refine Tr.sc [(0, r15)] rfl ?_
        refine Tr.if_eq (pc := 18) (tgt := 111) d_X5_orders_18 rfl (fun c18 => ?_) (fun c18 => ?_)
        · refine Tr.iload_n (pc := 111) (i := 2) d_X5_orders_111 rfl rfl ?_
          exact Tr.iret (pc := 112) d_X5_orders_112 rfl ⟨hS, _, rfl, by omega, by omega, fun _ => ((St.kp h15 (by decide) (by decide) (by decide)).trans k7_6_6)⟩
        · refine Tr.aload_n (pc := 21) (i := 0) d_X5_orders_21 rfl rfl ?_
          refine Tr.getf (pc := 22) d_X5_orders_22 f_5_32 (by decide) (by decide) (ty_6 hS.1.1) ?_
          refine Tr.tp 35 ((St.kp hS (by decide) (by decide) (by decide)).trans en_6_4) ?_
          refine Tr.getf (pc := 25) d_X5_orders_25 f_5_157 (by decide) (by decide) (ty_35 hS.1.1) ?_
          refine Tr.gen (P := fun v => 0 ≤ v ∧ v ≤ 60) (ir_35_0 hS.1.2.1) (fun r25 er25 br25 => ?_)
          refine Tr.bipush (pc := 28) d_X5_orders_28 rfl (by decide) ?_
          refine Tr.icmp_lt (pc := 30) (tgt := 42) d_X5_orders_30 rfl (fun c30 => ?_) (fun c30 => ?_)
          · refine Tr.aload_n (pc := 42) (i := 0) d_X5_orders_42 rfl rfl ?_
            refine Tr.getf (pc := 43) d_X5_orders_43 f_5_32 (by decide) (by decide) (ty_6 hS.1.1) ?_
            refine Tr.tp 35 ((St.kp hS (by decide) (by decide) (by decide)).trans en_6_4) ?_
            refine Tr.aload_n (pc := 46) (i := 0) d_X5_orders_46 rfl rfl ?_
            refine Tr.getf (pc := 47) d_X5_orders_47 f_5_18 (by decide) (by decide) (ty_6 hS.1.1) ?_
            refine Tr.tp 2 ((St.kp hS (by decide) (by decide) (by decide)).trans en_6_2) ?_
            refine Tr.getf (pc := 50) d_X5_orders_50 f_5_68 (by decide) (by decide) (ty_2 hS.1.1) ?_
            refine Tr.tp 5 (fx_2_2 hS.1.1) ?_
            refine Tr.aload_n (pc := 53) (i := 0) d_X5_orders_53 rfl rfl ?_
            refine Tr.getf (pc := 54) d_X5_orders_54 f_5_36 (by decide) (by decide) (ty_6 hS.1.1) ?_
            refine Tr.gen (P := fun v => 0 ≤ v ∧ v ≤ 900) (ir_6_5 hS.1.2.1) (fun r54 er54 br54 => ?_)
            refine Tr.iald (pc := 57) d_X5_orders_57 (ty_5 hS.1.1) (by omega) (by omega) ?_
            refine Tr.gen (P := fun v => (-2147483648) ≤ v ∧ v ≤ 2147483647) (ar_5 hS.1.2.1 _) (fun r57 er57 br57 => ?_)
            refine Tr.iload_n (pc := 58) (i := 1) d_X5_orders_58 rfl rfl ?_
            refine Tr.callV (pc := 59) (as := [_, _]) d_X5_orders_59 s_5_160 ok_X4_open rfl rfl (Nat.le_of_ble_eq_true rfl) (Nat.le_of_ble_eq_true rfl) (by decide) (ty_35 hS.1.1) ?_
            refine Tr.imp (Tr.deep (by decide) (sp_X4_open_35_w1 hS.1 r57 (by omega) a1 (by omega) (by have h9 := er25; omega))) ?_
            rintro M59 _ ⟨h59, r59, rfl, lr59, ur59⟩
            have hS := St.tr hS h59 (by decide) (by decide)
            refine Tr.sc [(0, r59)] rfl ?_
            refine Tr.istore (pc := 62) (i := 5) (ls2 := [(5, (0, r59)), (0, (2, 6)), (1, (0, a1)), (2, (0, p7_2)), (3, (0, p7_3)), (4, (0, p7_4))]) d_X5_orders_62 (by decide) rfl ?_
            refine Tr.iload_n (pc := 64) (i := 3) d_X5_orders_64 rfl rfl ?_
            have J85 : ∀ (M : Mem) (p85_2 : Int), St Tru ws_X5_orders_6_w6 as_X5_orders_6_w6 M0 M → ((-1) ≤ p85_2 ∧ p85_2 ≤ 59) → rd M 5 r54 = r57 → rd M 6 5 = r54 → rd M 6 6 = 6 → Tr l K 19 mX5_orders 85 [(0, (2, 6)), (1, (0, a1)), (2, (0, p85_2)), (4, (0, p7_4)), (5, (0, r59))] [] M (q_X5_orders_6_w6 M0) := by
              intro M p85_2 hS bp85_2 k85_5_r5410 k85_6_5 k85_6_6
              refine Tr.iload (pc := 85) (i := 5) d_X5_orders_85 rfl ?_
              refine Tr.istore_n (pc := 87) (i := 3) (ls2 := [(3, (0, r59)), (0, (2, 6)), (1, (0, a1)), (2, (0, p85_2)), (4, (0, p7_4)), (5, (0, r59))]) d_X5_orders_87 rfl (by decide) rfl ?_
              refine Tr.aload_n (pc := 88) (i := 0) d_X5_orders_88 rfl rfl ?_
              refine Tr.callV (pc := 89) (as := []) d_X5_orders_89 s_5_74 ok_X5_goOn rfl rfl (Nat.le_of_ble_eq_true rfl) (Nat.le_of_ble_eq_true rfl) (by decide) (ty_6 hS.1.1) ?_
              refine Tr.imp (Tr.deep (by decide) (sp_X5_goOn_6 hS.1 )) ?_
              rintro M89 _ ⟨h89, r89, rfl, lr89, ur89⟩
              have hS := St.tr hS h89 (by decide) (by decide)
              refine Tr.sc [(0, r89)] rfl ?_
              refine Tr.pop (pc := 92) d_X5_orders_92 ne01 ?_
              refine Tr.aload_n (pc := 93) (i := 0) d_X5_orders_93 rfl rfl ?_
              refine Tr.iload (pc := 94) (i := 5) d_X5_orders_94 rfl ?_
              refine Tr.callV (pc := 96) (as := [_]) d_X5_orders_96 s_5_166 ok_X5_order rfl rfl (Nat.le_of_ble_eq_true rfl) (Nat.le_of_ble_eq_true rfl) (by decide) (ty_6 hS.1.1) ?_
              refine Tr.imp (Tr.deep (by decide) (sp_X5_order_6_w6 hS.1 hE ((St.kp hS (by decide) (by decide) (by decide)).trans en_6_2) ((St.kp hS (by decide) (by decide) (by decide)).trans en_6_3) ((St.kp hS (by decide) (by decide) (by decide)).trans en_6_4) ((St.kp h89 (by decide) (by decide) (by decide)).trans k85_6_6) r59 (by omega))) ?_
              rintro M96 _ ⟨h96, r96, rfl, lr96, ur96, x96_6_6⟩
              have hS := St.tr hS h96 (by decide) (by decide)
              refine Tr.sc [(0, r96)] rfl ?_
              refine Tr.if_ne (pc := 99) (tgt := 105) d_X5_orders_99 rfl (fun c99 => ?_) (fun c99 => ?_)
              · refine Tr.iincV (pc := 105) (n2 := (p7_4 + 1)) (ls2 := [(4, (0, (p7_4 + 1))), (3, (0, r59)), (0, (2, 6)), (1, (0, a1)), (2, (0, p85_2)), (5, (0, r59))]) d_X5_orders_105 rfl (by decide) ((w32_id (by omega)).trans (by omega)) rfl ?_
                refine Tr.goto (pc := 108) (tgt := 7) d_X5_orders_108 rfl ?_
                refine Tr.pick [2, 3, 4, 1, 0] (ls2 := [(0, (2, 6)), (1, (0, a1)), (2, (0, p85_2)), (3, (0, r59)), (4, (0, (p7_4 + 1)))]) rfl ?_
                exact J7 _ _ _ _ hS (by omega) (by omega) (by omega) (x96_6_6 (by omega)) (by omega)
              · refine Tr.bipush (pc := 102) d_X5_orders_102 rfl (by decide) ?_
                exact Tr.iret (pc := 104) d_X5_orders_104 rfl ⟨hS, _, rfl, by omega, by omega, fun hq => absurd hq (by omega)⟩
            refine Tr.if_ge (pc := 65) (tgt := 74) d_X5_orders_65 rfl (fun c65 => ?_) (fun c65 => ?_)
            · refine Tr.aload_n (pc := 74) (i := 0) d_X5_orders_74 rfl rfl ?_
              refine Tr.getf (pc := 75) d_X5_orders_75 f_5_32 (by decide) (by decide) (ty_6 hS.1.1) ?_
              refine Tr.tp 35 ((St.kp hS (by decide) (by decide) (by decide)).trans en_6_4) ?_
              refine Tr.getf (pc := 78) d_X5_orders_78 f_5_163 (by decide) (by decide) (ty_35 hS.1.1) ?_
              refine Tr.tp 41 (fx_35_6 hS.1.1) ?_
              refine Tr.iload_n (pc := 81) (i := 3) d_X5_orders_81 rfl rfl ?_
              refine Tr.iload (pc := 82) (i := 5) d_X5_orders_82 rfl ?_
              refine Tr.iastS (pc := 84) (P := St Tru ws_X5_orders_6_w6 as_X5_orders_6_w6 M0) d_X5_orders_84 (ty_41 hS.1.1) (by omega) (by omega) (sa_41 hS (by decide) (by omega) trivial) (fun M84 hS w84 => ?_)
              refine Tr.pick [1, 2, 3, 5, 0] (ls2 := [(0, (2, 6)), (1, (0, a1)), (2, (0, p7_2)), (4, (0, p7_4)), (5, (0, r59))]) rfl ?_
              exact J85 _ _ hS (by omega) ((Wr.b w84 rfl).trans ((St.ka h59 (by decide) (by decide) (by decide)).trans er57)) ((Wr.b w84 rfl).trans ((St.kp h59 (by decide) (by decide) (by decide)).trans er54)) ((Wr.b w84 rfl).trans ((St.kp h59 (by decide) (by decide) (by decide)).trans ((St.kp h15 (by decide) (by decide) (by decide)).trans k7_6_6)))
            · refine Tr.iload (pc := 68) (i := 5) d_X5_orders_68 rfl ?_
              refine Tr.istore_n (pc := 70) (i := 2) (ls2 := [(2, (0, r59)), (5, (0, r59)), (0, (2, 6)), (1, (0, a1)), (3, (0, p7_3)), (4, (0, p7_4))]) d_X5_orders_70 rfl (by decide) rfl ?_
              refine Tr.goto (pc := 71) (tgt := 85) d_X5_orders_71 rfl ?_
              refine Tr.pick [2, 3, 0, 5, 1] (ls2 := [(0, (2, 6)), (1, (0, a1)), (2, (0, r59)), (4, (0, p7_4)), (5, (0, r59))]) rfl ?_
              exact J85 _ _ hS (by omega) ((St.ka h59 (by decide) (by decide) (by decide)).trans er57) ((St.kp h59 (by decide) (by decide) (by decide)).trans er54) ((St.kp h59 (by decide) (by decide) (by decide)).trans ((St.kp h15 (by decide) (by decide) (by decide)).trans k7_6_6))
          · refine Tr.aload_n (pc := 33) (i := 0) d_X5_orders_33 rfl rfl ?_
            refine Tr.iconst (pc := 34) d_X5_orders_34 (by decide) ?_
            refine Tr.callV (pc := 35) (as := [_]) d_X5_orders_35 s_5_56 ok_X5_refuse rfl rfl (Nat.le_of_ble_eq_true rfl) (Nat.le_of_ble_eq_true rfl) (by decide) (ty_6 hS.1.1) ?_
            refine Tr.imp (Tr.deep (by decide) (sp_X5_refuse_6_w2 hS.1 ((St.kp hS (by decide) (by decide) (by decide)).trans en_6_2) 5 (by omega))) ?_
            rintro M35 _ ⟨h35, r35, rfl, lr35, ur35⟩
            have hS := St.tr hS h35 (by decide) (by decide)
            refine Tr.sc [(0, r35)] rfl ?_
            refine Tr.pop (pc := 38) d_X5_orders_38 ne01 ?_
            refine Tr.bipush (pc := 39) d_X5_orders_39 rfl (by decide) ?_
            exact Tr.iret (pc := 41) d_X5_orders_41 rfl ⟨hS, _, rfl, by omega, by omega, fun hq => absurd hq (by omega)⟩
  refine Tr.pick [3, 4, 2, 1, 0] (ls2 := [(0, (2, 6)), (1, (0, a1)), (2, (0, (-1))), (3, (0, (-1))), (4, (0, 0))]) rfl ?_
  exact J7 _ _ _ _ _ hS (by omega) (by omega) (by omega) en_6_6 (Nat.lt_succ_self _)

def ws_X5_block_6_w5 : List (Int × Int) := [(6, 0), (6, 1), (6, 5), (6, 6), (35, 0), (35, 11)]
def as_X5_block_6_w5 : List Int := [36, 37, 38, 39, 40, 41, 42, 44, 45]
def q_X5_block_6_w5 (M0 M' : Mem) (r : Option PV) : Prop := St Tru ws_X5_block_6_w5 as_X5_block_6_w5 M0 M' ∧ ∃ v : Int, r = some (0, v) ∧ (-2) ≤ v ∧ v ≤ 59 ∧ (((-1) ≤ v ∧ v ≤ 1000000) → rd M' 6 6 = 5)
set_option maxRecDepth 100000 in
set_option maxHeartbeats 4000000 in
theorem sp_X5_block_6_w5 {l : Launch} {K : EC} {M0 : Mem} {xq : Int} (hI : In Tru M0) (hE : e_all K xq) (en_6_2 : rd M0 6 2 = 2) (en_6_3 : rd M0 6 3 = 27) (en_6_4 : rd M0 6 4 = 35) (en_6_6 : rd M0 6 6 = 5) (a1 : Int) (ha1 : 0 ≤ a1 ∧ a1 ≤ 59)  : Tr l K 20 mX5_block 0 [(0, (2, 6)), (1, (0, a1))] [] M0 (q_X5_block_6_w5 M0) := by
  have hS : St Tru ws_X5_block_6_w5 as_X5_block_6_w5 M0 M0 := St.rf hI
  refine Tr.aload_n (pc := 0) (i := 0) d_X5_block_0 rfl rfl ?_
  refine Tr.bipush (pc := 1) d_X5_block_1 rfl (by decide) ?_
  refine Tr.callV (pc := 3) (as := [_]) d_X5_block_3 s_5_206 ok_X5_takeOpening rfl rfl (Nat.le_of_ble_eq_true rfl) (Nat.le_of_ble_eq_true rfl) (by decide) (ty_6 hS.1.1) ?_
  refine Tr.imp (Tr.deep (by decide) (sp_X5_takeOpening_6_w23 hS.1 ((St.kp hS (by decide) (by decide) (by decide)).trans en_6_2) en_6_6 123 (by omega))) ?_
  rintro M3 _ ⟨h3, r3, rfl, lr3, ur3, x3_6_6⟩
  have hS := St.tr hS h3 (by decide) (by decide)
  refine Tr.sc [(0, r3)] rfl ?_
  refine Tr.if_ne (pc := 6) (tgt := 12) d_X5_block_6 rfl (fun c6 => ?_) (fun c6 => ?_)
  · refine Tr.aload_n (pc := 12) (i := 0) d_X5_block_12 rfl rfl ?_
    refine Tr.iload_n (pc := 13) (i := 1) d_X5_block_13 rfl rfl ?_
    refine Tr.callV (pc := 14) (as := [_]) d_X5_block_14 s_5_46 ok_X5_orders rfl rfl (Nat.le_of_ble_eq_true rfl) (Nat.le_of_ble_eq_true rfl) (by decide) (ty_6 hS.1.1) ?_
    refine Tr.imp (Tr.deep (by decide) (sp_X5_orders_6_w6 hS.1 hE ((St.kp hS (by decide) (by decide) (by decide)).trans en_6_2) ((St.kp hS (by decide) (by decide) (by decide)).trans en_6_3) ((St.kp hS (by decide) (by decide) (by decide)).trans en_6_4) (x3_6_6 (by omega)) a1 (by omega))) ?_
    rintro M14 _ ⟨h14, r14, rfl, lr14, ur14, x14_6_6⟩
    have hS := St.tr hS h14 (by decide) (by decide)
    refine Tr.sc [(0, r14)] rfl ?_
    refine Tr.istore_n (pc := 17) (i := 2) (ls2 := [(2, (0, r14)), (0, (2, 6)), (1, (0, a1))]) d_X5_block_17 rfl (by decide) rfl ?_
    refine Tr.iload_n (pc := 18) (i := 2) d_X5_block_18 rfl rfl ?_
    refine Tr.bipush (pc := 19) d_X5_block_19 rfl (by decide) ?_
    refine Tr.icmp_eq (pc := 21) (tgt := 33) d_X5_block_21 rfl (fun c21 => ?_) (fun c21 => ?_)
    · refine Tr.bipush (pc := 33) d_X5_block_33 rfl (by decide) ?_
      exact Tr.iret (pc := 35) d_X5_block_35 rfl ⟨hS, _, rfl, by omega, by omega, fun hq => absurd hq (by omega)⟩
    · refine Tr.aload_n (pc := 24) (i := 0) d_X5_block_24 rfl rfl ?_
      refine Tr.bipush (pc := 25) d_X5_block_25 rfl (by decide) ?_
      refine Tr.callV (pc := 27) (as := [_]) d_X5_block_27 s_5_209 ok_X5_takeClosing rfl rfl (Nat.le_of_ble_eq_true rfl) (Nat.le_of_ble_eq_true rfl) (by decide) (ty_6 hS.1.1) ?_
      refine Tr.imp (Tr.deep (by decide) (sp_X5_takeClosing_6_w18 hS.1 ((St.kp hS (by decide) (by decide) (by decide)).trans en_6_2) (x14_6_6 (by omega)) 125 (by omega))) ?_
      rintro M27 _ ⟨h27, r27, rfl, lr27, ur27, x27_6_6⟩
      have hS := St.tr hS h27 (by decide) (by decide)
      refine Tr.sc [(0, r27)] rfl ?_
      refine Tr.if_ne (pc := 30) (tgt := 36) d_X5_block_30 rfl (fun c30 => ?_) (fun c30 => ?_)
      · refine Tr.iload_n (pc := 36) (i := 2) d_X5_block_36 rfl rfl ?_
        exact Tr.iret (pc := 37) d_X5_block_37 rfl ⟨hS, _, rfl, by omega, by omega, fun _ => (x27_6_6 (by omega))⟩
      · refine Tr.bipush (pc := 33) d_X5_block_33 rfl (by decide) ?_
        exact Tr.iret (pc := 35) d_X5_block_35 rfl ⟨hS, _, rfl, by omega, by omega, fun hq => absurd hq (by omega)⟩
  · refine Tr.bipush (pc := 9) d_X5_block_9 rfl (by decide) ?_
    exact Tr.iret (pc := 11) d_X5_block_11 rfl ⟨hS, _, rfl, by omega, by omega, fun hq => absurd hq (by omega)⟩

def ws_X5_yesBlock_6_w5 : List (Int × Int) := [(6, 0), (6, 1), (6, 5), (6, 6), (35, 0), (35, 11)]
def as_X5_yesBlock_6_w5 : List Int := [36, 37, 38, 39, 40, 41, 42, 44, 45]
def q_X5_yesBlock_6_w5 (M0 M' : Mem) (r : Option PV) : Prop := St Tru ws_X5_yesBlock_6_w5 as_X5_yesBlock_6_w5 M0 M' ∧ ∃ v : Int, r = some (0, v) ∧ 0 ≤ v ∧ v ≤ 1 ∧ ((1 ≤ v ∧ v ≤ 1) → rd M' 6 6 = 5)
set_option maxRecDepth 100000 in
set_option maxHeartbeats 4000000 in
theorem sp_X5_yesBlock_6_w5 {l : Launch} {K : EC} {M0 : Mem} {xq : Int} (hI : In Tru M0) (hE : e_all K xq) (en_6_2 : rd M0 6 2 = 2) (en_6_3 : rd M0 6 3 = 27) (en_6_4 : rd M0 6 4 = 35) (en_6_6 : rd M0 6 6 = 5) (a1 : Int) (ha1 : 0 ≤ a1 ∧ a1 ≤ 59)  : Tr l K 21 mX5_yesBlock 0 [(0, (2, 6)), (1, (0, a1))] [] M0 (q_X5_yesBlock_6_w5 M0) := by
  have hS : St Tru ws_X5_yesBlock_6_w5 as_X5_yesBlock_6_w5 M0 M0 := St.rf hI
  refine Tr.aload_n (pc := 0) (i := 0) d_X5_yesBlock_0 rfl rfl ?_
  refine Tr.iload_n (pc := 1) (i := 1) d_X5_yesBlock_1 rfl rfl ?_
  refine Tr.callV (pc := 2) (as := [_]) d_X5_yesBlock_2 s_5_197 ok_X5_block rfl rfl (Nat.le_of_ble_eq_true rfl) (Nat.le_of_ble_eq_true rfl) (by decide) (ty_6 hS.1.1) ?_
  refine Tr.imp (Tr.deep (by decide) (sp_X5_block_6_w5 hS.1 hE ((St.kp hS (by decide) (by decide) (by decide)).trans en_6_2) ((St.kp hS (by decide) (by decide) (by decide)).trans en_6_3) ((St.kp hS (by decide) (by decide) (by decide)).trans en_6_4) en_6_6 a1 (by omega))) ?_
  rintro M2 _ ⟨h2, r2, rfl, lr2, ur2, x2_6_6⟩
  have hS := St.tr hS h2 (by decide) (by decide)
  refine Tr.sc [(0, r2)] rfl ?_
  refine Tr.istore_n (pc := 5) (i := 2) (ls2 := [(2, (0, r2)), (0, (2, 6)), (1, (0, a1))]) d_X5_yesBlock_5 rfl (by decide) rfl ?_
  refine Tr.aload_n (pc := 6) (i := 0) d_X5_yesBlock_6 rfl rfl ?_
  refine Tr.getf (pc := 7) d_X5_yesBlock_7 f_5_32 (by decide) (by decide) (ty_6 hS.1.1) ?_
  refine Tr.tp 35 ((St.kp hS (by decide) (by decide) (by decide)).trans en_6_4) ?_
  refine Tr.getf (pc := 10) d_X5_yesBlock_10 f_5_200 (by decide) (by decide) (ty_35 hS.1.1) ?_
  refine Tr.tp 39 (fx_35_4 hS.1.1) ?_
  refine Tr.iload_n (pc := 13) (i := 1) d_X5_yesBlock_13 rfl rfl ?_
  refine Tr.iload_n (pc := 14) (i := 2) d_X5_yesBlock_14 rfl rfl ?_
  refine Tr.iastS (pc := 15) (P := St Tru ws_X5_yesBlock_6_w5 as_X5_yesBlock_6_w5 M0) d_X5_yesBlock_15 (ty_39 hS.1.1) (by omega) (by omega) (sa_39 hS (by decide) (by omega) trivial) (fun M15 hS w15 => ?_)
  refine Tr.iload_n (pc := 16) (i := 2) d_X5_yesBlock_16 rfl rfl ?_
  refine Tr.bipush (pc := 17) d_X5_yesBlock_17 rfl (by decide) ?_
  refine Tr.icmp_eq (pc := 19) (tgt := 26) d_X5_yesBlock_19 rfl (fun c19 => ?_) (fun c19 => ?_)
  · refine Tr.iconst (pc := 26) d_X5_yesBlock_26 (by decide) ?_
    exact Tr.zret (pc := 27) d_X5_yesBlock_27 rfl (by omega) ⟨hS, _, rfl, by omega, by omega, fun hq => absurd hq (by omega)⟩
  · refine Tr.iconst (pc := 22) d_X5_yesBlock_22 (by decide) ?_
    refine Tr.goto (pc := 23) (tgt := 27) d_X5_yesBlock_23 rfl ?_
    exact Tr.zret (pc := 27) d_X5_yesBlock_27 rfl (by omega) ⟨hS, _, rfl, by omega, by omega, fun _ => ((Wr.b w15 rfl).trans (x2_6_6 (by omega)))⟩

def ws_X5_noBlock_6_w2 : List (Int × Int) := [(6, 0), (6, 1), (6, 5), (6, 6), (35, 0), (35, 11)]
def as_X5_noBlock_6_w2 : List Int := [36, 37, 38, 39, 40, 41, 42, 44, 45]
def q_X5_noBlock_6_w2 (M0 M' : Mem) (r : Option PV) : Prop := St Tru ws_X5_noBlock_6_w2 as_X5_noBlock_6_w2 M0 M' ∧ ∃ v : Int, r = some (0, v) ∧ 0 ≤ v ∧ v ≤ 1 ∧ ((1 ≤ v ∧ v ≤ 1) → rd M' 6 6 = 5)
set_option maxRecDepth 100000 in
set_option maxHeartbeats 4000000 in
theorem sp_X5_noBlock_6_w2 {l : Launch} {K : EC} {M0 : Mem} {xq : Int} (hI : In Tru M0) (hE : e_all K xq) (en_6_2 : rd M0 6 2 = 2) (en_6_3 : rd M0 6 3 = 27) (en_6_4 : rd M0 6 4 = 35) (en_6_6 : rd M0 6 6 = 5) (a1 : Int) (ha1 : 0 ≤ a1 ∧ a1 ≤ 59)  : Tr l K 21 mX5_noBlock 0 [(0, (2, 6)), (1, (0, a1))] [] M0 (q_X5_noBlock_6_w2 M0) := by
  have hS : St Tru ws_X5_noBlock_6_w2 as_X5_noBlock_6_w2 M0 M0 := St.rf hI
  refine Tr.aload_n (pc := 0) (i := 0) d_X5_noBlock_0 rfl rfl ?_
  refine Tr.bipush (pc := 1) d_X5_noBlock_1 rfl (by decide) ?_
  refine Tr.callV (pc := 3) (as := [_]) d_X5_noBlock_3 s_5_71 ok_X5_isOwn rfl rfl (Nat.le_of_ble_eq_true rfl) (Nat.le_of_ble_eq_true rfl) (by decide) (ty_6 hS.1.1) ?_
  refine Tr.imp (Tr.deep (by decide) (sp_X5_isOwn_6 hS.1 ((St.kp hS (by decide) (by decide) (by decide)).trans en_6_2) 13 (by omega))) ?_
  rintro M3 _ ⟨h3, r3, rfl, lr3, ur3⟩
  have hS := St.tr hS h3 (by decide) (by decide)
  refine Tr.sc [(0, r3)] rfl ?_
  refine Tr.if_ne (pc := 6) (tgt := 11) d_X5_noBlock_6 rfl (fun c6 => ?_) (fun c6 => ?_)
  · refine Tr.aload_n (pc := 11) (i := 0) d_X5_noBlock_11 rfl rfl ?_
    refine Tr.callV (pc := 12) (as := []) d_X5_noBlock_12 s_5_74 ok_X5_goOn rfl rfl (Nat.le_of_ble_eq_true rfl) (Nat.le_of_ble_eq_true rfl) (by decide) (ty_6 hS.1.1) ?_
    refine Tr.imp (Tr.deep (by decide) (sp_X5_goOn_6 hS.1 )) ?_
    rintro M12 _ ⟨h12, r12, rfl, lr12, ur12⟩
    have hS := St.tr hS h12 (by decide) (by decide)
    refine Tr.sc [(0, r12)] rfl ?_
    refine Tr.pop (pc := 15) d_X5_noBlock_15 ne01 ?_
    refine Tr.aload_n (pc := 16) (i := 0) d_X5_noBlock_16 rfl rfl ?_
    refine Tr.iload_n (pc := 17) (i := 1) d_X5_noBlock_17 rfl rfl ?_
    refine Tr.callV (pc := 18) (as := [_]) d_X5_noBlock_18 s_5_197 ok_X5_block rfl rfl (Nat.le_of_ble_eq_true rfl) (Nat.le_of_ble_eq_true rfl) (by decide) (ty_6 hS.1.1) ?_
    refine Tr.imp (Tr.deep (by decide) (sp_X5_block_6_w5 hS.1 hE ((St.kp hS (by decide) (by decide) (by decide)).trans en_6_2) ((St.kp hS (by decide) (by decide) (by decide)).trans en_6_3) ((St.kp hS (by decide) (by decide) (by decide)).trans en_6_4) ((St.kp h12 (by decide) (by decide) (by decide)).trans ((St.kp h3 (by decide) (by decide) (by decide)).trans en_6_6)) a1 (by omega))) ?_
    rintro M18 _ ⟨h18, r18, rfl, lr18, ur18, x18_6_6⟩
    have hS := St.tr hS h18 (by decide) (by decide)
    refine Tr.sc [(0, r18)] rfl ?_
    refine Tr.istore_n (pc := 21) (i := 2) (ls2 := [(2, (0, r18)), (0, (2, 6)), (1, (0, a1))]) d_X5_noBlock_21 rfl (by decide) rfl ?_
    refine Tr.aload_n (pc := 22) (i := 0) d_X5_noBlock_22 rfl rfl ?_
    refine Tr.getf (pc := 23) d_X5_noBlock_23 f_5_32 (by decide) (by decide) (ty_6 hS.1.1) ?_
    refine Tr.tp 35 ((St.kp hS (by decide) (by decide) (by decide)).trans en_6_4) ?_
    refine Tr.getf (pc := 26) d_X5_noBlock_26 f_5_203 (by decide) (by decide) (ty_35 hS.1.1) ?_
    refine Tr.tp 40 (fx_35_5 hS.1.1) ?_
    refine Tr.iload_n (pc := 29) (i := 1) d_X5_noBlock_29 rfl rfl ?_
    refine Tr.iload_n (pc := 30) (i := 2) d_X5_noBlock_30 rfl rfl ?_
    refine Tr.iastS (pc := 31) (P := St Tru ws_X5_noBlock_6_w2 as_X5_noBlock_6_w2 M0) d_X5_noBlock_31 (ty_40 hS.1.1) (by omega) (by omega) (sa_40 hS (by decide) (by omega) trivial) (fun M31 hS w31 => ?_)
    refine Tr.iload_n (pc := 32) (i := 2) d_X5_noBlock_32 rfl rfl ?_
    refine Tr.bipush (pc := 33) d_X5_noBlock_33 rfl (by decide) ?_
    refine Tr.icmp_eq (pc := 35) (tgt := 42) d_X5_noBlock_35 rfl (fun c35 => ?_) (fun c35 => ?_)
    · refine Tr.iconst (pc := 42) d_X5_noBlock_42 (by decide) ?_
      exact Tr.zret (pc := 43) d_X5_noBlock_43 rfl (by omega) ⟨hS, _, rfl, by omega, by omega, fun hq => absurd hq (by omega)⟩
    · refine Tr.iconst (pc := 38) d_X5_noBlock_38 (by decide) ?_
      refine Tr.goto (pc := 39) (tgt := 43) d_X5_noBlock_39 rfl ?_
      exact Tr.zret (pc := 43) d_X5_noBlock_43 rfl (by omega) ⟨hS, _, rfl, by omega, by omega, fun _ => ((Wr.b w31 rfl).trans (x18_6_6 (by omega)))⟩
  · refine Tr.iconst (pc := 9) d_X5_noBlock_9 (by decide) ?_
    exact Tr.zret (pc := 10) d_X5_noBlock_10 rfl (by omega) ⟨hS, _, rfl, by omega, by omega, fun _ => ((St.kp h3 (by decide) (by decide) (by decide)).trans en_6_6)⟩

def ws_X5_order_6_w5 : List (Int × Int) := [(6, 0), (6, 1), (6, 5), (6, 6), (35, 0), (35, 11)]
def as_X5_order_6_w5 : List Int := [36, 37, 38, 39, 40, 41, 42, 44, 45]
def q_X5_order_6_w5 (M0 M' : Mem) (r : Option PV) : Prop := St Tru ws_X5_order_6_w5 as_X5_order_6_w5 M0 M' ∧ ∃ v : Int, r = some (0, v) ∧ 0 ≤ v ∧ v ≤ 1 ∧ ((1 ≤ v ∧ v ≤ 1) → rd M' 6 6 = 5)
set_option maxRecDepth 100000 in
set_option maxHeartbeats 4000000 in
theorem sp_X5_order_6_w5 {l : Launch} {K : EC} {M0 : Mem} {xq : Int} (hI : In Tru M0) (hE : e_all K xq) (en_6_2 : rd M0 6 2 = 2) (en_6_3 : rd M0 6 3 = 27) (en_6_4 : rd M0 6 4 = 35) (en_6_6 : rd M0 6 6 = 5) (a1 : Int) (ha1 : 0 ≤ a1 ∧ a1 ≤ 59)  : Tr l K 22 mX5_order 0 [(0, (2, 6)), (1, (0, a1))] [] M0 (q_X5_order_6_w5 M0) := by
  have hS : St Tru ws_X5_order_6_w5 as_X5_order_6_w5 M0 M0 := St.rf hI
  refine Tr.aload_n (pc := 0) (i := 0) d_X5_order_0 rfl rfl ?_
  refine Tr.getf (pc := 1) d_X5_order_1 f_5_32 (by decide) (by decide) (ty_6 hS.1.1) ?_
  refine Tr.tp 35 ((St.kp hS (by decide) (by decide) (by decide)).trans en_6_4) ?_
  refine Tr.getf (pc := 4) d_X5_order_4 f_5_169 (by decide) (by decide) (ty_35 hS.1.1) ?_
  refine Tr.tp 36 (fx_35_1 hS.1.1) ?_
  refine Tr.iload_n (pc := 7) (i := 1) d_X5_order_7 rfl rfl ?_
  refine Tr.iald (pc := 8) d_X5_order_8 (ty_36 hS.1.1) (by omega) (by omega) ?_
  refine Tr.gen (P := fun v => (-2147483648) ≤ v ∧ v ≤ 2147483647) (ar_36 hS.1.2.1 _) (fun r8 er8 br8 => ?_)
  rcases (show (r8 < 5 ∨ 11 < r8) ∨ r8 = 5 ∨ r8 = 6 ∨ r8 = 7 ∨ r8 = 8 ∨ r8 = 9 ∨ r8 = 10 ∨ r8 = 11 by omega) with c9 | c9 | c9 | c9 | c9 | c9 | c9 | c9
  · refine Tr.tswOut (pc := 9) (tgt := 198) d_X5_order_9 c9 rfl ?_
    refine Tr.aload_n (pc := 198) (i := 0) d_X5_order_198 rfl rfl ?_
    refine Tr.callV (pc := 199) (as := []) d_X5_order_199 s_5_177 ok_X5_test rfl rfl (Nat.le_of_ble_eq_true rfl) (Nat.le_of_ble_eq_true rfl) (by decide) (ty_6 hS.1.1) ?_
    refine Tr.imp (Tr.deep (by decide) (sp_X5_test_6_w5 hS.1 hE ((St.kp hS (by decide) (by decide) (by decide)).trans en_6_2) ((St.kp hS (by decide) (by decide) (by decide)).trans en_6_3) ((St.kp hS (by decide) (by decide) (by decide)).trans en_6_4) en_6_6)) ?_
    rintro M199 _ ⟨h199, r199, rfl, lr199, ur199, x199_6_6⟩
    have hS := St.tr hS h199 (by decide) (by decide)
    refine Tr.sc [(0, r199)] rfl ?_
    refine Tr.if_eq (pc := 202) (tgt := 217) d_X5_order_202 rfl (fun c202 => ?_) (fun c202 => ?_)
    · refine Tr.iconst (pc := 217) d_X5_order_217 (by decide) ?_
      exact Tr.zret (pc := 218) d_X5_order_218 rfl (by omega) ⟨hS, _, rfl, by omega, by omega, fun hq => absurd hq (by omega)⟩
    · refine Tr.aload_n (pc := 205) (i := 0) d_X5_order_205 rfl rfl ?_
      refine Tr.iload_n (pc := 206) (i := 1) d_X5_order_206 rfl rfl ?_
      refine Tr.callV (pc := 207) (as := [_]) d_X5_order_207 s_5_180 ok_X5_yesBlock rfl rfl (Nat.le_of_ble_eq_true rfl) (Nat.le_of_ble_eq_true rfl) (by decide) (ty_6 hS.1.1) ?_
      refine Tr.imp (Tr.deep (by decide) (sp_X5_yesBlock_6_w5 hS.1 hE ((St.kp hS (by decide) (by decide) (by decide)).trans en_6_2) ((St.kp hS (by decide) (by decide) (by decide)).trans en_6_3) ((St.kp hS (by decide) (by decide) (by decide)).trans en_6_4) (x199_6_6 (by omega)) a1 (by omega))) ?_
      rintro M207 _ ⟨h207, r207, rfl, lr207, ur207, x207_6_6⟩
      have hS := St.tr hS h207 (by decide) (by decide)
      refine Tr.sc [(0, r207)] rfl ?_
      refine Tr.if_eq (pc := 210) (tgt := 217) d_X5_order_210 rfl (fun c210 => ?_) (fun c210 => ?_)
      · refine Tr.iconst (pc := 217) d_X5_order_217 (by decide) ?_
        exact Tr.zret (pc := 218) d_X5_order_218 rfl (by omega) ⟨hS, _, rfl, by omega, by omega, fun hq => absurd hq (by omega)⟩
      · refine Tr.iconst (pc := 213) d_X5_order_213 (by decide) ?_
        refine Tr.goto (pc := 214) (tgt := 218) d_X5_order_214 rfl ?_
        exact Tr.zret (pc := 218) d_X5_order_218 rfl (by omega) ⟨hS, _, rfl, by omega, by omega, fun _ => (x207_6_6 (by omega))⟩
  · refine Tr.tp 5 c9 ?_
    refine Tr.tswIn (pc := 9) (off := 43) (tgt := 52) d_X5_order_9 (by decide) (by decide) rfl rfl ?_
    refine Tr.aload_n (pc := 52) (i := 0) d_X5_order_52 rfl rfl ?_
    refine Tr.iload_n (pc := 53) (i := 1) d_X5_order_53 rfl rfl ?_
    refine Tr.iconst (pc := 54) d_X5_order_54 (by decide) ?_
    refine Tr.callV (pc := 55) (as := [_, _]) d_X5_order_55 s_5_170 ok_X5_about rfl rfl (Nat.le_of_ble_eq_true rfl) (Nat.le_of_ble_eq_true rfl) (by decide) (ty_6 hS.1.1) ?_
    refine Tr.imp (Tr.deep (by decide) (sp_X5_about_6_v2 hS.1 hE ((St.kp hS (by decide) (by decide) (by decide)).trans en_6_2) ((St.kp hS (by decide) (by decide) (by decide)).trans en_6_3) ((St.kp hS (by decide) (by decide) (by decide)).trans en_6_4) a1 (by omega))) ?_
    rintro M55 _ ⟨h55, r55, rfl, lr55, ur55⟩
    have hS := St.tr hS h55 (by decide) (by decide)
    refine Tr.sc [(0, r55)] rfl ?_
    refine Tr.if_eq (pc := 58) (tgt := 90) d_X5_order_58 rfl (fun c58 => ?_) (fun c58 => ?_)
    · refine Tr.iconst (pc := 90) d_X5_order_90 (by decide) ?_
      exact Tr.zret (pc := 91) d_X5_order_91 rfl (by omega) ⟨hS, _, rfl, by omega, by omega, fun hq => absurd hq (by omega)⟩
    · refine Tr.aload_n (pc := 61) (i := 0) d_X5_order_61 rfl rfl ?_
      refine Tr.bipush (pc := 62) d_X5_order_62 rfl (by decide) ?_
      refine Tr.callV (pc := 64) (as := [_]) d_X5_order_64 s_5_81 ok_X5_takeSign rfl rfl (Nat.le_of_ble_eq_true rfl) (Nat.le_of_ble_eq_true rfl) (by decide) (ty_6 hS.1.1) ?_
      refine Tr.imp (Tr.deep (by decide) (sp_X5_takeSign_6_w3 hS.1 ((St.kp hS (by decide) (by decide) (by decide)).trans en_6_2) 61 (by omega))) ?_
      rintro M64 _ ⟨h64, r64, rfl, lr64, ur64⟩
      have hS := St.tr hS h64 (by decide) (by decide)
      refine Tr.sc [(0, r64)] rfl ?_
      refine Tr.if_eq (pc := 67) (tgt := 90) d_X5_order_67 rfl (fun c67 => ?_) (fun c67 => ?_)
      · refine Tr.iconst (pc := 90) d_X5_order_90 (by decide) ?_
        exact Tr.zret (pc := 91) d_X5_order_91 rfl (by omega) ⟨hS, _, rfl, by omega, by omega, fun hq => absurd hq (by omega)⟩
      · refine Tr.aload_n (pc := 70) (i := 0) d_X5_order_70 rfl rfl ?_
        refine Tr.callV (pc := 71) (as := []) d_X5_order_71 s_5_174 ok_X5_sum rfl rfl (Nat.le_of_ble_eq_true rfl) (Nat.le_of_ble_eq_true rfl) (by decide) (ty_6 hS.1.1) ?_
        refine Tr.imp (Tr.deep (by decide) (sp_X5_sum_6_w5 hS.1 hE ((St.kp hS (by decide) (by decide) (by decide)).trans en_6_2) ((St.kp hS (by decide) (by decide) (by decide)).trans en_6_3) ((St.kp hS (by decide) (by decide) (by decide)).trans en_6_4) ((St.kp h64 (by decide) (by decide) (by decide)).trans ((St.kp h55 (by decide) (by decide) (by decide)).trans en_6_6)))) ?_
        rintro M71 _ ⟨h71, r71, rfl, lr71, ur71, x71_6_6⟩
        have hS := St.tr hS h71 (by decide) (by decide)
        refine Tr.sc [(0, r71)] rfl ?_
        refine Tr.if_eq (pc := 74) (tgt := 90) d_X5_order_74 rfl (fun c74 => ?_) (fun c74 => ?_)
        · refine Tr.iconst (pc := 90) d_X5_order_90 (by decide) ?_
          exact Tr.zret (pc := 91) d_X5_order_91 rfl (by omega) ⟨hS, _, rfl, by omega, by omega, fun hq => absurd hq (by omega)⟩
        · refine Tr.aload_n (pc := 77) (i := 0) d_X5_order_77 rfl rfl ?_
          refine Tr.bipush (pc := 78) d_X5_order_78 rfl (by decide) ?_
          refine Tr.callV (pc := 80) (as := [_]) d_X5_order_80 s_5_81 ok_X5_takeSign rfl rfl (Nat.le_of_ble_eq_true rfl) (Nat.le_of_ble_eq_true rfl) (by decide) (ty_6 hS.1.1) ?_
          refine Tr.imp (Tr.deep (by decide) (sp_X5_takeSign_6 hS.1 ((St.kp hS (by decide) (by decide) (by decide)).trans en_6_2) 59 (by omega))) ?_
          rintro M80 _ ⟨h80, r80, rfl, lr80, ur80⟩
          have hS := St.tr hS h80 (by decide) (by decide)
          refine Tr.sc [(0, r80)] rfl ?_
          refine Tr.if_eq (pc := 83) (tgt := 90) d_X5_order_83 rfl (fun c83 => ?_) (fun c83 => ?_)
          · refine Tr.iconst (pc := 90) d_X5_order_90 (by decide) ?_
            exact Tr.zret (pc := 91) d_X5_order_91 rfl (by omega) ⟨hS, _, rfl, by omega, by omega, fun hq => absurd hq (by omega)⟩
          · refine Tr.iconst (pc := 86) d_X5_order_86 (by decide) ?_
            refine Tr.goto (pc := 87) (tgt := 91) d_X5_order_87 rfl ?_
            exact Tr.zret (pc := 91) d_X5_order_91 rfl (by omega) ⟨hS, _, rfl, by omega, by omega, fun _ => ((St.kp h80 (by decide) (by decide) (by decide)).trans (x71_6_6 (by omega)))⟩
  · refine Tr.tp 6 c9 ?_
    refine Tr.tswIn (pc := 9) (off := 83) (tgt := 92) d_X5_order_9 (by decide) (by decide) rfl rfl ?_
    refine Tr.aload_n (pc := 92) (i := 0) d_X5_order_92 rfl rfl ?_
    refine Tr.iload_n (pc := 93) (i := 1) d_X5_order_93 rfl rfl ?_
    refine Tr.iconst (pc := 94) d_X5_order_94 (by decide) ?_
    refine Tr.callV (pc := 95) (as := [_, _]) d_X5_order_95 s_5_170 ok_X5_about rfl rfl (Nat.le_of_ble_eq_true rfl) (Nat.le_of_ble_eq_true rfl) (by decide) (ty_6 hS.1.1) ?_
    refine Tr.imp (Tr.deep (by decide) (sp_X5_about_6_v0 hS.1 hE ((St.kp hS (by decide) (by decide) (by decide)).trans en_6_2) ((St.kp hS (by decide) (by decide) (by decide)).trans en_6_3) ((St.kp hS (by decide) (by decide) (by decide)).trans en_6_4) a1 (by omega))) ?_
    rintro M95 _ ⟨h95, r95, rfl, lr95, ur95⟩
    have hS := St.tr hS h95 (by decide) (by decide)
    refine Tr.sc [(0, r95)] rfl ?_
    refine Tr.if_eq (pc := 98) (tgt := 121) d_X5_order_98 rfl (fun c98 => ?_) (fun c98 => ?_)
    · refine Tr.iconst (pc := 121) d_X5_order_121 (by decide) ?_
      exact Tr.zret (pc := 122) d_X5_order_122 rfl (by omega) ⟨hS, _, rfl, by omega, by omega, fun hq => absurd hq (by omega)⟩
    · refine Tr.aload_n (pc := 101) (i := 0) d_X5_order_101 rfl rfl ?_
      refine Tr.callV (pc := 102) (as := []) d_X5_order_102 s_5_174 ok_X5_sum rfl rfl (Nat.le_of_ble_eq_true rfl) (Nat.le_of_ble_eq_true rfl) (by decide) (ty_6 hS.1.1) ?_
      refine Tr.imp (Tr.deep (by decide) (sp_X5_sum_6_w5 hS.1 hE ((St.kp hS (by decide) (by decide) (by decide)).trans en_6_2) ((St.kp hS (by decide) (by decide) (by decide)).trans en_6_3) ((St.kp hS (by decide) (by decide) (by decide)).trans en_6_4) ((St.kp h95 (by decide) (by decide) (by decide)).trans en_6_6))) ?_
      rintro M102 _ ⟨h102, r102, rfl, lr102, ur102, x102_6_6⟩
      have hS := St.tr hS h102 (by decide) (by decide)
      refine Tr.sc [(0, r102)] rfl ?_
      refine Tr.if_eq (pc := 105) (tgt := 121) d_X5_order_105 rfl (fun c105 => ?_) (fun c105 => ?_)
      · refine Tr.iconst (pc := 121) d_X5_order_121 (by decide) ?_
        exact Tr.zret (pc := 122) d_X5_order_122 rfl (by omega) ⟨hS, _, rfl, by omega, by omega, fun hq => absurd hq (by omega)⟩
      · refine Tr.aload_n (pc := 108) (i := 0) d_X5_order_108 rfl rfl ?_
        refine Tr.bipush (pc := 109) d_X5_order_109 rfl (by decide) ?_
        refine Tr.callV (pc := 111) (as := [_]) d_X5_order_111 s_5_81 ok_X5_takeSign rfl rfl (Nat.le_of_ble_eq_true rfl) (Nat.le_of_ble_eq_true rfl) (by decide) (ty_6 hS.1.1) ?_
        refine Tr.imp (Tr.deep (by decide) (sp_X5_takeSign_6 hS.1 ((St.kp hS (by decide) (by decide) (by decide)).trans en_6_2) 59 (by omega))) ?_
        rintro M111 _ ⟨h111, r111, rfl, lr111, ur111⟩
        have hS := St.tr hS h111 (by decide) (by decide)
        refine Tr.sc [(0, r111)] rfl ?_
        refine Tr.if_eq (pc := 114) (tgt := 121) d_X5_order_114 rfl (fun c114 => ?_) (fun c114 => ?_)
        · refine Tr.iconst (pc := 121) d_X5_order_121 (by decide) ?_
          exact Tr.zret (pc := 122) d_X5_order_122 rfl (by omega) ⟨hS, _, rfl, by omega, by omega, fun hq => absurd hq (by omega)⟩
        · refine Tr.iconst (pc := 117) d_X5_order_117 (by decide) ?_
          refine Tr.goto (pc := 118) (tgt := 122) d_X5_order_118 rfl ?_
          exact Tr.zret (pc := 122) d_X5_order_122 rfl (by omega) ⟨hS, _, rfl, by omega, by omega, fun _ => ((St.kp h111 (by decide) (by decide) (by decide)).trans (x102_6_6 (by omega)))⟩
  · refine Tr.tp 7 c9 ?_
    refine Tr.tswIn (pc := 9) (off := 114) (tgt := 123) d_X5_order_9 (by decide) (by decide) rfl rfl ?_
    refine Tr.aload_n (pc := 123) (i := 0) d_X5_order_123 rfl rfl ?_
    refine Tr.iload_n (pc := 124) (i := 1) d_X5_order_124 rfl rfl ?_
    refine Tr.iconst (pc := 125) d_X5_order_125 (by decide) ?_
    refine Tr.callV (pc := 126) (as := [_, _]) d_X5_order_126 s_5_170 ok_X5_about rfl rfl (Nat.le_of_ble_eq_true rfl) (Nat.le_of_ble_eq_true rfl) (by decide) (ty_6 hS.1.1) ?_
    refine Tr.imp (Tr.deep (by decide) (sp_X5_about_6_v0 hS.1 hE ((St.kp hS (by decide) (by decide) (by decide)).trans en_6_2) ((St.kp hS (by decide) (by decide) (by decide)).trans en_6_3) ((St.kp hS (by decide) (by decide) (by decide)).trans en_6_4) a1 (by omega))) ?_
    rintro M126 _ ⟨h126, r126, rfl, lr126, ur126⟩
    have hS := St.tr hS h126 (by decide) (by decide)
    refine Tr.sc [(0, r126)] rfl ?_
    refine Tr.if_eq (pc := 129) (tgt := 145) d_X5_order_129 rfl (fun c129 => ?_) (fun c129 => ?_)
    · refine Tr.iconst (pc := 145) d_X5_order_145 (by decide) ?_
      exact Tr.zret (pc := 146) d_X5_order_146 rfl (by omega) ⟨hS, _, rfl, by omega, by omega, fun hq => absurd hq (by omega)⟩
    · refine Tr.aload_n (pc := 132) (i := 0) d_X5_order_132 rfl rfl ?_
      refine Tr.bipush (pc := 133) d_X5_order_133 rfl (by decide) ?_
      refine Tr.callV (pc := 135) (as := [_]) d_X5_order_135 s_5_81 ok_X5_takeSign rfl rfl (Nat.le_of_ble_eq_true rfl) (Nat.le_of_ble_eq_true rfl) (by decide) (ty_6 hS.1.1) ?_
      refine Tr.imp (Tr.deep (by decide) (sp_X5_takeSign_6 hS.1 ((St.kp hS (by decide) (by decide) (by decide)).trans en_6_2) 59 (by omega))) ?_
      rintro M135 _ ⟨h135, r135, rfl, lr135, ur135⟩
      have hS := St.tr hS h135 (by decide) (by decide)
      refine Tr.sc [(0, r135)] rfl ?_
      refine Tr.if_eq (pc := 138) (tgt := 145) d_X5_order_138 rfl (fun c138 => ?_) (fun c138 => ?_)
      · refine Tr.iconst (pc := 145) d_X5_order_145 (by decide) ?_
        exact Tr.zret (pc := 146) d_X5_order_146 rfl (by omega) ⟨hS, _, rfl, by omega, by omega, fun hq => absurd hq (by omega)⟩
      · refine Tr.iconst (pc := 141) d_X5_order_141 (by decide) ?_
        refine Tr.goto (pc := 142) (tgt := 146) d_X5_order_142 rfl ?_
        exact Tr.zret (pc := 146) d_X5_order_146 rfl (by omega) ⟨hS, _, rfl, by omega, by omega, fun _ => ((St.kp h135 (by decide) (by decide) (by decide)).trans ((St.kp h126 (by decide) (by decide) (by decide)).trans en_6_6))⟩
  · refine Tr.tp 8 c9 ?_
    refine Tr.tswIn (pc := 9) (off := 114) (tgt := 123) d_X5_order_9 (by decide) (by decide) rfl rfl ?_
    refine Tr.aload_n (pc := 123) (i := 0) d_X5_order_123 rfl rfl ?_
    refine Tr.iload_n (pc := 124) (i := 1) d_X5_order_124 rfl rfl ?_
    refine Tr.iconst (pc := 125) d_X5_order_125 (by decide) ?_
    refine Tr.callV (pc := 126) (as := [_, _]) d_X5_order_126 s_5_170 ok_X5_about rfl rfl (Nat.le_of_ble_eq_true rfl) (Nat.le_of_ble_eq_true rfl) (by decide) (ty_6 hS.1.1) ?_
    refine Tr.imp (Tr.deep (by decide) (sp_X5_about_6_v0 hS.1 hE ((St.kp hS (by decide) (by decide) (by decide)).trans en_6_2) ((St.kp hS (by decide) (by decide) (by decide)).trans en_6_3) ((St.kp hS (by decide) (by decide) (by decide)).trans en_6_4) a1 (by omega))) ?_
    rintro M126 _ ⟨h126, r126, rfl, lr126, ur126⟩
    have hS := St.tr hS h126 (by decide) (by decide)
    refine Tr.sc [(0, r126)] rfl ?_
    refine Tr.if_eq (pc := 129) (tgt := 145) d_X5_order_129 rfl (fun c129 => ?_) (fun c129 => ?_)
    · refine Tr.iconst (pc := 145) d_X5_order_145 (by decide) ?_
      exact Tr.zret (pc := 146) d_X5_order_146 rfl (by omega) ⟨hS, _, rfl, by omega, by omega, fun hq => absurd hq (by omega)⟩
    · refine Tr.aload_n (pc := 132) (i := 0) d_X5_order_132 rfl rfl ?_
      refine Tr.bipush (pc := 133) d_X5_order_133 rfl (by decide) ?_
      refine Tr.callV (pc := 135) (as := [_]) d_X5_order_135 s_5_81 ok_X5_takeSign rfl rfl (Nat.le_of_ble_eq_true rfl) (Nat.le_of_ble_eq_true rfl) (by decide) (ty_6 hS.1.1) ?_
      refine Tr.imp (Tr.deep (by decide) (sp_X5_takeSign_6 hS.1 ((St.kp hS (by decide) (by decide) (by decide)).trans en_6_2) 59 (by omega))) ?_
      rintro M135 _ ⟨h135, r135, rfl, lr135, ur135⟩
      have hS := St.tr hS h135 (by decide) (by decide)
      refine Tr.sc [(0, r135)] rfl ?_
      refine Tr.if_eq (pc := 138) (tgt := 145) d_X5_order_138 rfl (fun c138 => ?_) (fun c138 => ?_)
      · refine Tr.iconst (pc := 145) d_X5_order_145 (by decide) ?_
        exact Tr.zret (pc := 146) d_X5_order_146 rfl (by omega) ⟨hS, _, rfl, by omega, by omega, fun hq => absurd hq (by omega)⟩
      · refine Tr.iconst (pc := 141) d_X5_order_141 (by decide) ?_
        refine Tr.goto (pc := 142) (tgt := 146) d_X5_order_142 rfl ?_
        exact Tr.zret (pc := 146) d_X5_order_146 rfl (by omega) ⟨hS, _, rfl, by omega, by omega, fun _ => ((St.kp h135 (by decide) (by decide) (by decide)).trans ((St.kp h126 (by decide) (by decide) (by decide)).trans en_6_6))⟩
  · refine Tr.tp 9 c9 ?_
    refine Tr.tswIn (pc := 9) (off := 138) (tgt := 147) d_X5_order_9 (by decide) (by decide) rfl rfl ?_
    refine Tr.aload_n (pc := 147) (i := 0) d_X5_order_147 rfl rfl ?_
    refine Tr.callV (pc := 148) (as := []) d_X5_order_148 s_5_174 ok_X5_sum rfl rfl (Nat.le_of_ble_eq_true rfl) (Nat.le_of_ble_eq_true rfl) (by decide) (ty_6 hS.1.1) ?_
    refine Tr.imp (Tr.deep (by decide) (sp_X5_sum_6_w5 hS.1 hE ((St.kp hS (by decide) (by decide) (by decide)).trans en_6_2) ((St.kp hS (by decide) (by decide) (by decide)).trans en_6_3) ((St.kp hS (by decide) (by decide) (by decide)).trans en_6_4) en_6_6)) ?_
    rintro M148 _ ⟨h148, r148, rfl, lr148, ur148, x148_6_6⟩
    have hS := St.tr hS h148 (by decide) (by decide)
    refine Tr.sc [(0, r148)] rfl ?_
    refine Tr.if_eq (pc := 151) (tgt := 167) d_X5_order_151 rfl (fun c151 => ?_) (fun c151 => ?_)
    · refine Tr.iconst (pc := 167) d_X5_order_167 (by decide) ?_
      exact Tr.zret (pc := 168) d_X5_order_168 rfl (by omega) ⟨hS, _, rfl, by omega, by omega, fun hq => absurd hq (by omega)⟩
    · refine Tr.aload_n (pc := 154) (i := 0) d_X5_order_154 rfl rfl ?_
      refine Tr.bipush (pc := 155) d_X5_order_155 rfl (by decide) ?_
      refine Tr.callV (pc := 157) (as := [_]) d_X5_order_157 s_5_81 ok_X5_takeSign rfl rfl (Nat.le_of_ble_eq_true rfl) (Nat.le_of_ble_eq_true rfl) (by decide) (ty_6 hS.1.1) ?_
      refine Tr.imp (Tr.deep (by decide) (sp_X5_takeSign_6 hS.1 ((St.kp hS (by decide) (by decide) (by decide)).trans en_6_2) 59 (by omega))) ?_
      rintro M157 _ ⟨h157, r157, rfl, lr157, ur157⟩
      have hS := St.tr hS h157 (by decide) (by decide)
      refine Tr.sc [(0, r157)] rfl ?_
      refine Tr.if_eq (pc := 160) (tgt := 167) d_X5_order_160 rfl (fun c160 => ?_) (fun c160 => ?_)
      · refine Tr.iconst (pc := 167) d_X5_order_167 (by decide) ?_
        exact Tr.zret (pc := 168) d_X5_order_168 rfl (by omega) ⟨hS, _, rfl, by omega, by omega, fun hq => absurd hq (by omega)⟩
      · refine Tr.iconst (pc := 163) d_X5_order_163 (by decide) ?_
        refine Tr.goto (pc := 164) (tgt := 168) d_X5_order_164 rfl ?_
        exact Tr.zret (pc := 168) d_X5_order_168 rfl (by omega) ⟨hS, _, rfl, by omega, by omega, fun _ => ((St.kp h157 (by decide) (by decide) (by decide)).trans (x148_6_6 (by omega)))⟩
  · refine Tr.tp 10 c9 ?_
    refine Tr.tswIn (pc := 9) (off := 138) (tgt := 147) d_X5_order_9 (by decide) (by decide) rfl rfl ?_
    refine Tr.aload_n (pc := 147) (i := 0) d_X5_order_147 rfl rfl ?_
    refine Tr.callV (pc := 148) (as := []) d_X5_order_148 s_5_174 ok_X5_sum rfl rfl (Nat.le_of_ble_eq_true rfl) (Nat.le_of_ble_eq_true rfl) (by decide) (ty_6 hS.1.1) ?_
    refine Tr.imp (Tr.deep (by decide) (sp_X5_sum_6_w5 hS.1 hE ((St.kp hS (by decide) (by decide) (by decide)).trans en_6_2) ((St.kp hS (by decide) (by decide) (by decide)).trans en_6_3) ((St.kp hS (by decide) (by decide) (by decide)).trans en_6_4) en_6_6)) ?_
    rintro M148 _ ⟨h148, r148, rfl, lr148, ur148, x148_6_6⟩
    have hS := St.tr hS h148 (by decide) (by decide)
    refine Tr.sc [(0, r148)] rfl ?_
    refine Tr.if_eq (pc := 151) (tgt := 167) d_X5_order_151 rfl (fun c151 => ?_) (fun c151 => ?_)
    · refine Tr.iconst (pc := 167) d_X5_order_167 (by decide) ?_
      exact Tr.zret (pc := 168) d_X5_order_168 rfl (by omega) ⟨hS, _, rfl, by omega, by omega, fun hq => absurd hq (by omega)⟩
    · refine Tr.aload_n (pc := 154) (i := 0) d_X5_order_154 rfl rfl ?_
      refine Tr.bipush (pc := 155) d_X5_order_155 rfl (by decide) ?_
      refine Tr.callV (pc := 157) (as := [_]) d_X5_order_157 s_5_81 ok_X5_takeSign rfl rfl (Nat.le_of_ble_eq_true rfl) (Nat.le_of_ble_eq_true rfl) (by decide) (ty_6 hS.1.1) ?_
      refine Tr.imp (Tr.deep (by decide) (sp_X5_takeSign_6 hS.1 ((St.kp hS (by decide) (by decide) (by decide)).trans en_6_2) 59 (by omega))) ?_
      rintro M157 _ ⟨h157, r157, rfl, lr157, ur157⟩
      have hS := St.tr hS h157 (by decide) (by decide)
      refine Tr.sc [(0, r157)] rfl ?_
      refine Tr.if_eq (pc := 160) (tgt := 167) d_X5_order_160 rfl (fun c160 => ?_) (fun c160 => ?_)
      · refine Tr.iconst (pc := 167) d_X5_order_167 (by decide) ?_
        exact Tr.zret (pc := 168) d_X5_order_168 rfl (by omega) ⟨hS, _, rfl, by omega, by omega, fun hq => absurd hq (by omega)⟩
      · refine Tr.iconst (pc := 163) d_X5_order_163 (by decide) ?_
        refine Tr.goto (pc := 164) (tgt := 168) d_X5_order_164 rfl ?_
        exact Tr.zret (pc := 168) d_X5_order_168 rfl (by omega) ⟨hS, _, rfl, by omega, by omega, fun _ => ((St.kp h157 (by decide) (by decide) (by decide)).trans (x148_6_6 (by omega)))⟩
  · refine Tr.tp 11 c9 ?_
    refine Tr.tswIn (pc := 9) (off := 160) (tgt := 169) d_X5_order_9 (by decide) (by decide) rfl rfl ?_
    refine Tr.aload_n (pc := 169) (i := 0) d_X5_order_169 rfl rfl ?_
    refine Tr.callV (pc := 170) (as := []) d_X5_order_170 s_5_177 ok_X5_test rfl rfl (Nat.le_of_ble_eq_true rfl) (Nat.le_of_ble_eq_true rfl) (by decide) (ty_6 hS.1.1) ?_
    refine Tr.imp (Tr.deep (by decide) (sp_X5_test_6_w5 hS.1 hE ((St.kp hS (by decide) (by decide) (by decide)).trans en_6_2) ((St.kp hS (by decide) (by decide) (by decide)).trans en_6_3) ((St.kp hS (by decide) (by decide) (by decide)).trans en_6_4) en_6_6)) ?_
    rintro M170 _ ⟨h170, r170, rfl, lr170, ur170, x170_6_6⟩
    have hS := St.tr hS h170 (by decide) (by decide)
    refine Tr.sc [(0, r170)] rfl ?_
    refine Tr.if_eq (pc := 173) (tgt := 196) d_X5_order_173 rfl (fun c173 => ?_) (fun c173 => ?_)
    · refine Tr.iconst (pc := 196) d_X5_order_196 (by decide) ?_
      exact Tr.zret (pc := 197) d_X5_order_197 rfl (by omega) ⟨hS, _, rfl, by omega, by omega, fun hq => absurd hq (by omega)⟩
    · refine Tr.aload_n (pc := 176) (i := 0) d_X5_order_176 rfl rfl ?_
      refine Tr.iload_n (pc := 177) (i := 1) d_X5_order_177 rfl rfl ?_
      refine Tr.callV (pc := 178) (as := [_]) d_X5_order_178 s_5_180 ok_X5_yesBlock rfl rfl (Nat.le_of_ble_eq_true rfl) (Nat.le_of_ble_eq_true rfl) (by decide) (ty_6 hS.1.1) ?_
      refine Tr.imp (Tr.deep (by decide) (sp_X5_yesBlock_6_w5 hS.1 hE ((St.kp hS (by decide) (by decide) (by decide)).trans en_6_2) ((St.kp hS (by decide) (by decide) (by decide)).trans en_6_3) ((St.kp hS (by decide) (by decide) (by decide)).trans en_6_4) (x170_6_6 (by omega)) a1 (by omega))) ?_
      rintro M178 _ ⟨h178, r178, rfl, lr178, ur178, x178_6_6⟩
      have hS := St.tr hS h178 (by decide) (by decide)
      refine Tr.sc [(0, r178)] rfl ?_
      refine Tr.if_eq (pc := 181) (tgt := 196) d_X5_order_181 rfl (fun c181 => ?_) (fun c181 => ?_)
      · refine Tr.iconst (pc := 196) d_X5_order_196 (by decide) ?_
        exact Tr.zret (pc := 197) d_X5_order_197 rfl (by omega) ⟨hS, _, rfl, by omega, by omega, fun hq => absurd hq (by omega)⟩
      · refine Tr.aload_n (pc := 184) (i := 0) d_X5_order_184 rfl rfl ?_
        refine Tr.iload_n (pc := 185) (i := 1) d_X5_order_185 rfl rfl ?_
        refine Tr.callV (pc := 186) (as := [_]) d_X5_order_186 s_5_183 ok_X5_noBlock rfl rfl (Nat.le_of_ble_eq_true rfl) (Nat.le_of_ble_eq_true rfl) (by decide) (ty_6 hS.1.1) ?_
        refine Tr.imp (Tr.deep (by decide) (sp_X5_noBlock_6_w2 hS.1 hE ((St.kp hS (by decide) (by decide) (by decide)).trans en_6_2) ((St.kp hS (by decide) (by decide) (by decide)).trans en_6_3) ((St.kp hS (by decide) (by decide) (by decide)).trans en_6_4) (x178_6_6 (by omega)) a1 (by omega))) ?_
        rintro M186 _ ⟨h186, r186, rfl, lr186, ur186, x186_6_6⟩
        have hS := St.tr hS h186 (by decide) (by decide)
        refine Tr.sc [(0, r186)] rfl ?_
        refine Tr.if_eq (pc := 189) (tgt := 196) d_X5_order_189 rfl (fun c189 => ?_) (fun c189 => ?_)
        · refine Tr.iconst (pc := 196) d_X5_order_196 (by decide) ?_
          exact Tr.zret (pc := 197) d_X5_order_197 rfl (by omega) ⟨hS, _, rfl, by omega, by omega, fun hq => absurd hq (by omega)⟩
        · refine Tr.iconst (pc := 192) d_X5_order_192 (by decide) ?_
          refine Tr.goto (pc := 193) (tgt := 197) d_X5_order_193 rfl ?_
          exact Tr.zret (pc := 197) d_X5_order_197 rfl (by omega) ⟨hS, _, rfl, by omega, by omega, fun _ => (x186_6_6 (by omega))⟩

def ws_X5_orders_6_w5 : List (Int × Int) := [(6, 0), (6, 1), (6, 5), (6, 6), (35, 0), (35, 11)]
def as_X5_orders_6_w5 : List Int := [36, 37, 38, 39, 40, 41, 42, 44, 45]
def q_X5_orders_6_w5 (M0 M' : Mem) (r : Option PV) : Prop := St Tru ws_X5_orders_6_w5 as_X5_orders_6_w5 M0 M' ∧ ∃ v : Int, r = some (0, v) ∧ (-2) ≤ v ∧ v ≤ 59 ∧ (((-1) ≤ v ∧ v ≤ 1000000) → rd M' 6 6 = 5)
set_option maxRecDepth 100000 in
set_option maxHeartbeats 4000000 in
theorem sp_X5_orders_6_w5 {l : Launch} {K : EC} {M0 : Mem} {xq : Int} (hI : In Tru M0) (hE : e_all K xq) (en_6_2 : rd M0 6 2 = 2) (en_6_3 : rd M0 6 3 = 27) (en_6_4 : rd M0 6 4 = 35) (en_6_6 : rd M0 6 6 = 5) (a1 : Int) (ha1 : 0 ≤ a1 ∧ a1 ≤ 59)  : Tr l K 23 mX5_orders 0 [(0, (2, 6)), (1, (0, a1))] [] M0 (q_X5_orders_6_w5 M0) := by
  have hS : St Tru ws_X5_orders_6_w5 as_X5_orders_6_w5 M0 M0 := St.rf hI
  refine Tr.iconst (pc := 0) d_X5_orders_0 (by decide) ?_
  refine Tr.istore_n (pc := 1) (i := 2) (ls2 := [(2, (0, (-1))), (0, (2, 6)), (1, (0, a1))]) d_X5_orders_1 rfl (by decide) rfl ?_
  refine Tr.iconst (pc := 2) d_X5_orders_2 (by decide) ?_
  refine Tr.istore_n (pc := 3) (i := 3) (ls2 := [(3, (0, (-1))), (2, (0, (-1))), (0, (2, 6)), (1, (0, a1))]) d_X5_orders_3 rfl (by decide) rfl ?_
  refine Tr.iconst (pc := 4) d_X5_orders_4 (by decide) ?_
  refine Tr.istore (pc := 5) (i := 4) (ls2 := [(4, (0, 0)), (3, (0, (-1))), (2, (0, (-1))), (0, (2, 6)), (1, (0, a1))]) d_X5_orders_5 (by decide) rfl ?_
  have J7 : ∀ (n7 : Nat) (M : Mem) (p7_2 p7_3 p7_4 : Int), St Tru ws_X5_orders_6_w5 as_X5_orders_6_w5 M0 M → ((-1) ≤ p7_2 ∧ p7_2 ≤ 59) → ((-1) ≤ p7_3 ∧ p7_3 ≤ 59) → (0 ≤ p7_4 ∧ p7_4 ≤ 61) → rd M 6 6 = 5 → (61 - p7_4).toNat < n7 → Tr l K 23 mX5_orders 7 [(0, (2, 6)), (1, (0, a1)), (2, (0, p7_2)), (3, (0, p7_3)), (4, (0, p7_4))] [] M (q_X5_orders_6_w5 M0) := by
    intro n7
    induction n7 with
    | zero => intro M p7_2 p7_3 p7_4 hS bp7_2 bp7_3 bp7_4 k7_6_6 hm7; exact absurd hm7 (Nat.not_lt_zero _)
    | succ n7 J7 =>
      intro M p7_2 p7_3 p7_4 hS bp7_2 bp7_3 bp7_4 k7_6_6 hm7
      refine Tr.iload (pc := 7) (i := 4) d_X5_orders_7 rfl ?_
      refine Tr.bipush (pc := 9) d_X5_orders_9 rfl (by decide) ?_
      refine Tr.icmp_gt (pc := 11) (tgt := 111) d_X5_orders_11 rfl (fun c11 => ?_) (fun c11 => ?_)
      · refine Tr.iload_n (pc := 111) (i := 2) d_X5_orders_111 rfl rfl ?_
        exact Tr.iret (pc := 112) d_X5_orders_112 rfl ⟨hS, _, rfl, by omega, by omega, fun _ => k7_6_6⟩
      · refine Tr.aload_n (pc := 14) (i := 0) d_X5_orders_14 rfl rfl ?_
        refine Tr.callV (pc := 15) (as := []) d_X5_orders_15 s_5_154 ok_X5_isOrder rfl rfl (Nat.le_of_ble_eq_true rfl) (Nat.le_of_ble_eq_true rfl) (by decide) (ty_6 hS.1.1) ?_
        refine Tr.imp (Tr.deep (by decide) (sp_X5_isOrder_6 hS.1 ((St.kp hS (by decide) (by decide) (by decide)).trans en_6_2))) ?_
        rintro M15 _ ⟨h15, r15, rfl, lr15, ur15⟩
        have hS := St.tr hS h15 (by decide) (by decide)
        refine Tr.sc [(0, r15)] rfl ?_
        refine Tr.if_eq (pc := 18) (tgt := 111) d_X5_orders_18 rfl (fun c18 => ?_) (fun c18 => ?_)
        · refine Tr.iload_n (pc := 111) (i := 2) d_X5_orders_111 rfl rfl ?_
          exact Tr.iret (pc := 112) d_X5_orders_112 rfl ⟨hS, _, rfl, by omega, by omega, fun _ => ((St.kp h15 (by decide) (by decide) (by decide)).trans k7_6_6)⟩
        · refine Tr.aload_n (pc := 21) (i := 0) d_X5_orders_21 rfl rfl ?_
          refine Tr.getf (pc := 22) d_X5_orders_22 f_5_32 (by decide) (by decide) (ty_6 hS.1.1) ?_
          refine Tr.tp 35 ((St.kp hS (by decide) (by decide) (by decide)).trans en_6_4) ?_
          refine Tr.getf (pc := 25) d_X5_orders_25 f_5_157 (by decide) (by decide) (ty_35 hS.1.1) ?_
          refine Tr.gen (P := fun v => 0 ≤ v ∧ v ≤ 60) (ir_35_0 hS.1.2.1) (fun r25 er25 br25 => ?_)
          refine Tr.bipush (pc := 28) d_X5_orders_28 rfl (by decide) ?_
          refine Tr.icmp_lt (pc := 30) (tgt := 42) d_X5_orders_30 rfl (fun c30 => ?_) (fun c30 => ?_)
          · refine Tr.aload_n (pc := 42) (i := 0) d_X5_orders_42 rfl rfl ?_
            refine Tr.getf (pc := 43) d_X5_orders_43 f_5_32 (by decide) (by decide) (ty_6 hS.1.1) ?_
            refine Tr.tp 35 ((St.kp hS (by decide) (by decide) (by decide)).trans en_6_4) ?_
            refine Tr.aload_n (pc := 46) (i := 0) d_X5_orders_46 rfl rfl ?_
            refine Tr.getf (pc := 47) d_X5_orders_47 f_5_18 (by decide) (by decide) (ty_6 hS.1.1) ?_
            refine Tr.tp 2 ((St.kp hS (by decide) (by decide) (by decide)).trans en_6_2) ?_
            refine Tr.getf (pc := 50) d_X5_orders_50 f_5_68 (by decide) (by decide) (ty_2 hS.1.1) ?_
            refine Tr.tp 5 (fx_2_2 hS.1.1) ?_
            refine Tr.aload_n (pc := 53) (i := 0) d_X5_orders_53 rfl rfl ?_
            refine Tr.getf (pc := 54) d_X5_orders_54 f_5_36 (by decide) (by decide) (ty_6 hS.1.1) ?_
            refine Tr.gen (P := fun v => 0 ≤ v ∧ v ≤ 900) (ir_6_5 hS.1.2.1) (fun r54 er54 br54 => ?_)
            refine Tr.iald (pc := 57) d_X5_orders_57 (ty_5 hS.1.1) (by omega) (by omega) ?_
            refine Tr.gen (P := fun v => (-2147483648) ≤ v ∧ v ≤ 2147483647) (ar_5 hS.1.2.1 _) (fun r57 er57 br57 => ?_)
            refine Tr.iload_n (pc := 58) (i := 1) d_X5_orders_58 rfl rfl ?_
            refine Tr.callV (pc := 59) (as := [_, _]) d_X5_orders_59 s_5_160 ok_X4_open rfl rfl (Nat.le_of_ble_eq_true rfl) (Nat.le_of_ble_eq_true rfl) (by decide) (ty_35 hS.1.1) ?_
            refine Tr.imp (Tr.deep (by decide) (sp_X4_open_35_w1 hS.1 r57 (by omega) a1 (by omega) (by have h9 := er25; omega))) ?_
            rintro M59 _ ⟨h59, r59, rfl, lr59, ur59⟩
            have hS := St.tr hS h59 (by decide) (by decide)
            refine Tr.sc [(0, r59)] rfl ?_
            refine Tr.istore (pc := 62) (i := 5) (ls2 := [(5, (0, r59)), (0, (2, 6)), (1, (0, a1)), (2, (0, p7_2)), (3, (0, p7_3)), (4, (0, p7_4))]) d_X5_orders_62 (by decide) rfl ?_
            refine Tr.iload_n (pc := 64) (i := 3) d_X5_orders_64 rfl rfl ?_
            have J85 : ∀ (M : Mem) (p85_2 : Int), St Tru ws_X5_orders_6_w5 as_X5_orders_6_w5 M0 M → ((-1) ≤ p85_2 ∧ p85_2 ≤ 59) → rd M 5 r54 = r57 → rd M 6 5 = r54 → rd M 6 6 = 5 → Tr l K 23 mX5_orders 85 [(0, (2, 6)), (1, (0, a1)), (2, (0, p85_2)), (4, (0, p7_4)), (5, (0, r59))] [] M (q_X5_orders_6_w5 M0) := by
              intro M p85_2 hS bp85_2 k85_5_r5410 k85_6_5 k85_6_6
              refine Tr.iload (pc := 85) (i := 5) d_X5_orders_85 rfl ?_
              refine Tr.istore_n (pc := 87) (i := 3) (ls2 := [(3, (0, r59)), (0, (2, 6)), (1, (0, a1)), (2, (0, p85_2)), (4, (0, p7_4)), (5, (0, r59))]) d_X5_orders_87 rfl (by decide) rfl ?_
              refine Tr.aload_n (pc := 88) (i := 0) d_X5_orders_88 rfl rfl ?_
              refine Tr.callV (pc := 89) (as := []) d_X5_orders_89 s_5_74 ok_X5_goOn rfl rfl (Nat.le_of_ble_eq_true rfl) (Nat.le_of_ble_eq_true rfl) (by decide) (ty_6 hS.1.1) ?_
              refine Tr.imp (Tr.deep (by decide) (sp_X5_goOn_6 hS.1 )) ?_
              rintro M89 _ ⟨h89, r89, rfl, lr89, ur89⟩
              have hS := St.tr hS h89 (by decide) (by decide)
              refine Tr.sc [(0, r89)] rfl ?_
              refine Tr.pop (pc := 92) d_X5_orders_92 ne01 ?_
              refine Tr.aload_n (pc := 93) (i := 0) d_X5_orders_93 rfl rfl ?_
              refine Tr.iload (pc := 94) (i := 5) d_X5_orders_94 rfl ?_
              refine Tr.callV (pc := 96) (as := [_]) d_X5_orders_96 s_5_166 ok_X5_order rfl rfl (Nat.le_of_ble_eq_true rfl) (Nat.le_of_ble_eq_true rfl) (by decide) (ty_6 hS.1.1) ?_
              refine Tr.imp (Tr.deep (by decide) (sp_X5_order_6_w5 hS.1 hE ((St.kp hS (by decide) (by decide) (by decide)).trans en_6_2) ((St.kp hS (by decide) (by decide) (by decide)).trans en_6_3) ((St.kp hS (by decide) (by decide) (by decide)).trans en_6_4) ((St.kp h89 (by decide) (by decide) (by decide)).trans k85_6_6) r59 (by omega))) ?_
              rintro M96 _ ⟨h96, r96, rfl, lr96, ur96, x96_6_6⟩
              have hS := St.tr hS h96 (by decide) (by decide)
              refine Tr.sc [(0, r96)] rfl ?_
              refine Tr.if_ne (pc := 99) (tgt := 105) d_X5_orders_99 rfl (fun c99 => ?_) (fun c99 => ?_)
              · refine Tr.iincV (pc := 105) (n2 := (p7_4 + 1)) (ls2 := [(4, (0, (p7_4 + 1))), (3, (0, r59)), (0, (2, 6)), (1, (0, a1)), (2, (0, p85_2)), (5, (0, r59))]) d_X5_orders_105 rfl (by decide) ((w32_id (by omega)).trans (by omega)) rfl ?_
                refine Tr.goto (pc := 108) (tgt := 7) d_X5_orders_108 rfl ?_
                refine Tr.pick [2, 3, 4, 1, 0] (ls2 := [(0, (2, 6)), (1, (0, a1)), (2, (0, p85_2)), (3, (0, r59)), (4, (0, (p7_4 + 1)))]) rfl ?_
                exact J7 _ _ _ _ hS (by omega) (by omega) (by omega) (x96_6_6 (by omega)) (by omega)
              · refine Tr.bipush (pc := 102) d_X5_orders_102 rfl (by decide) ?_
                exact Tr.iret (pc := 104) d_X5_orders_104 rfl ⟨hS, _, rfl, by omega, by omega, fun hq => absurd hq (by omega)⟩
            refine Tr.if_ge (pc := 65) (tgt := 74) d_X5_orders_65 rfl (fun c65 => ?_) (fun c65 => ?_)
            · refine Tr.aload_n (pc := 74) (i := 0) d_X5_orders_74 rfl rfl ?_
              refine Tr.getf (pc := 75) d_X5_orders_75 f_5_32 (by decide) (by decide) (ty_6 hS.1.1) ?_
              refine Tr.tp 35 ((St.kp hS (by decide) (by decide) (by decide)).trans en_6_4) ?_
              refine Tr.getf (pc := 78) d_X5_orders_78 f_5_163 (by decide) (by decide) (ty_35 hS.1.1) ?_
              refine Tr.tp 41 (fx_35_6 hS.1.1) ?_
              refine Tr.iload_n (pc := 81) (i := 3) d_X5_orders_81 rfl rfl ?_
              refine Tr.iload (pc := 82) (i := 5) d_X5_orders_82 rfl ?_
              refine Tr.iastS (pc := 84) (P := St Tru ws_X5_orders_6_w5 as_X5_orders_6_w5 M0) d_X5_orders_84 (ty_41 hS.1.1) (by omega) (by omega) (sa_41 hS (by decide) (by omega) trivial) (fun M84 hS w84 => ?_)
              refine Tr.pick [1, 2, 3, 5, 0] (ls2 := [(0, (2, 6)), (1, (0, a1)), (2, (0, p7_2)), (4, (0, p7_4)), (5, (0, r59))]) rfl ?_
              exact J85 _ _ hS (by omega) ((Wr.b w84 rfl).trans ((St.ka h59 (by decide) (by decide) (by decide)).trans er57)) ((Wr.b w84 rfl).trans ((St.kp h59 (by decide) (by decide) (by decide)).trans er54)) ((Wr.b w84 rfl).trans ((St.kp h59 (by decide) (by decide) (by decide)).trans ((St.kp h15 (by decide) (by decide) (by decide)).trans k7_6_6)))
            · refine Tr.iload (pc := 68) (i := 5) d_X5_orders_68 rfl ?_
              refine Tr.istore_n (pc := 70) (i := 2) (ls2 := [(2, (0, r59)), (5, (0, r59)), (0, (2, 6)), (1, (0, a1)), (3, (0, p7_3)), (4, (0, p7_4))]) d_X5_orders_70 rfl (by decide) rfl ?_
              refine Tr.goto (pc := 71) (tgt := 85) d_X5_orders_71 rfl ?_
              refine Tr.pick [2, 3, 0, 5, 1] (ls2 := [(0, (2, 6)), (1, (0, a1)), (2, (0, r59)), (4, (0, p7_4)), (5, (0, r59))]) rfl ?_
              exact J85 _ _ hS (by omega) ((St.ka h59 (by decide) (by decide) (by decide)).trans er57) ((St.kp h59 (by decide) (by decide) (by decide)).trans er54) ((St.kp h59 (by decide) (by decide) (by decide)).trans ((St.kp h15 (by decide) (by decide) (by decide)).trans k7_6_6))
          · refine Tr.aload_n (pc := 33) (i := 0) d_X5_orders_33 rfl rfl ?_
            refine Tr.iconst (pc := 34) d_X5_orders_34 (by decide) ?_
            refine Tr.callV (pc := 35) (as := [_]) d_X5_orders_35 s_5_56 ok_X5_refuse rfl rfl (Nat.le_of_ble_eq_true rfl) (Nat.le_of_ble_eq_true rfl) (by decide) (ty_6 hS.1.1) ?_
            refine Tr.imp (Tr.deep (by decide) (sp_X5_refuse_6_w2 hS.1 ((St.kp hS (by decide) (by decide) (by decide)).trans en_6_2) 5 (by omega))) ?_
            rintro M35 _ ⟨h35, r35, rfl, lr35, ur35⟩
            have hS := St.tr hS h35 (by decide) (by decide)
            refine Tr.sc [(0, r35)] rfl ?_
            refine Tr.pop (pc := 38) d_X5_orders_38 ne01 ?_
            refine Tr.bipush (pc := 39) d_X5_orders_39 rfl (by decide) ?_
            exact Tr.iret (pc := 41) d_X5_orders_41 rfl ⟨hS, _, rfl, by omega, by omega, fun hq => absurd hq (by omega)⟩
  refine Tr.pick [3, 4, 2, 1, 0] (ls2 := [(0, (2, 6)), (1, (0, a1)), (2, (0, (-1))), (3, (0, (-1))), (4, (0, 0))]) rfl ?_
  exact J7 _ _ _ _ _ hS (by omega) (by omega) (by omega) en_6_6 (Nat.lt_succ_self _)

def ws_X5_block_6_w4 : List (Int × Int) := [(6, 0), (6, 1), (6, 5), (6, 6), (35, 0), (35, 11)]
def as_X5_block_6_w4 : List Int := [36, 37, 38, 39, 40, 41, 42, 44, 45]
def q_X5_block_6_w4 (M0 M' : Mem) (r : Option PV) : Prop := St Tru ws_X5_block_6_w4 as_X5_block_6_w4 M0 M' ∧ ∃ v : Int, r = some (0, v) ∧ (-2) ≤ v ∧ v ≤ 59 ∧ (((-1) ≤ v ∧ v ≤ 1000000) → rd M' 6 6 = 4)
set_option maxRecDepth 100000 in
set_option maxHeartbeats 4000000 in
theorem sp_X5_block_6_w4 {l : Launch} {K : EC} {M0 : Mem} {xq : Int} (hI : In Tru M0) (hE : e_all K xq) (en_6_2 : rd M0 6 2 = 2) (en_6_3 : rd M0 6 3 = 27) (en_6_4 : rd M0 6 4 = 35) (en_6_6 : rd M0 6 6 = 4) (a1 : Int) (ha1 : 0 ≤ a1 ∧ a1 ≤ 59)  : Tr l K 24 mX5_block 0 [(0, (2, 6)), (1, (0, a1))] [] M0 (q_X5_block_6_w4 M0) := by
  have hS : St Tru ws_X5_block_6_w4 as_X5_block_6_w4 M0 M0 := St.rf hI
  refine Tr.aload_n (pc := 0) (i := 0) d_X5_block_0 rfl rfl ?_
  refine Tr.bipush (pc := 1) d_X5_block_1 rfl (by decide) ?_
  refine Tr.callV (pc := 3) (as := [_]) d_X5_block_3 s_5_206 ok_X5_takeOpening rfl rfl (Nat.le_of_ble_eq_true rfl) (Nat.le_of_ble_eq_true rfl) (by decide) (ty_6 hS.1.1) ?_
  refine Tr.imp (Tr.deep (by decide) (sp_X5_takeOpening_6_w22 hS.1 ((St.kp hS (by decide) (by decide) (by decide)).trans en_6_2) en_6_6 123 (by omega))) ?_
  rintro M3 _ ⟨h3, r3, rfl, lr3, ur3, x3_6_6⟩
  have hS := St.tr hS h3 (by decide) (by decide)
  refine Tr.sc [(0, r3)] rfl ?_
  refine Tr.if_ne (pc := 6) (tgt := 12) d_X5_block_6 rfl (fun c6 => ?_) (fun c6 => ?_)
  · refine Tr.aload_n (pc := 12) (i := 0) d_X5_block_12 rfl rfl ?_
    refine Tr.iload_n (pc := 13) (i := 1) d_X5_block_13 rfl rfl ?_
    refine Tr.callV (pc := 14) (as := [_]) d_X5_block_14 s_5_46 ok_X5_orders rfl rfl (Nat.le_of_ble_eq_true rfl) (Nat.le_of_ble_eq_true rfl) (by decide) (ty_6 hS.1.1) ?_
    refine Tr.imp (Tr.deep (by decide) (sp_X5_orders_6_w5 hS.1 hE ((St.kp hS (by decide) (by decide) (by decide)).trans en_6_2) ((St.kp hS (by decide) (by decide) (by decide)).trans en_6_3) ((St.kp hS (by decide) (by decide) (by decide)).trans en_6_4) (x3_6_6 (by omega)) a1 (by omega))) ?_
    rintro M14 _ ⟨h14, r14, rfl, lr14, ur14, x14_6_6⟩
    have hS := St.tr hS h14 (by decide) (by decide)
    refine Tr.sc [(0, r14)] rfl ?_
    refine Tr.istore_n (pc := 17) (i := 2) (ls2 := [(2, (0, r14)), (0, (2, 6)), (1, (0, a1))]) d_X5_block_17 rfl (by decide) rfl ?_
    refine Tr.iload_n (pc := 18) (i := 2) d_X5_block_18 rfl rfl ?_
    refine Tr.bipush (pc := 19) d_X5_block_19 rfl (by decide) ?_
    refine Tr.icmp_eq (pc := 21) (tgt := 33) d_X5_block_21 rfl (fun c21 => ?_) (fun c21 => ?_)
    · refine Tr.bipush (pc := 33) d_X5_block_33 rfl (by decide) ?_
      exact Tr.iret (pc := 35) d_X5_block_35 rfl ⟨hS, _, rfl, by omega, by omega, fun hq => absurd hq (by omega)⟩
    · refine Tr.aload_n (pc := 24) (i := 0) d_X5_block_24 rfl rfl ?_
      refine Tr.bipush (pc := 25) d_X5_block_25 rfl (by decide) ?_
      refine Tr.callV (pc := 27) (as := [_]) d_X5_block_27 s_5_209 ok_X5_takeClosing rfl rfl (Nat.le_of_ble_eq_true rfl) (Nat.le_of_ble_eq_true rfl) (by decide) (ty_6 hS.1.1) ?_
      refine Tr.imp (Tr.deep (by decide) (sp_X5_takeClosing_6_w19 hS.1 ((St.kp hS (by decide) (by decide) (by decide)).trans en_6_2) (x14_6_6 (by omega)) 125 (by omega))) ?_
      rintro M27 _ ⟨h27, r27, rfl, lr27, ur27, x27_6_6⟩
      have hS := St.tr hS h27 (by decide) (by decide)
      refine Tr.sc [(0, r27)] rfl ?_
      refine Tr.if_ne (pc := 30) (tgt := 36) d_X5_block_30 rfl (fun c30 => ?_) (fun c30 => ?_)
      · refine Tr.iload_n (pc := 36) (i := 2) d_X5_block_36 rfl rfl ?_
        exact Tr.iret (pc := 37) d_X5_block_37 rfl ⟨hS, _, rfl, by omega, by omega, fun _ => (x27_6_6 (by omega))⟩
      · refine Tr.bipush (pc := 33) d_X5_block_33 rfl (by decide) ?_
        exact Tr.iret (pc := 35) d_X5_block_35 rfl ⟨hS, _, rfl, by omega, by omega, fun hq => absurd hq (by omega)⟩
  · refine Tr.bipush (pc := 9) d_X5_block_9 rfl (by decide) ?_
    exact Tr.iret (pc := 11) d_X5_block_11 rfl ⟨hS, _, rfl, by omega, by omega, fun hq => absurd hq (by omega)⟩

def ws_X5_yesBlock_6_w4 : List (Int × Int) := [(6, 0), (6, 1), (6, 5), (6, 6), (35, 0), (35, 11)]
def as_X5_yesBlock_6_w4 : List Int := [36, 37, 38, 39, 40, 41, 42, 44, 45]
def q_X5_yesBlock_6_w4 (M0 M' : Mem) (r : Option PV) : Prop := St Tru ws_X5_yesBlock_6_w4 as_X5_yesBlock_6_w4 M0 M' ∧ ∃ v : Int, r = some (0, v) ∧ 0 ≤ v ∧ v ≤ 1 ∧ ((1 ≤ v ∧ v ≤ 1) → rd M' 6 6 = 4)
set_option maxRecDepth 100000 in
set_option maxHeartbeats 4000000 in
theorem sp_X5_yesBlock_6_w4 {l : Launch} {K : EC} {M0 : Mem} {xq : Int} (hI : In Tru M0) (hE : e_all K xq) (en_6_2 : rd M0 6 2 = 2) (en_6_3 : rd M0 6 3 = 27) (en_6_4 : rd M0 6 4 = 35) (en_6_6 : rd M0 6 6 = 4) (a1 : Int) (ha1 : 0 ≤ a1 ∧ a1 ≤ 59)  : Tr l K 25 mX5_yesBlock 0 [(0, (2, 6)), (1, (0, a1))] [] M0 (q_X5_yesBlock_6_w4 M0) := by
  have hS : St Tru ws_X5_yesBlock_6_w4 as_X5_yesBlock_6_w4 M0 M0 := St.rf hI
  refine Tr.aload_n (pc := 0) (i := 0) d_X5_yesBlock_0 rfl rfl ?_
  refine Tr.iload_n (pc := 1) (i := 1) d_X5_yesBlock_1 rfl rfl ?_
  refine Tr.callV (pc := 2) (as := [_]) d_X5_yesBlock_2 s_5_197 ok_X5_block rfl rfl (Nat.le_of_ble_eq_true rfl) (Nat.le_of_ble_eq_true rfl) (by decide) (ty_6 hS.1.1) ?_
  refine Tr.imp (Tr.deep (by decide) (sp_X5_block_6_w4 hS.1 hE ((St.kp hS (by decide) (by decide) (by decide)).trans en_6_2) ((St.kp hS (by decide) (by decide) (by decide)).trans en_6_3) ((St.kp hS (by decide) (by decide) (by decide)).trans en_6_4) en_6_6 a1 (by omega))) ?_
  rintro M2 _ ⟨h2, r2, rfl, lr2, ur2, x2_6_6⟩
  have hS := St.tr hS h2 (by decide) (by decide)
  refine Tr.sc [(0, r2)] rfl ?_
  refine Tr.istore_n (pc := 5) (i := 2) (ls2 := [(2, (0, r2)), (0, (2, 6)), (1, (0, a1))]) d_X5_yesBlock_5 rfl (by decide) rfl ?_
  refine Tr.aload_n (pc := 6) (i := 0) d_X5_yesBlock_6 rfl rfl ?_
  refine Tr.getf (pc := 7) d_X5_yesBlock_7 f_5_32 (by decide) (by decide) (ty_6 hS.1.1) ?_
  refine Tr.tp 35 ((St.kp hS (by decide) (by decide) (by decide)).trans en_6_4) ?_
  refine Tr.getf (pc := 10) d_X5_yesBlock_10 f_5_200 (by decide) (by decide) (ty_35 hS.1.1) ?_
  refine Tr.tp 39 (fx_35_4 hS.1.1) ?_
  refine Tr.iload_n (pc := 13) (i := 1) d_X5_yesBlock_13 rfl rfl ?_
  refine Tr.iload_n (pc := 14) (i := 2) d_X5_yesBlock_14 rfl rfl ?_
  refine Tr.iastS (pc := 15) (P := St Tru ws_X5_yesBlock_6_w4 as_X5_yesBlock_6_w4 M0) d_X5_yesBlock_15 (ty_39 hS.1.1) (by omega) (by omega) (sa_39 hS (by decide) (by omega) trivial) (fun M15 hS w15 => ?_)
  refine Tr.iload_n (pc := 16) (i := 2) d_X5_yesBlock_16 rfl rfl ?_
  refine Tr.bipush (pc := 17) d_X5_yesBlock_17 rfl (by decide) ?_
  refine Tr.icmp_eq (pc := 19) (tgt := 26) d_X5_yesBlock_19 rfl (fun c19 => ?_) (fun c19 => ?_)
  · refine Tr.iconst (pc := 26) d_X5_yesBlock_26 (by decide) ?_
    exact Tr.zret (pc := 27) d_X5_yesBlock_27 rfl (by omega) ⟨hS, _, rfl, by omega, by omega, fun hq => absurd hq (by omega)⟩
  · refine Tr.iconst (pc := 22) d_X5_yesBlock_22 (by decide) ?_
    refine Tr.goto (pc := 23) (tgt := 27) d_X5_yesBlock_23 rfl ?_
    exact Tr.zret (pc := 27) d_X5_yesBlock_27 rfl (by omega) ⟨hS, _, rfl, by omega, by omega, fun _ => ((Wr.b w15 rfl).trans (x2_6_6 (by omega)))⟩

def ws_X5_noBlock_6_w3 : List (Int × Int) := [(6, 0), (6, 1), (6, 5), (6, 6), (35, 0), (35, 11)]
def as_X5_noBlock_6_w3 : List Int := [36, 37, 38, 39, 40, 41, 42, 44, 45]
def q_X5_noBlock_6_w3 (M0 M' : Mem) (r : Option PV) : Prop := St Tru ws_X5_noBlock_6_w3 as_X5_noBlock_6_w3 M0 M' ∧ ∃ v : Int, r = some (0, v) ∧ 0 ≤ v ∧ v ≤ 1 ∧ ((1 ≤ v ∧ v ≤ 1) → rd M' 6 6 = 4)
set_option maxRecDepth 100000 in
set_option maxHeartbeats 4000000 in
theorem sp_X5_noBlock_6_w3 {l : Launch} {K : EC} {M0 : Mem} {xq : Int} (hI : In Tru M0) (hE : e_all K xq) (en_6_2 : rd M0 6 2 = 2) (en_6_3 : rd M0 6 3 = 27) (en_6_4 : rd M0 6 4 = 35) (en_6_6 : rd M0 6 6 = 4) (a1 : Int) (ha1 : 0 ≤ a1 ∧ a1 ≤ 59)  : Tr l K 25 mX5_noBlock 0 [(0, (2, 6)), (1, (0, a1))] [] M0 (q_X5_noBlock_6_w3 M0) := by
  have hS : St Tru ws_X5_noBlock_6_w3 as_X5_noBlock_6_w3 M0 M0 := St.rf hI
  refine Tr.aload_n (pc := 0) (i := 0) d_X5_noBlock_0 rfl rfl ?_
  refine Tr.bipush (pc := 1) d_X5_noBlock_1 rfl (by decide) ?_
  refine Tr.callV (pc := 3) (as := [_]) d_X5_noBlock_3 s_5_71 ok_X5_isOwn rfl rfl (Nat.le_of_ble_eq_true rfl) (Nat.le_of_ble_eq_true rfl) (by decide) (ty_6 hS.1.1) ?_
  refine Tr.imp (Tr.deep (by decide) (sp_X5_isOwn_6 hS.1 ((St.kp hS (by decide) (by decide) (by decide)).trans en_6_2) 13 (by omega))) ?_
  rintro M3 _ ⟨h3, r3, rfl, lr3, ur3⟩
  have hS := St.tr hS h3 (by decide) (by decide)
  refine Tr.sc [(0, r3)] rfl ?_
  refine Tr.if_ne (pc := 6) (tgt := 11) d_X5_noBlock_6 rfl (fun c6 => ?_) (fun c6 => ?_)
  · refine Tr.aload_n (pc := 11) (i := 0) d_X5_noBlock_11 rfl rfl ?_
    refine Tr.callV (pc := 12) (as := []) d_X5_noBlock_12 s_5_74 ok_X5_goOn rfl rfl (Nat.le_of_ble_eq_true rfl) (Nat.le_of_ble_eq_true rfl) (by decide) (ty_6 hS.1.1) ?_
    refine Tr.imp (Tr.deep (by decide) (sp_X5_goOn_6 hS.1 )) ?_
    rintro M12 _ ⟨h12, r12, rfl, lr12, ur12⟩
    have hS := St.tr hS h12 (by decide) (by decide)
    refine Tr.sc [(0, r12)] rfl ?_
    refine Tr.pop (pc := 15) d_X5_noBlock_15 ne01 ?_
    refine Tr.aload_n (pc := 16) (i := 0) d_X5_noBlock_16 rfl rfl ?_
    refine Tr.iload_n (pc := 17) (i := 1) d_X5_noBlock_17 rfl rfl ?_
    refine Tr.callV (pc := 18) (as := [_]) d_X5_noBlock_18 s_5_197 ok_X5_block rfl rfl (Nat.le_of_ble_eq_true rfl) (Nat.le_of_ble_eq_true rfl) (by decide) (ty_6 hS.1.1) ?_
    refine Tr.imp (Tr.deep (by decide) (sp_X5_block_6_w4 hS.1 hE ((St.kp hS (by decide) (by decide) (by decide)).trans en_6_2) ((St.kp hS (by decide) (by decide) (by decide)).trans en_6_3) ((St.kp hS (by decide) (by decide) (by decide)).trans en_6_4) ((St.kp h12 (by decide) (by decide) (by decide)).trans ((St.kp h3 (by decide) (by decide) (by decide)).trans en_6_6)) a1 (by omega))) ?_
    rintro M18 _ ⟨h18, r18, rfl, lr18, ur18, x18_6_6⟩
    have hS := St.tr hS h18 (by decide) (by decide)
    refine Tr.sc [(0, r18)] rfl ?_
    refine Tr.istore_n (pc := 21) (i := 2) (ls2 := [(2, (0, r18)), (0, (2, 6)), (1, (0, a1))]) d_X5_noBlock_21 rfl (by decide) rfl ?_
    refine Tr.aload_n (pc := 22) (i := 0) d_X5_noBlock_22 rfl rfl ?_
    refine Tr.getf (pc := 23) d_X5_noBlock_23 f_5_32 (by decide) (by decide) (ty_6 hS.1.1) ?_
    refine Tr.tp 35 ((St.kp hS (by decide) (by decide) (by decide)).trans en_6_4) ?_
    refine Tr.getf (pc := 26) d_X5_noBlock_26 f_5_203 (by decide) (by decide) (ty_35 hS.1.1) ?_
    refine Tr.tp 40 (fx_35_5 hS.1.1) ?_
    refine Tr.iload_n (pc := 29) (i := 1) d_X5_noBlock_29 rfl rfl ?_
    refine Tr.iload_n (pc := 30) (i := 2) d_X5_noBlock_30 rfl rfl ?_
    refine Tr.iastS (pc := 31) (P := St Tru ws_X5_noBlock_6_w3 as_X5_noBlock_6_w3 M0) d_X5_noBlock_31 (ty_40 hS.1.1) (by omega) (by omega) (sa_40 hS (by decide) (by omega) trivial) (fun M31 hS w31 => ?_)
    refine Tr.iload_n (pc := 32) (i := 2) d_X5_noBlock_32 rfl rfl ?_
    refine Tr.bipush (pc := 33) d_X5_noBlock_33 rfl (by decide) ?_
    refine Tr.icmp_eq (pc := 35) (tgt := 42) d_X5_noBlock_35 rfl (fun c35 => ?_) (fun c35 => ?_)
    · refine Tr.iconst (pc := 42) d_X5_noBlock_42 (by decide) ?_
      exact Tr.zret (pc := 43) d_X5_noBlock_43 rfl (by omega) ⟨hS, _, rfl, by omega, by omega, fun hq => absurd hq (by omega)⟩
    · refine Tr.iconst (pc := 38) d_X5_noBlock_38 (by decide) ?_
      refine Tr.goto (pc := 39) (tgt := 43) d_X5_noBlock_39 rfl ?_
      exact Tr.zret (pc := 43) d_X5_noBlock_43 rfl (by omega) ⟨hS, _, rfl, by omega, by omega, fun _ => ((Wr.b w31 rfl).trans (x18_6_6 (by omega)))⟩
  · refine Tr.iconst (pc := 9) d_X5_noBlock_9 (by decide) ?_
    exact Tr.zret (pc := 10) d_X5_noBlock_10 rfl (by omega) ⟨hS, _, rfl, by omega, by omega, fun _ => ((St.kp h3 (by decide) (by decide) (by decide)).trans en_6_6)⟩
end
/-! 34.16 -/
section
def ws_X5_order_6_w4 : List (Int × Int) := [(6, 0), (6, 1), (6, 5), (6, 6), (35, 0), (35, 11)]
def as_X5_order_6_w4 : List Int := [36, 37, 38, 39, 40, 41, 42, 44, 45]
def q_X5_order_6_w4 (M0 M' : Mem) (r : Option PV) : Prop := St Tru ws_X5_order_6_w4 as_X5_order_6_w4 M0 M' ∧ ∃ v : Int, r = some (0, v) ∧ 0 ≤ v ∧ v ≤ 1 ∧ ((1 ≤ v ∧ v ≤ 1) → rd M' 6 6 = 4)
set_option maxRecDepth 100000 in
set_option maxHeartbeats 4000000 in
theorem sp_X5_order_6_w4 {l : Launch} {K : EC} {M0 : Mem} {xq : Int} (hI : In Tru M0) (hE : e_all K xq) (en_6_2 : rd M0 6 2 = 2) (en_6_3 : rd M0 6 3 = 27) (en_6_4 : rd M0 6 4 = 35) (en_6_6 : rd M0 6 6 = 4) (a1 : Int) (ha1 : 0 ≤ a1 ∧ a1 ≤ 59)  : Tr l K 26 mX5_order 0 [(0, (2, 6)), (1, (0, a1))] [] M0 (q_X5_order_6_w4 M0) := by
  have hS : St Tru ws_X5_order_6_w4 as_X5_order_6_w4 M0 M0 := St.rf hI
  refine Tr.aload_n (pc := 0) (i := 0) d_X5_order_0 rfl rfl ?_
  refine Tr.getf (pc := 1) d_X5_order_1 f_5_32 (by decide) (by decide) (ty_6 hS.1.1) ?_
  refine Tr.tp 35 ((St.kp hS (by decide) (by decide) (by decide)).trans en_6_4) ?_
  refine Tr.getf (pc := 4) d_X5_order_4 f_5_169 (by decide) (by decide) (ty_35 hS.1.1) ?_
  refine Tr.tp 36 (fx_35_1 hS.1.1) ?_
  refine Tr.iload_n (pc := 7) (i := 1) d_X5_order_7 rfl rfl ?_
  refine Tr.iald (pc := 8) d_X5_order_8 (ty_36 hS.1.1) (by omega) (by omega) ?_
  refine Tr.gen (P := fun v => (-2147483648) ≤ v ∧ v ≤ 2147483647) (ar_36 hS.1.2.1 _) (fun r8 er8 br8 => ?_)
  rcases (show (r8 < 5 ∨ 11 < r8) ∨ r8 = 5 ∨ r8 = 6 ∨ r8 = 7 ∨ r8 = 8 ∨ r8 = 9 ∨ r8 = 10 ∨ r8 = 11 by omega) with c9 | c9 | c9 | c9 | c9 | c9 | c9 | c9
  · refine Tr.tswOut (pc := 9) (tgt := 198) d_X5_order_9 c9 rfl ?_
    refine Tr.aload_n (pc := 198) (i := 0) d_X5_order_198 rfl rfl ?_
    refine Tr.callV (pc := 199) (as := []) d_X5_order_199 s_5_177 ok_X5_test rfl rfl (Nat.le_of_ble_eq_true rfl) (Nat.le_of_ble_eq_true rfl) (by decide) (ty_6 hS.1.1) ?_
    refine Tr.imp (Tr.deep (by decide) (sp_X5_test_6_w4 hS.1 hE ((St.kp hS (by decide) (by decide) (by decide)).trans en_6_2) ((St.kp hS (by decide) (by decide) (by decide)).trans en_6_3) ((St.kp hS (by decide) (by decide) (by decide)).trans en_6_4) en_6_6)) ?_
    rintro M199 _ ⟨h199, r199, rfl, lr199, ur199, x199_6_6⟩
    have hS := St.tr hS h199 (by decide) (by decide)
    refine Tr.sc [(0, r199)] rfl ?_
    refine Tr.if_eq (pc := 202) (tgt := 217) d_X5_order_202 rfl (fun c202 => ?_) (fun c202 => ?_)
    · refine Tr.iconst (pc := 217) d_X5_order_217 (by decide) ?_
      exact Tr.zret (pc := 218) d_X5_order_218 rfl (by omega) ⟨hS, _, rfl, by omega, by omega, fun hq => absurd hq (by omega)⟩
    · refine Tr.aload_n (pc := 205) (i := 0) d_X5_order_205 rfl rfl ?_
      refine Tr.iload_n (pc := 206) (i := 1) d_X5_order_206 rfl rfl ?_
      refine Tr.callV (pc := 207) (as := [_]) d_X5_order_207 s_5_180 ok_X5_yesBlock rfl rfl (Nat.le_of_ble_eq_true rfl) (Nat.le_of_ble_eq_true rfl) (by decide) (ty_6 hS.1.1) ?_
      refine Tr.imp (Tr.deep (by decide) (sp_X5_yesBlock_6_w4 hS.1 hE ((St.kp hS (by decide) (by decide) (by decide)).trans en_6_2) ((St.kp hS (by decide) (by decide) (by decide)).trans en_6_3) ((St.kp hS (by decide) (by decide) (by decide)).trans en_6_4) (x199_6_6 (by omega)) a1 (by omega))) ?_
      rintro M207 _ ⟨h207, r207, rfl, lr207, ur207, x207_6_6⟩
      have hS := St.tr hS h207 (by decide) (by decide)
      refine Tr.sc [(0, r207)] rfl ?_
      refine Tr.if_eq (pc := 210) (tgt := 217) d_X5_order_210 rfl (fun c210 => ?_) (fun c210 => ?_)
      · refine Tr.iconst (pc := 217) d_X5_order_217 (by decide) ?_
        exact Tr.zret (pc := 218) d_X5_order_218 rfl (by omega) ⟨hS, _, rfl, by omega, by omega, fun hq => absurd hq (by omega)⟩
      · refine Tr.iconst (pc := 213) d_X5_order_213 (by decide) ?_
        refine Tr.goto (pc := 214) (tgt := 218) d_X5_order_214 rfl ?_
        exact Tr.zret (pc := 218) d_X5_order_218 rfl (by omega) ⟨hS, _, rfl, by omega, by omega, fun _ => (x207_6_6 (by omega))⟩
  · refine Tr.tp 5 c9 ?_
    refine Tr.tswIn (pc := 9) (off := 43) (tgt := 52) d_X5_order_9 (by decide) (by decide) rfl rfl ?_
    refine Tr.aload_n (pc := 52) (i := 0) d_X5_order_52 rfl rfl ?_
    refine Tr.iload_n (pc := 53) (i := 1) d_X5_order_53 rfl rfl ?_
    refine Tr.iconst (pc := 54) d_X5_order_54 (by decide) ?_
    refine Tr.callV (pc := 55) (as := [_, _]) d_X5_order_55 s_5_170 ok_X5_about rfl rfl (Nat.le_of_ble_eq_true rfl) (Nat.le_of_ble_eq_true rfl) (by decide) (ty_6 hS.1.1) ?_
    refine Tr.imp (Tr.deep (by decide) (sp_X5_about_6_v2 hS.1 hE ((St.kp hS (by decide) (by decide) (by decide)).trans en_6_2) ((St.kp hS (by decide) (by decide) (by decide)).trans en_6_3) ((St.kp hS (by decide) (by decide) (by decide)).trans en_6_4) a1 (by omega))) ?_
    rintro M55 _ ⟨h55, r55, rfl, lr55, ur55⟩
    have hS := St.tr hS h55 (by decide) (by decide)
    refine Tr.sc [(0, r55)] rfl ?_
    refine Tr.if_eq (pc := 58) (tgt := 90) d_X5_order_58 rfl (fun c58 => ?_) (fun c58 => ?_)
    · refine Tr.iconst (pc := 90) d_X5_order_90 (by decide) ?_
      exact Tr.zret (pc := 91) d_X5_order_91 rfl (by omega) ⟨hS, _, rfl, by omega, by omega, fun hq => absurd hq (by omega)⟩
    · refine Tr.aload_n (pc := 61) (i := 0) d_X5_order_61 rfl rfl ?_
      refine Tr.bipush (pc := 62) d_X5_order_62 rfl (by decide) ?_
      refine Tr.callV (pc := 64) (as := [_]) d_X5_order_64 s_5_81 ok_X5_takeSign rfl rfl (Nat.le_of_ble_eq_true rfl) (Nat.le_of_ble_eq_true rfl) (by decide) (ty_6 hS.1.1) ?_
      refine Tr.imp (Tr.deep (by decide) (sp_X5_takeSign_6_w3 hS.1 ((St.kp hS (by decide) (by decide) (by decide)).trans en_6_2) 61 (by omega))) ?_
      rintro M64 _ ⟨h64, r64, rfl, lr64, ur64⟩
      have hS := St.tr hS h64 (by decide) (by decide)
      refine Tr.sc [(0, r64)] rfl ?_
      refine Tr.if_eq (pc := 67) (tgt := 90) d_X5_order_67 rfl (fun c67 => ?_) (fun c67 => ?_)
      · refine Tr.iconst (pc := 90) d_X5_order_90 (by decide) ?_
        exact Tr.zret (pc := 91) d_X5_order_91 rfl (by omega) ⟨hS, _, rfl, by omega, by omega, fun hq => absurd hq (by omega)⟩
      · refine Tr.aload_n (pc := 70) (i := 0) d_X5_order_70 rfl rfl ?_
        refine Tr.callV (pc := 71) (as := []) d_X5_order_71 s_5_174 ok_X5_sum rfl rfl (Nat.le_of_ble_eq_true rfl) (Nat.le_of_ble_eq_true rfl) (by decide) (ty_6 hS.1.1) ?_
        refine Tr.imp (Tr.deep (by decide) (sp_X5_sum_6_w4 hS.1 hE ((St.kp hS (by decide) (by decide) (by decide)).trans en_6_2) ((St.kp hS (by decide) (by decide) (by decide)).trans en_6_3) ((St.kp hS (by decide) (by decide) (by decide)).trans en_6_4) ((St.kp h64 (by decide) (by decide) (by decide)).trans ((St.kp h55 (by decide) (by decide) (by decide)).trans en_6_6)))) ?_
        rintro M71 _ ⟨h71, r71, rfl, lr71, ur71, x71_6_6⟩
        have hS := St.tr hS h71 (by decide) (by decide)
        refine Tr.sc [(0, r71)] rfl ?_
        refine Tr.if_eq (pc := 74) (tgt := 90) d_X5_order_74 rfl (fun c74 => ?_) (fun c74 => ?_)
        · refine Tr.iconst (pc := 90) d_X5_order_90 (by decide) ?_
          exact Tr.zret (pc := 91) d_X5_order_91 rfl (by omega) ⟨hS, _, rfl, by omega, by omega, fun hq => absurd hq (by omega)⟩
        · refine Tr.aload_n (pc := 77) (i := 0) d_X5_order_77 rfl rfl ?_
          refine Tr.bipush (pc := 78) d_X5_order_78 rfl (by decide) ?_
          refine Tr.callV (pc := 80) (as := [_]) d_X5_order_80 s_5_81 ok_X5_takeSign rfl rfl (Nat.le_of_ble_eq_true rfl) (Nat.le_of_ble_eq_true rfl) (by decide) (ty_6 hS.1.1) ?_
          refine Tr.imp (Tr.deep (by decide) (sp_X5_takeSign_6 hS.1 ((St.kp hS (by decide) (by decide) (by decide)).trans en_6_2) 59 (by omega))) ?_
          rintro M80 _ ⟨h80, r80, rfl, lr80, ur80⟩
          have hS := St.tr hS h80 (by decide) (by decide)
          refine Tr.sc [(0, r80)] rfl ?_
          refine Tr.if_eq (pc := 83) (tgt := 90) d_X5_order_83 rfl (fun c83 => ?_) (fun c83 => ?_)
          · refine Tr.iconst (pc := 90) d_X5_order_90 (by decide) ?_
            exact Tr.zret (pc := 91) d_X5_order_91 rfl (by omega) ⟨hS, _, rfl, by omega, by omega, fun hq => absurd hq (by omega)⟩
          · refine Tr.iconst (pc := 86) d_X5_order_86 (by decide) ?_
            refine Tr.goto (pc := 87) (tgt := 91) d_X5_order_87 rfl ?_
            exact Tr.zret (pc := 91) d_X5_order_91 rfl (by omega) ⟨hS, _, rfl, by omega, by omega, fun _ => ((St.kp h80 (by decide) (by decide) (by decide)).trans (x71_6_6 (by omega)))⟩
  · refine Tr.tp 6 c9 ?_
    refine Tr.tswIn (pc := 9) (off := 83) (tgt := 92) d_X5_order_9 (by decide) (by decide) rfl rfl ?_
    refine Tr.aload_n (pc := 92) (i := 0) d_X5_order_92 rfl rfl ?_
    refine Tr.iload_n (pc := 93) (i := 1) d_X5_order_93 rfl rfl ?_
    refine Tr.iconst (pc := 94) d_X5_order_94 (by decide) ?_
    refine Tr.callV (pc := 95) (as := [_, _]) d_X5_order_95 s_5_170 ok_X5_about rfl rfl (Nat.le_of_ble_eq_true rfl) (Nat.le_of_ble_eq_true rfl) (by decide) (ty_6 hS.1.1) ?_
    refine Tr.imp (Tr.deep (by decide) (sp_X5_about_6_v0 hS.1 hE ((St.kp hS (by decide) (by decide) (by decide)).trans en_6_2) ((St.kp hS (by decide) (by decide) (by decide)).trans en_6_3) ((St.kp hS (by decide) (by decide) (by decide)).trans en_6_4) a1 (by omega))) ?_
    rintro M95 _ ⟨h95, r95, rfl, lr95, ur95⟩
    have hS := St.tr hS h95 (by decide) (by decide)
    refine Tr.sc [(0, r95)] rfl ?_
    refine Tr.if_eq (pc := 98) (tgt := 121) d_X5_order_98 rfl (fun c98 => ?_) (fun c98 => ?_)
    · refine Tr.iconst (pc := 121) d_X5_order_121 (by decide) ?_
      exact Tr.zret (pc := 122) d_X5_order_122 rfl (by omega) ⟨hS, _, rfl, by omega, by omega, fun hq => absurd hq (by omega)⟩
    · refine Tr.aload_n (pc := 101) (i := 0) d_X5_order_101 rfl rfl ?_
      refine Tr.callV (pc := 102) (as := []) d_X5_order_102 s_5_174 ok_X5_sum rfl rfl (Nat.le_of_ble_eq_true rfl) (Nat.le_of_ble_eq_true rfl) (by decide) (ty_6 hS.1.1) ?_
      refine Tr.imp (Tr.deep (by decide) (sp_X5_sum_6_w4 hS.1 hE ((St.kp hS (by decide) (by decide) (by decide)).trans en_6_2) ((St.kp hS (by decide) (by decide) (by decide)).trans en_6_3) ((St.kp hS (by decide) (by decide) (by decide)).trans en_6_4) ((St.kp h95 (by decide) (by decide) (by decide)).trans en_6_6))) ?_
      rintro M102 _ ⟨h102, r102, rfl, lr102, ur102, x102_6_6⟩
      have hS := St.tr hS h102 (by decide) (by decide)
      refine Tr.sc [(0, r102)] rfl ?_
      refine Tr.if_eq (pc := 105) (tgt := 121) d_X5_order_105 rfl (fun c105 => ?_) (fun c105 => ?_)
      · refine Tr.iconst (pc := 121) d_X5_order_121 (by decide) ?_
        exact Tr.zret (pc := 122) d_X5_order_122 rfl (by omega) ⟨hS, _, rfl, by omega, by omega, fun hq => absurd hq (by omega)⟩
      · refine Tr.aload_n (pc := 108) (i := 0) d_X5_order_108 rfl rfl ?_
        refine Tr.bipush (pc := 109) d_X5_order_109 rfl (by decide) ?_
        refine Tr.callV (pc := 111) (as := [_]) d_X5_order_111 s_5_81 ok_X5_takeSign rfl rfl (Nat.le_of_ble_eq_true rfl) (Nat.le_of_ble_eq_true rfl) (by decide) (ty_6 hS.1.1) ?_
        refine Tr.imp (Tr.deep (by decide) (sp_X5_takeSign_6 hS.1 ((St.kp hS (by decide) (by decide) (by decide)).trans en_6_2) 59 (by omega))) ?_
        rintro M111 _ ⟨h111, r111, rfl, lr111, ur111⟩
        have hS := St.tr hS h111 (by decide) (by decide)
        refine Tr.sc [(0, r111)] rfl ?_
        refine Tr.if_eq (pc := 114) (tgt := 121) d_X5_order_114 rfl (fun c114 => ?_) (fun c114 => ?_)
        · refine Tr.iconst (pc := 121) d_X5_order_121 (by decide) ?_
          exact Tr.zret (pc := 122) d_X5_order_122 rfl (by omega) ⟨hS, _, rfl, by omega, by omega, fun hq => absurd hq (by omega)⟩
        · refine Tr.iconst (pc := 117) d_X5_order_117 (by decide) ?_
          refine Tr.goto (pc := 118) (tgt := 122) d_X5_order_118 rfl ?_
          exact Tr.zret (pc := 122) d_X5_order_122 rfl (by omega) ⟨hS, _, rfl, by omega, by omega, fun _ => ((St.kp h111 (by decide) (by decide) (by decide)).trans (x102_6_6 (by omega)))⟩
  · refine Tr.tp 7 c9 ?_
    refine Tr.tswIn (pc := 9) (off := 114) (tgt := 123) d_X5_order_9 (by decide) (by decide) rfl rfl ?_
    refine Tr.aload_n (pc := 123) (i := 0) d_X5_order_123 rfl rfl ?_
    refine Tr.iload_n (pc := 124) (i := 1) d_X5_order_124 rfl rfl ?_
    refine Tr.iconst (pc := 125) d_X5_order_125 (by decide) ?_
    refine Tr.callV (pc := 126) (as := [_, _]) d_X5_order_126 s_5_170 ok_X5_about rfl rfl (Nat.le_of_ble_eq_true rfl) (Nat.le_of_ble_eq_true rfl) (by decide) (ty_6 hS.1.1) ?_
    refine Tr.imp (Tr.deep (by decide) (sp_X5_about_6_v0 hS.1 hE ((St.kp hS (by decide) (by decide) (by decide)).trans en_6_2) ((St.kp hS (by decide) (by decide) (by decide)).trans en_6_3) ((St.kp hS (by decide) (by decide) (by decide)).trans en_6_4) a1 (by omega))) ?_
    rintro M126 _ ⟨h126, r126, rfl, lr126, ur126⟩
    have hS := St.tr hS h126 (by decide) (by decide)
    refine Tr.sc [(0, r126)] rfl ?_
    refine Tr.if_eq (pc := 129) (tgt := 145) d_X5_order_129 rfl (fun c129 => ?_) (fun c129 => ?_)
    · refine Tr.iconst (pc := 145) d_X5_order_145 (by decide) ?_
      exact Tr.zret (pc := 146) d_X5_order_146 rfl (by omega) ⟨hS, _, rfl, by omega, by omega, fun hq => absurd hq (by omega)⟩
    · refine Tr.aload_n (pc := 132) (i := 0) d_X5_order_132 rfl rfl ?_
      refine Tr.bipush (pc := 133) d_X5_order_133 rfl (by decide) ?_
      refine Tr.callV (pc := 135) (as := [_]) d_X5_order_135 s_5_81 ok_X5_takeSign rfl rfl (Nat.le_of_ble_eq_true rfl) (Nat.le_of_ble_eq_true rfl) (by decide) (ty_6 hS.1.1) ?_
      refine Tr.imp (Tr.deep (by decide) (sp_X5_takeSign_6 hS.1 ((St.kp hS (by decide) (by decide) (by decide)).trans en_6_2) 59 (by omega))) ?_
      rintro M135 _ ⟨h135, r135, rfl, lr135, ur135⟩
      have hS := St.tr hS h135 (by decide) (by decide)
      refine Tr.sc [(0, r135)] rfl ?_
      refine Tr.if_eq (pc := 138) (tgt := 145) d_X5_order_138 rfl (fun c138 => ?_) (fun c138 => ?_)
      · refine Tr.iconst (pc := 145) d_X5_order_145 (by decide) ?_
        exact Tr.zret (pc := 146) d_X5_order_146 rfl (by omega) ⟨hS, _, rfl, by omega, by omega, fun hq => absurd hq (by omega)⟩
      · refine Tr.iconst (pc := 141) d_X5_order_141 (by decide) ?_
        refine Tr.goto (pc := 142) (tgt := 146) d_X5_order_142 rfl ?_
        exact Tr.zret (pc := 146) d_X5_order_146 rfl (by omega) ⟨hS, _, rfl, by omega, by omega, fun _ => ((St.kp h135 (by decide) (by decide) (by decide)).trans ((St.kp h126 (by decide) (by decide) (by decide)).trans en_6_6))⟩
  · refine Tr.tp 8 c9 ?_
    refine Tr.tswIn (pc := 9) (off := 114) (tgt := 123) d_X5_order_9 (by decide) (by decide) rfl rfl ?_
    refine Tr.aload_n (pc := 123) (i := 0) d_X5_order_123 rfl rfl ?_
    refine Tr.iload_n (pc := 124) (i := 1) d_X5_order_124 rfl rfl ?_
    refine Tr.iconst (pc := 125) d_X5_order_125 (by decide) ?_
    refine Tr.callV (pc := 126) (as := [_, _]) d_X5_order_126 s_5_170 ok_X5_about rfl rfl (Nat.le_of_ble_eq_true rfl) (Nat.le_of_ble_eq_true rfl) (by decide) (ty_6 hS.1.1) ?_
    refine Tr.imp (Tr.deep (by decide) (sp_X5_about_6_v0 hS.1 hE ((St.kp hS (by decide) (by decide) (by decide)).trans en_6_2) ((St.kp hS (by decide) (by decide) (by decide)).trans en_6_3) ((St.kp hS (by decide) (by decide) (by decide)).trans en_6_4) a1 (by omega))) ?_
    rintro M126 _ ⟨h126, r126, rfl, lr126, ur126⟩
    have hS := St.tr hS h126 (by decide) (by decide)
    refine Tr.sc [(0, r126)] rfl ?_
    refine Tr.if_eq (pc := 129) (tgt := 145) d_X5_order_129 rfl (fun c129 => ?_) (fun c129 => ?_)
    · refine Tr.iconst (pc := 145) d_X5_order_145 (by decide) ?_
      exact Tr.zret (pc := 146) d_X5_order_146 rfl (by omega) ⟨hS, _, rfl, by omega, by omega, fun hq => absurd hq (by omega)⟩
    · refine Tr.aload_n (pc := 132) (i := 0) d_X5_order_132 rfl rfl ?_
      refine Tr.bipush (pc := 133) d_X5_order_133 rfl (by decide) ?_
      refine Tr.callV (pc := 135) (as := [_]) d_X5_order_135 s_5_81 ok_X5_takeSign rfl rfl (Nat.le_of_ble_eq_true rfl) (Nat.le_of_ble_eq_true rfl) (by decide) (ty_6 hS.1.1) ?_
      refine Tr.imp (Tr.deep (by decide) (sp_X5_takeSign_6 hS.1 ((St.kp hS (by decide) (by decide) (by decide)).trans en_6_2) 59 (by omega))) ?_
      rintro M135 _ ⟨h135, r135, rfl, lr135, ur135⟩
      have hS := St.tr hS h135 (by decide) (by decide)
      refine Tr.sc [(0, r135)] rfl ?_
      refine Tr.if_eq (pc := 138) (tgt := 145) d_X5_order_138 rfl (fun c138 => ?_) (fun c138 => ?_)
      · refine Tr.iconst (pc := 145) d_X5_order_145 (by decide) ?_
        exact Tr.zret (pc := 146) d_X5_order_146 rfl (by omega) ⟨hS, _, rfl, by omega, by omega, fun hq => absurd hq (by omega)⟩
      · refine Tr.iconst (pc := 141) d_X5_order_141 (by decide) ?_
        refine Tr.goto (pc := 142) (tgt := 146) d_X5_order_142 rfl ?_
        exact Tr.zret (pc := 146) d_X5_order_146 rfl (by omega) ⟨hS, _, rfl, by omega, by omega, fun _ => ((St.kp h135 (by decide) (by decide) (by decide)).trans ((St.kp h126 (by decide) (by decide) (by decide)).trans en_6_6))⟩
  · refine Tr.tp 9 c9 ?_
    refine Tr.tswIn (pc := 9) (off := 138) (tgt := 147) d_X5_order_9 (by decide) (by decide) rfl rfl ?_
    refine Tr.aload_n (pc := 147) (i := 0) d_X5_order_147 rfl rfl ?_
    refine Tr.callV (pc := 148) (as := []) d_X5_order_148 s_5_174 ok_X5_sum rfl rfl (Nat.le_of_ble_eq_true rfl) (Nat.le_of_ble_eq_true rfl) (by decide) (ty_6 hS.1.1) ?_
    refine Tr.imp (Tr.deep (by decide) (sp_X5_sum_6_w4 hS.1 hE ((St.kp hS (by decide) (by decide) (by decide)).trans en_6_2) ((St.kp hS (by decide) (by decide) (by decide)).trans en_6_3) ((St.kp hS (by decide) (by decide) (by decide)).trans en_6_4) en_6_6)) ?_
    rintro M148 _ ⟨h148, r148, rfl, lr148, ur148, x148_6_6⟩
    have hS := St.tr hS h148 (by decide) (by decide)
    refine Tr.sc [(0, r148)] rfl ?_
    refine Tr.if_eq (pc := 151) (tgt := 167) d_X5_order_151 rfl (fun c151 => ?_) (fun c151 => ?_)
    · refine Tr.iconst (pc := 167) d_X5_order_167 (by decide) ?_
      exact Tr.zret (pc := 168) d_X5_order_168 rfl (by omega) ⟨hS, _, rfl, by omega, by omega, fun hq => absurd hq (by omega)⟩
    · refine Tr.aload_n (pc := 154) (i := 0) d_X5_order_154 rfl rfl ?_
      refine Tr.bipush (pc := 155) d_X5_order_155 rfl (by decide) ?_
      refine Tr.callV (pc := 157) (as := [_]) d_X5_order_157 s_5_81 ok_X5_takeSign rfl rfl (Nat.le_of_ble_eq_true rfl) (Nat.le_of_ble_eq_true rfl) (by decide) (ty_6 hS.1.1) ?_
      refine Tr.imp (Tr.deep (by decide) (sp_X5_takeSign_6 hS.1 ((St.kp hS (by decide) (by decide) (by decide)).trans en_6_2) 59 (by omega))) ?_
      rintro M157 _ ⟨h157, r157, rfl, lr157, ur157⟩
      have hS := St.tr hS h157 (by decide) (by decide)
      refine Tr.sc [(0, r157)] rfl ?_
      refine Tr.if_eq (pc := 160) (tgt := 167) d_X5_order_160 rfl (fun c160 => ?_) (fun c160 => ?_)
      · refine Tr.iconst (pc := 167) d_X5_order_167 (by decide) ?_
        exact Tr.zret (pc := 168) d_X5_order_168 rfl (by omega) ⟨hS, _, rfl, by omega, by omega, fun hq => absurd hq (by omega)⟩
      · refine Tr.iconst (pc := 163) d_X5_order_163 (by decide) ?_
        refine Tr.goto (pc := 164) (tgt := 168) d_X5_order_164 rfl ?_
        exact Tr.zret (pc := 168) d_X5_order_168 rfl (by omega) ⟨hS, _, rfl, by omega, by omega, fun _ => ((St.kp h157 (by decide) (by decide) (by decide)).trans (x148_6_6 (by omega)))⟩
  · refine Tr.tp 10 c9 ?_
    refine Tr.tswIn (pc := 9) (off := 138) (tgt := 147) d_X5_order_9 (by decide) (by decide) rfl rfl ?_
    refine Tr.aload_n (pc := 147) (i := 0) d_X5_order_147 rfl rfl ?_
    refine Tr.callV (pc := 148) (as := []) d_X5_order_148 s_5_174 ok_X5_sum rfl rfl (Nat.le_of_ble_eq_true rfl) (Nat.le_of_ble_eq_true rfl) (by decide) (ty_6 hS.1.1) ?_
    refine Tr.imp (Tr.deep (by decide) (sp_X5_sum_6_w4 hS.1 hE ((St.kp hS (by decide) (by decide) (by decide)).trans en_6_2) ((St.kp hS (by decide) (by decide) (by decide)).trans en_6_3) ((St.kp hS (by decide) (by decide) (by decide)).trans en_6_4) en_6_6)) ?_
    rintro M148 _ ⟨h148, r148, rfl, lr148, ur148, x148_6_6⟩
    have hS := St.tr hS h148 (by decide) (by decide)
    refine Tr.sc [(0, r148)] rfl ?_
    refine Tr.if_eq (pc := 151) (tgt := 167) d_X5_order_151 rfl (fun c151 => ?_) (fun c151 => ?_)
    · refine Tr.iconst (pc := 167) d_X5_order_167 (by decide) ?_
      exact Tr.zret (pc := 168) d_X5_order_168 rfl (by omega) ⟨hS, _, rfl, by omega, by omega, fun hq => absurd hq (by omega)⟩
    · refine Tr.aload_n (pc := 154) (i := 0) d_X5_order_154 rfl rfl ?_
      refine Tr.bipush (pc := 155) d_X5_order_155 rfl (by decide) ?_
      refine Tr.callV (pc := 157) (as := [_]) d_X5_order_157 s_5_81 ok_X5_takeSign rfl rfl (Nat.le_of_ble_eq_true rfl) (Nat.le_of_ble_eq_true rfl) (by decide) (ty_6 hS.1.1) ?_
      refine Tr.imp (Tr.deep (by decide) (sp_X5_takeSign_6 hS.1 ((St.kp hS (by decide) (by decide) (by decide)).trans en_6_2) 59 (by omega))) ?_
      rintro M157 _ ⟨h157, r157, rfl, lr157, ur157⟩
      have hS := St.tr hS h157 (by decide) (by decide)
      refine Tr.sc [(0, r157)] rfl ?_
      refine Tr.if_eq (pc := 160) (tgt := 167) d_X5_order_160 rfl (fun c160 => ?_) (fun c160 => ?_)
      · refine Tr.iconst (pc := 167) d_X5_order_167 (by decide) ?_
        exact Tr.zret (pc := 168) d_X5_order_168 rfl (by omega) ⟨hS, _, rfl, by omega, by omega, fun hq => absurd hq (by omega)⟩
      · refine Tr.iconst (pc := 163) d_X5_order_163 (by decide) ?_
        refine Tr.goto (pc := 164) (tgt := 168) d_X5_order_164 rfl ?_
        exact Tr.zret (pc := 168) d_X5_order_168 rfl (by omega) ⟨hS, _, rfl, by omega, by omega, fun _ => ((St.kp h157 (by decide) (by decide) (by decide)).trans (x148_6_6 (by omega)))⟩
  · refine Tr.tp 11 c9 ?_
    refine Tr.tswIn (pc := 9) (off := 160) (tgt := 169) d_X5_order_9 (by decide) (by decide) rfl rfl ?_
    refine Tr.aload_n (pc := 169) (i := 0) d_X5_order_169 rfl rfl ?_
    refine Tr.callV (pc := 170) (as := []) d_X5_order_170 s_5_177 ok_X5_test rfl rfl (Nat.le_of_ble_eq_true rfl) (Nat.le_of_ble_eq_true rfl) (by decide) (ty_6 hS.1.1) ?_
    refine Tr.imp (Tr.deep (by decide) (sp_X5_test_6_w4 hS.1 hE ((St.kp hS (by decide) (by decide) (by decide)).trans en_6_2) ((St.kp hS (by decide) (by decide) (by decide)).trans en_6_3) ((St.kp hS (by decide) (by decide) (by decide)).trans en_6_4) en_6_6)) ?_
    rintro M170 _ ⟨h170, r170, rfl, lr170, ur170, x170_6_6⟩
    have hS := St.tr hS h170 (by decide) (by decide)
    refine Tr.sc [(0, r170)] rfl ?_
    refine Tr.if_eq (pc := 173) (tgt := 196) d_X5_order_173 rfl (fun c173 => ?_) (fun c173 => ?_)
    · refine Tr.iconst (pc := 196) d_X5_order_196 (by decide) ?_
      exact Tr.zret (pc := 197) d_X5_order_197 rfl (by omega) ⟨hS, _, rfl, by omega, by omega, fun hq => absurd hq (by omega)⟩
    · refine Tr.aload_n (pc := 176) (i := 0) d_X5_order_176 rfl rfl ?_
      refine Tr.iload_n (pc := 177) (i := 1) d_X5_order_177 rfl rfl ?_
      refine Tr.callV (pc := 178) (as := [_]) d_X5_order_178 s_5_180 ok_X5_yesBlock rfl rfl (Nat.le_of_ble_eq_true rfl) (Nat.le_of_ble_eq_true rfl) (by decide) (ty_6 hS.1.1) ?_
      refine Tr.imp (Tr.deep (by decide) (sp_X5_yesBlock_6_w4 hS.1 hE ((St.kp hS (by decide) (by decide) (by decide)).trans en_6_2) ((St.kp hS (by decide) (by decide) (by decide)).trans en_6_3) ((St.kp hS (by decide) (by decide) (by decide)).trans en_6_4) (x170_6_6 (by omega)) a1 (by omega))) ?_
      rintro M178 _ ⟨h178, r178, rfl, lr178, ur178, x178_6_6⟩
      have hS := St.tr hS h178 (by decide) (by decide)
      refine Tr.sc [(0, r178)] rfl ?_
      refine Tr.if_eq (pc := 181) (tgt := 196) d_X5_order_181 rfl (fun c181 => ?_) (fun c181 => ?_)
      · refine Tr.iconst (pc := 196) d_X5_order_196 (by decide) ?_
        exact Tr.zret (pc := 197) d_X5_order_197 rfl (by omega) ⟨hS, _, rfl, by omega, by omega, fun hq => absurd hq (by omega)⟩
      · refine Tr.aload_n (pc := 184) (i := 0) d_X5_order_184 rfl rfl ?_
        refine Tr.iload_n (pc := 185) (i := 1) d_X5_order_185 rfl rfl ?_
        refine Tr.callV (pc := 186) (as := [_]) d_X5_order_186 s_5_183 ok_X5_noBlock rfl rfl (Nat.le_of_ble_eq_true rfl) (Nat.le_of_ble_eq_true rfl) (by decide) (ty_6 hS.1.1) ?_
        refine Tr.imp (Tr.deep (by decide) (sp_X5_noBlock_6_w3 hS.1 hE ((St.kp hS (by decide) (by decide) (by decide)).trans en_6_2) ((St.kp hS (by decide) (by decide) (by decide)).trans en_6_3) ((St.kp hS (by decide) (by decide) (by decide)).trans en_6_4) (x178_6_6 (by omega)) a1 (by omega))) ?_
        rintro M186 _ ⟨h186, r186, rfl, lr186, ur186, x186_6_6⟩
        have hS := St.tr hS h186 (by decide) (by decide)
        refine Tr.sc [(0, r186)] rfl ?_
        refine Tr.if_eq (pc := 189) (tgt := 196) d_X5_order_189 rfl (fun c189 => ?_) (fun c189 => ?_)
        · refine Tr.iconst (pc := 196) d_X5_order_196 (by decide) ?_
          exact Tr.zret (pc := 197) d_X5_order_197 rfl (by omega) ⟨hS, _, rfl, by omega, by omega, fun hq => absurd hq (by omega)⟩
        · refine Tr.iconst (pc := 192) d_X5_order_192 (by decide) ?_
          refine Tr.goto (pc := 193) (tgt := 197) d_X5_order_193 rfl ?_
          exact Tr.zret (pc := 197) d_X5_order_197 rfl (by omega) ⟨hS, _, rfl, by omega, by omega, fun _ => (x186_6_6 (by omega))⟩

def ws_X5_orders_6_w4 : List (Int × Int) := [(6, 0), (6, 1), (6, 5), (6, 6), (35, 0), (35, 11)]
def as_X5_orders_6_w4 : List Int := [36, 37, 38, 39, 40, 41, 42, 44, 45]
def q_X5_orders_6_w4 (M0 M' : Mem) (r : Option PV) : Prop := St Tru ws_X5_orders_6_w4 as_X5_orders_6_w4 M0 M' ∧ ∃ v : Int, r = some (0, v) ∧ (-2) ≤ v ∧ v ≤ 59 ∧ (((-1) ≤ v ∧ v ≤ 1000000) → rd M' 6 6 = 4)
set_option maxRecDepth 100000 in
set_option maxHeartbeats 4000000 in
theorem sp_X5_orders_6_w4 {l : Launch} {K : EC} {M0 : Mem} {xq : Int} (hI : In Tru M0) (hE : e_all K xq) (en_6_2 : rd M0 6 2 = 2) (en_6_3 : rd M0 6 3 = 27) (en_6_4 : rd M0 6 4 = 35) (en_6_6 : rd M0 6 6 = 4) (a1 : Int) (ha1 : 0 ≤ a1 ∧ a1 ≤ 59)  : Tr l K 27 mX5_orders 0 [(0, (2, 6)), (1, (0, a1))] [] M0 (q_X5_orders_6_w4 M0) := by
  have hS : St Tru ws_X5_orders_6_w4 as_X5_orders_6_w4 M0 M0 := St.rf hI
  refine Tr.iconst (pc := 0) d_X5_orders_0 (by decide) ?_
  refine Tr.istore_n (pc := 1) (i := 2) (ls2 := [(2, (0, (-1))), (0, (2, 6)), (1, (0, a1))]) d_X5_orders_1 rfl (by decide) rfl ?_
  refine Tr.iconst (pc := 2) d_X5_orders_2 (by decide) ?_
  refine Tr.istore_n (pc := 3) (i := 3) (ls2 := [(3, (0, (-1))), (2, (0, (-1))), (0, (2, 6)), (1, (0, a1))]) d_X5_orders_3 rfl (by decide) rfl ?_
  refine Tr.iconst (pc := 4) d_X5_orders_4 (by decide) ?_
  refine Tr.istore (pc := 5) (i := 4) (ls2 := [(4, (0, 0)), (3, (0, (-1))), (2, (0, (-1))), (0, (2, 6)), (1, (0, a1))]) d_X5_orders_5 (by decide) rfl ?_
  have J7 : ∀ (n7 : Nat) (M : Mem) (p7_2 p7_3 p7_4 : Int), St Tru ws_X5_orders_6_w4 as_X5_orders_6_w4 M0 M → ((-1) ≤ p7_2 ∧ p7_2 ≤ 59) → ((-1) ≤ p7_3 ∧ p7_3 ≤ 59) → (0 ≤ p7_4 ∧ p7_4 ≤ 61) → rd M 6 6 = 4 → (61 - p7_4).toNat < n7 → Tr l K 27 mX5_orders 7 [(0, (2, 6)), (1, (0, a1)), (2, (0, p7_2)), (3, (0, p7_3)), (4, (0, p7_4))] [] M (q_X5_orders_6_w4 M0) := by
    intro n7
    induction n7 with
    | zero => intro M p7_2 p7_3 p7_4 hS bp7_2 bp7_3 bp7_4 k7_6_6 hm7; exact absurd hm7 (Nat.not_lt_zero _)
    | succ n7 J7 =>
      intro M p7_2 p7_3 p7_4 hS bp7_2 bp7_3 bp7_4 k7_6_6 hm7
      refine Tr.iload (pc := 7) (i := 4) d_X5_orders_7 rfl ?_
      refine Tr.bipush (pc := 9) d_X5_orders_9 rfl (by decide) ?_
      refine Tr.icmp_gt (pc := 11) (tgt := 111) d_X5_orders_11 rfl (fun c11 => ?_) (fun c11 => ?_)
      · refine Tr.iload_n (pc := 111) (i := 2) d_X5_orders_111 rfl rfl ?_
        exact Tr.iret (pc := 112) d_X5_orders_112 rfl ⟨hS, _, rfl, by omega, by omega, fun _ => k7_6_6⟩
      · refine Tr.aload_n (pc := 14) (i := 0) d_X5_orders_14 rfl rfl ?_
        refine Tr.callV (pc := 15) (as := []) d_X5_orders_15 s_5_154 ok_X5_isOrder rfl rfl (Nat.le_of_ble_eq_true rfl) (Nat.le_of_ble_eq_true rfl) (by decide) (ty_6 hS.1.1) ?_
        refine Tr.imp (Tr.deep (by decide) (sp_X5_isOrder_6 hS.1 ((St.kp hS (by decide) (by decide) (by decide)).trans en_6_2))) ?_
        rintro M15 _ ⟨h15, r15, rfl, lr15, ur15⟩
        have hS := St.tr hS h15 (by decide) (by decide)
        refine Tr.sc [(0, r15)] rfl ?_
        refine Tr.if_eq (pc := 18) (tgt := 111) d_X5_orders_18 rfl (fun c18 => ?_) (fun c18 => ?_)
        · refine Tr.iload_n (pc := 111) (i := 2) d_X5_orders_111 rfl rfl ?_
          exact Tr.iret (pc := 112) d_X5_orders_112 rfl ⟨hS, _, rfl, by omega, by omega, fun _ => ((St.kp h15 (by decide) (by decide) (by decide)).trans k7_6_6)⟩
        · refine Tr.aload_n (pc := 21) (i := 0) d_X5_orders_21 rfl rfl ?_
          refine Tr.getf (pc := 22) d_X5_orders_22 f_5_32 (by decide) (by decide) (ty_6 hS.1.1) ?_
          refine Tr.tp 35 ((St.kp hS (by decide) (by decide) (by decide)).trans en_6_4) ?_
          refine Tr.getf (pc := 25) d_X5_orders_25 f_5_157 (by decide) (by decide) (ty_35 hS.1.1) ?_
          refine Tr.gen (P := fun v => 0 ≤ v ∧ v ≤ 60) (ir_35_0 hS.1.2.1) (fun r25 er25 br25 => ?_)
          refine Tr.bipush (pc := 28) d_X5_orders_28 rfl (by decide) ?_
          refine Tr.icmp_lt (pc := 30) (tgt := 42) d_X5_orders_30 rfl (fun c30 => ?_) (fun c30 => ?_)
          · refine Tr.aload_n (pc := 42) (i := 0) d_X5_orders_42 rfl rfl ?_
            refine Tr.getf (pc := 43) d_X5_orders_43 f_5_32 (by decide) (by decide) (ty_6 hS.1.1) ?_
            refine Tr.tp 35 ((St.kp hS (by decide) (by decide) (by decide)).trans en_6_4) ?_
            refine Tr.aload_n (pc := 46) (i := 0) d_X5_orders_46 rfl rfl ?_
            refine Tr.getf (pc := 47) d_X5_orders_47 f_5_18 (by decide) (by decide) (ty_6 hS.1.1) ?_
            refine Tr.tp 2 ((St.kp hS (by decide) (by decide) (by decide)).trans en_6_2) ?_
            refine Tr.getf (pc := 50) d_X5_orders_50 f_5_68 (by decide) (by decide) (ty_2 hS.1.1) ?_
            refine Tr.tp 5 (fx_2_2 hS.1.1) ?_
            refine Tr.aload_n (pc := 53) (i := 0) d_X5_orders_53 rfl rfl ?_
            refine Tr.getf (pc := 54) d_X5_orders_54 f_5_36 (by decide) (by decide) (ty_6 hS.1.1) ?_
            refine Tr.gen (P := fun v => 0 ≤ v ∧ v ≤ 900) (ir_6_5 hS.1.2.1) (fun r54 er54 br54 => ?_)
            refine Tr.iald (pc := 57) d_X5_orders_57 (ty_5 hS.1.1) (by omega) (by omega) ?_
            refine Tr.gen (P := fun v => (-2147483648) ≤ v ∧ v ≤ 2147483647) (ar_5 hS.1.2.1 _) (fun r57 er57 br57 => ?_)
            refine Tr.iload_n (pc := 58) (i := 1) d_X5_orders_58 rfl rfl ?_
            refine Tr.callV (pc := 59) (as := [_, _]) d_X5_orders_59 s_5_160 ok_X4_open rfl rfl (Nat.le_of_ble_eq_true rfl) (Nat.le_of_ble_eq_true rfl) (by decide) (ty_35 hS.1.1) ?_
            refine Tr.imp (Tr.deep (by decide) (sp_X4_open_35_w1 hS.1 r57 (by omega) a1 (by omega) (by have h9 := er25; omega))) ?_
            rintro M59 _ ⟨h59, r59, rfl, lr59, ur59⟩
            have hS := St.tr hS h59 (by decide) (by decide)
            refine Tr.sc [(0, r59)] rfl ?_
            refine Tr.istore (pc := 62) (i := 5) (ls2 := [(5, (0, r59)), (0, (2, 6)), (1, (0, a1)), (2, (0, p7_2)), (3, (0, p7_3)), (4, (0, p7_4))]) d_X5_orders_62 (by decide) rfl ?_
            refine Tr.iload_n (pc := 64) (i := 3) d_X5_orders_64 rfl rfl ?_
            have J85 : ∀ (M : Mem) (p85_2 : Int), St Tru ws_X5_orders_6_w4 as_X5_orders_6_w4 M0 M → ((-1) ≤ p85_2 ∧ p85_2 ≤ 59) → rd M 5 r54 = r57 → rd M 6 5 = r54 → rd M 6 6 = 4 → Tr l K 27 mX5_orders 85 [(0, (2, 6)), (1, (0, a1)), (2, (0, p85_2)), (4, (0, p7_4)), (5, (0, r59))] [] M (q_X5_orders_6_w4 M0) := by
              intro M p85_2 hS bp85_2 k85_5_r5410 k85_6_5 k85_6_6
              refine Tr.iload (pc := 85) (i := 5) d_X5_orders_85 rfl ?_
              refine Tr.istore_n (pc := 87) (i := 3) (ls2 := [(3, (0, r59)), (0, (2, 6)), (1, (0, a1)), (2, (0, p85_2)), (4, (0, p7_4)), (5, (0, r59))]) d_X5_orders_87 rfl (by decide) rfl ?_
              refine Tr.aload_n (pc := 88) (i := 0) d_X5_orders_88 rfl rfl ?_
              refine Tr.callV (pc := 89) (as := []) d_X5_orders_89 s_5_74 ok_X5_goOn rfl rfl (Nat.le_of_ble_eq_true rfl) (Nat.le_of_ble_eq_true rfl) (by decide) (ty_6 hS.1.1) ?_
              refine Tr.imp (Tr.deep (by decide) (sp_X5_goOn_6 hS.1 )) ?_
              rintro M89 _ ⟨h89, r89, rfl, lr89, ur89⟩
              have hS := St.tr hS h89 (by decide) (by decide)
              refine Tr.sc [(0, r89)] rfl ?_
              refine Tr.pop (pc := 92) d_X5_orders_92 ne01 ?_
              refine Tr.aload_n (pc := 93) (i := 0) d_X5_orders_93 rfl rfl ?_
              refine Tr.iload (pc := 94) (i := 5) d_X5_orders_94 rfl ?_
              refine Tr.callV (pc := 96) (as := [_]) d_X5_orders_96 s_5_166 ok_X5_order rfl rfl (Nat.le_of_ble_eq_true rfl) (Nat.le_of_ble_eq_true rfl) (by decide) (ty_6 hS.1.1) ?_
              refine Tr.imp (Tr.deep (by decide) (sp_X5_order_6_w4 hS.1 hE ((St.kp hS (by decide) (by decide) (by decide)).trans en_6_2) ((St.kp hS (by decide) (by decide) (by decide)).trans en_6_3) ((St.kp hS (by decide) (by decide) (by decide)).trans en_6_4) ((St.kp h89 (by decide) (by decide) (by decide)).trans k85_6_6) r59 (by omega))) ?_
              rintro M96 _ ⟨h96, r96, rfl, lr96, ur96, x96_6_6⟩
              have hS := St.tr hS h96 (by decide) (by decide)
              refine Tr.sc [(0, r96)] rfl ?_
              refine Tr.if_ne (pc := 99) (tgt := 105) d_X5_orders_99 rfl (fun c99 => ?_) (fun c99 => ?_)
              · refine Tr.iincV (pc := 105) (n2 := (p7_4 + 1)) (ls2 := [(4, (0, (p7_4 + 1))), (3, (0, r59)), (0, (2, 6)), (1, (0, a1)), (2, (0, p85_2)), (5, (0, r59))]) d_X5_orders_105 rfl (by decide) ((w32_id (by omega)).trans (by omega)) rfl ?_
                refine Tr.goto (pc := 108) (tgt := 7) d_X5_orders_108 rfl ?_
                refine Tr.pick [2, 3, 4, 1, 0] (ls2 := [(0, (2, 6)), (1, (0, a1)), (2, (0, p85_2)), (3, (0, r59)), (4, (0, (p7_4 + 1)))]) rfl ?_
                exact J7 _ _ _ _ hS (by omega) (by omega) (by omega) (x96_6_6 (by omega)) (by omega)
              · refine Tr.bipush (pc := 102) d_X5_orders_102 rfl (by decide) ?_
                exact Tr.iret (pc := 104) d_X5_orders_104 rfl ⟨hS, _, rfl, by omega, by omega, fun hq => absurd hq (by omega)⟩
            refine Tr.if_ge (pc := 65) (tgt := 74) d_X5_orders_65 rfl (fun c65 => ?_) (fun c65 => ?_)
            · refine Tr.aload_n (pc := 74) (i := 0) d_X5_orders_74 rfl rfl ?_
              refine Tr.getf (pc := 75) d_X5_orders_75 f_5_32 (by decide) (by decide) (ty_6 hS.1.1) ?_
              refine Tr.tp 35 ((St.kp hS (by decide) (by decide) (by decide)).trans en_6_4) ?_
              refine Tr.getf (pc := 78) d_X5_orders_78 f_5_163 (by decide) (by decide) (ty_35 hS.1.1) ?_
              refine Tr.tp 41 (fx_35_6 hS.1.1) ?_
              refine Tr.iload_n (pc := 81) (i := 3) d_X5_orders_81 rfl rfl ?_
              refine Tr.iload (pc := 82) (i := 5) d_X5_orders_82 rfl ?_
              refine Tr.iastS (pc := 84) (P := St Tru ws_X5_orders_6_w4 as_X5_orders_6_w4 M0) d_X5_orders_84 (ty_41 hS.1.1) (by omega) (by omega) (sa_41 hS (by decide) (by omega) trivial) (fun M84 hS w84 => ?_)
              refine Tr.pick [1, 2, 3, 5, 0] (ls2 := [(0, (2, 6)), (1, (0, a1)), (2, (0, p7_2)), (4, (0, p7_4)), (5, (0, r59))]) rfl ?_
              exact J85 _ _ hS (by omega) ((Wr.b w84 rfl).trans ((St.ka h59 (by decide) (by decide) (by decide)).trans er57)) ((Wr.b w84 rfl).trans ((St.kp h59 (by decide) (by decide) (by decide)).trans er54)) ((Wr.b w84 rfl).trans ((St.kp h59 (by decide) (by decide) (by decide)).trans ((St.kp h15 (by decide) (by decide) (by decide)).trans k7_6_6)))
            · refine Tr.iload (pc := 68) (i := 5) d_X5_orders_68 rfl ?_
              refine Tr.istore_n (pc := 70) (i := 2) (ls2 := [(2, (0, r59)), (5, (0, r59)), (0, (2, 6)), (1, (0, a1)), (3, (0, p7_3)), (4, (0, p7_4))]) d_X5_orders_70 rfl (by decide) rfl ?_
              refine Tr.goto (pc := 71) (tgt := 85) d_X5_orders_71 rfl ?_
              refine Tr.pick [2, 3, 0, 5, 1] (ls2 := [(0, (2, 6)), (1, (0, a1)), (2, (0, r59)), (4, (0, p7_4)), (5, (0, r59))]) rfl ?_
              exact J85 _ _ hS (by omega) ((St.ka h59 (by decide) (by decide) (by decide)).trans er57) ((St.kp h59 (by decide) (by decide) (by decide)).trans er54) ((St.kp h59 (by decide) (by decide) (by decide)).trans ((St.kp h15 (by decide) (by decide) (by decide)).trans k7_6_6))
          · refine Tr.aload_n (pc := 33) (i := 0) d_X5_orders_33 rfl rfl ?_
            refine Tr.iconst (pc := 34) d_X5_orders_34 (by decide) ?_
            refine Tr.callV (pc := 35) (as := [_]) d_X5_orders_35 s_5_56 ok_X5_refuse rfl rfl (Nat.le_of_ble_eq_true rfl) (Nat.le_of_ble_eq_true rfl) (by decide) (ty_6 hS.1.1) ?_
            refine Tr.imp (Tr.deep (by decide) (sp_X5_refuse_6_w2 hS.1 ((St.kp hS (by decide) (by decide) (by decide)).trans en_6_2) 5 (by omega))) ?_
            rintro M35 _ ⟨h35, r35, rfl, lr35, ur35⟩
            have hS := St.tr hS h35 (by decide) (by decide)
            refine Tr.sc [(0, r35)] rfl ?_
            refine Tr.pop (pc := 38) d_X5_orders_38 ne01 ?_
            refine Tr.bipush (pc := 39) d_X5_orders_39 rfl (by decide) ?_
            exact Tr.iret (pc := 41) d_X5_orders_41 rfl ⟨hS, _, rfl, by omega, by omega, fun hq => absurd hq (by omega)⟩
  refine Tr.pick [3, 4, 2, 1, 0] (ls2 := [(0, (2, 6)), (1, (0, a1)), (2, (0, (-1))), (3, (0, (-1))), (4, (0, 0))]) rfl ?_
  exact J7 _ _ _ _ _ hS (by omega) (by omega) (by omega) en_6_6 (Nat.lt_succ_self _)

def ws_X5_block_6_w3 : List (Int × Int) := [(6, 0), (6, 1), (6, 5), (6, 6), (35, 0), (35, 11)]
def as_X5_block_6_w3 : List Int := [36, 37, 38, 39, 40, 41, 42, 44, 45]
def q_X5_block_6_w3 (M0 M' : Mem) (r : Option PV) : Prop := St Tru ws_X5_block_6_w3 as_X5_block_6_w3 M0 M' ∧ ∃ v : Int, r = some (0, v) ∧ (-2) ≤ v ∧ v ≤ 59 ∧ (((-1) ≤ v ∧ v ≤ 1000000) → rd M' 6 6 = 3)
set_option maxRecDepth 100000 in
set_option maxHeartbeats 4000000 in
theorem sp_X5_block_6_w3 {l : Launch} {K : EC} {M0 : Mem} {xq : Int} (hI : In Tru M0) (hE : e_all K xq) (en_6_2 : rd M0 6 2 = 2) (en_6_3 : rd M0 6 3 = 27) (en_6_4 : rd M0 6 4 = 35) (en_6_6 : rd M0 6 6 = 3) (a1 : Int) (ha1 : 0 ≤ a1 ∧ a1 ≤ 59)  : Tr l K 28 mX5_block 0 [(0, (2, 6)), (1, (0, a1))] [] M0 (q_X5_block_6_w3 M0) := by
  have hS : St Tru ws_X5_block_6_w3 as_X5_block_6_w3 M0 M0 := St.rf hI
  refine Tr.aload_n (pc := 0) (i := 0) d_X5_block_0 rfl rfl ?_
  refine Tr.bipush (pc := 1) d_X5_block_1 rfl (by decide) ?_
  refine Tr.callV (pc := 3) (as := [_]) d_X5_block_3 s_5_206 ok_X5_takeOpening rfl rfl (Nat.le_of_ble_eq_true rfl) (Nat.le_of_ble_eq_true rfl) (by decide) (ty_6 hS.1.1) ?_
  refine Tr.imp (Tr.deep (by decide) (sp_X5_takeOpening_6_w21 hS.1 ((St.kp hS (by decide) (by decide) (by decide)).trans en_6_2) en_6_6 123 (by omega))) ?_
  rintro M3 _ ⟨h3, r3, rfl, lr3, ur3, x3_6_6⟩
  have hS := St.tr hS h3 (by decide) (by decide)
  refine Tr.sc [(0, r3)] rfl ?_
  refine Tr.if_ne (pc := 6) (tgt := 12) d_X5_block_6 rfl (fun c6 => ?_) (fun c6 => ?_)
  · refine Tr.aload_n (pc := 12) (i := 0) d_X5_block_12 rfl rfl ?_
    refine Tr.iload_n (pc := 13) (i := 1) d_X5_block_13 rfl rfl ?_
    refine Tr.callV (pc := 14) (as := [_]) d_X5_block_14 s_5_46 ok_X5_orders rfl rfl (Nat.le_of_ble_eq_true rfl) (Nat.le_of_ble_eq_true rfl) (by decide) (ty_6 hS.1.1) ?_
    refine Tr.imp (Tr.deep (by decide) (sp_X5_orders_6_w4 hS.1 hE ((St.kp hS (by decide) (by decide) (by decide)).trans en_6_2) ((St.kp hS (by decide) (by decide) (by decide)).trans en_6_3) ((St.kp hS (by decide) (by decide) (by decide)).trans en_6_4) (x3_6_6 (by omega)) a1 (by omega))) ?_
    rintro M14 _ ⟨h14, r14, rfl, lr14, ur14, x14_6_6⟩
    have hS := St.tr hS h14 (by decide) (by decide)
    refine Tr.sc [(0, r14)] rfl ?_
    refine Tr.istore_n (pc := 17) (i := 2) (ls2 := [(2, (0, r14)), (0, (2, 6)), (1, (0, a1))]) d_X5_block_17 rfl (by decide) rfl ?_
    refine Tr.iload_n (pc := 18) (i := 2) d_X5_block_18 rfl rfl ?_
    refine Tr.bipush (pc := 19) d_X5_block_19 rfl (by decide) ?_
    refine Tr.icmp_eq (pc := 21) (tgt := 33) d_X5_block_21 rfl (fun c21 => ?_) (fun c21 => ?_)
    · refine Tr.bipush (pc := 33) d_X5_block_33 rfl (by decide) ?_
      exact Tr.iret (pc := 35) d_X5_block_35 rfl ⟨hS, _, rfl, by omega, by omega, fun hq => absurd hq (by omega)⟩
    · refine Tr.aload_n (pc := 24) (i := 0) d_X5_block_24 rfl rfl ?_
      refine Tr.bipush (pc := 25) d_X5_block_25 rfl (by decide) ?_
      refine Tr.callV (pc := 27) (as := [_]) d_X5_block_27 s_5_209 ok_X5_takeClosing rfl rfl (Nat.le_of_ble_eq_true rfl) (Nat.le_of_ble_eq_true rfl) (by decide) (ty_6 hS.1.1) ?_
      refine Tr.imp (Tr.deep (by decide) (sp_X5_takeClosing_6_w20 hS.1 ((St.kp hS (by decide) (by decide) (by decide)).trans en_6_2) (x14_6_6 (by omega)) 125 (by omega))) ?_
      rintro M27 _ ⟨h27, r27, rfl, lr27, ur27, x27_6_6⟩
      have hS := St.tr hS h27 (by decide) (by decide)
      refine Tr.sc [(0, r27)] rfl ?_
      refine Tr.if_ne (pc := 30) (tgt := 36) d_X5_block_30 rfl (fun c30 => ?_) (fun c30 => ?_)
      · refine Tr.iload_n (pc := 36) (i := 2) d_X5_block_36 rfl rfl ?_
        exact Tr.iret (pc := 37) d_X5_block_37 rfl ⟨hS, _, rfl, by omega, by omega, fun _ => (x27_6_6 (by omega))⟩
      · refine Tr.bipush (pc := 33) d_X5_block_33 rfl (by decide) ?_
        exact Tr.iret (pc := 35) d_X5_block_35 rfl ⟨hS, _, rfl, by omega, by omega, fun hq => absurd hq (by omega)⟩
  · refine Tr.bipush (pc := 9) d_X5_block_9 rfl (by decide) ?_
    exact Tr.iret (pc := 11) d_X5_block_11 rfl ⟨hS, _, rfl, by omega, by omega, fun hq => absurd hq (by omega)⟩

def ws_X5_yesBlock_6_w3 : List (Int × Int) := [(6, 0), (6, 1), (6, 5), (6, 6), (35, 0), (35, 11)]
def as_X5_yesBlock_6_w3 : List Int := [36, 37, 38, 39, 40, 41, 42, 44, 45]
def q_X5_yesBlock_6_w3 (M0 M' : Mem) (r : Option PV) : Prop := St Tru ws_X5_yesBlock_6_w3 as_X5_yesBlock_6_w3 M0 M' ∧ ∃ v : Int, r = some (0, v) ∧ 0 ≤ v ∧ v ≤ 1 ∧ ((1 ≤ v ∧ v ≤ 1) → rd M' 6 6 = 3)
set_option maxRecDepth 100000 in
set_option maxHeartbeats 4000000 in
theorem sp_X5_yesBlock_6_w3 {l : Launch} {K : EC} {M0 : Mem} {xq : Int} (hI : In Tru M0) (hE : e_all K xq) (en_6_2 : rd M0 6 2 = 2) (en_6_3 : rd M0 6 3 = 27) (en_6_4 : rd M0 6 4 = 35) (en_6_6 : rd M0 6 6 = 3) (a1 : Int) (ha1 : 0 ≤ a1 ∧ a1 ≤ 59)  : Tr l K 29 mX5_yesBlock 0 [(0, (2, 6)), (1, (0, a1))] [] M0 (q_X5_yesBlock_6_w3 M0) := by
  have hS : St Tru ws_X5_yesBlock_6_w3 as_X5_yesBlock_6_w3 M0 M0 := St.rf hI
  refine Tr.aload_n (pc := 0) (i := 0) d_X5_yesBlock_0 rfl rfl ?_
  refine Tr.iload_n (pc := 1) (i := 1) d_X5_yesBlock_1 rfl rfl ?_
  refine Tr.callV (pc := 2) (as := [_]) d_X5_yesBlock_2 s_5_197 ok_X5_block rfl rfl (Nat.le_of_ble_eq_true rfl) (Nat.le_of_ble_eq_true rfl) (by decide) (ty_6 hS.1.1) ?_
  refine Tr.imp (Tr.deep (by decide) (sp_X5_block_6_w3 hS.1 hE ((St.kp hS (by decide) (by decide) (by decide)).trans en_6_2) ((St.kp hS (by decide) (by decide) (by decide)).trans en_6_3) ((St.kp hS (by decide) (by decide) (by decide)).trans en_6_4) en_6_6 a1 (by omega))) ?_
  rintro M2 _ ⟨h2, r2, rfl, lr2, ur2, x2_6_6⟩
  have hS := St.tr hS h2 (by decide) (by decide)
  refine Tr.sc [(0, r2)] rfl ?_
  refine Tr.istore_n (pc := 5) (i := 2) (ls2 := [(2, (0, r2)), (0, (2, 6)), (1, (0, a1))]) d_X5_yesBlock_5 rfl (by decide) rfl ?_
  refine Tr.aload_n (pc := 6) (i := 0) d_X5_yesBlock_6 rfl rfl ?_
  refine Tr.getf (pc := 7) d_X5_yesBlock_7 f_5_32 (by decide) (by decide) (ty_6 hS.1.1) ?_
  refine Tr.tp 35 ((St.kp hS (by decide) (by decide) (by decide)).trans en_6_4) ?_
  refine Tr.getf (pc := 10) d_X5_yesBlock_10 f_5_200 (by decide) (by decide) (ty_35 hS.1.1) ?_
  refine Tr.tp 39 (fx_35_4 hS.1.1) ?_
  refine Tr.iload_n (pc := 13) (i := 1) d_X5_yesBlock_13 rfl rfl ?_
  refine Tr.iload_n (pc := 14) (i := 2) d_X5_yesBlock_14 rfl rfl ?_
  refine Tr.iastS (pc := 15) (P := St Tru ws_X5_yesBlock_6_w3 as_X5_yesBlock_6_w3 M0) d_X5_yesBlock_15 (ty_39 hS.1.1) (by omega) (by omega) (sa_39 hS (by decide) (by omega) trivial) (fun M15 hS w15 => ?_)
  refine Tr.iload_n (pc := 16) (i := 2) d_X5_yesBlock_16 rfl rfl ?_
  refine Tr.bipush (pc := 17) d_X5_yesBlock_17 rfl (by decide) ?_
  refine Tr.icmp_eq (pc := 19) (tgt := 26) d_X5_yesBlock_19 rfl (fun c19 => ?_) (fun c19 => ?_)
  · refine Tr.iconst (pc := 26) d_X5_yesBlock_26 (by decide) ?_
    exact Tr.zret (pc := 27) d_X5_yesBlock_27 rfl (by omega) ⟨hS, _, rfl, by omega, by omega, fun hq => absurd hq (by omega)⟩
  · refine Tr.iconst (pc := 22) d_X5_yesBlock_22 (by decide) ?_
    refine Tr.goto (pc := 23) (tgt := 27) d_X5_yesBlock_23 rfl ?_
    exact Tr.zret (pc := 27) d_X5_yesBlock_27 rfl (by omega) ⟨hS, _, rfl, by omega, by omega, fun _ => ((Wr.b w15 rfl).trans (x2_6_6 (by omega)))⟩

def ws_X5_noBlock_6_w4 : List (Int × Int) := [(6, 0), (6, 1), (6, 5), (6, 6), (35, 0), (35, 11)]
def as_X5_noBlock_6_w4 : List Int := [36, 37, 38, 39, 40, 41, 42, 44, 45]
def q_X5_noBlock_6_w4 (M0 M' : Mem) (r : Option PV) : Prop := St Tru ws_X5_noBlock_6_w4 as_X5_noBlock_6_w4 M0 M' ∧ ∃ v : Int, r = some (0, v) ∧ 0 ≤ v ∧ v ≤ 1 ∧ ((1 ≤ v ∧ v ≤ 1) → rd M' 6 6 = 3)
set_option maxRecDepth 100000 in
set_option maxHeartbeats 4000000 in
theorem sp_X5_noBlock_6_w4 {l : Launch} {K : EC} {M0 : Mem} {xq : Int} (hI : In Tru M0) (hE : e_all K xq) (en_6_2 : rd M0 6 2 = 2) (en_6_3 : rd M0 6 3 = 27) (en_6_4 : rd M0 6 4 = 35) (en_6_6 : rd M0 6 6 = 3) (a1 : Int) (ha1 : 0 ≤ a1 ∧ a1 ≤ 59)  : Tr l K 29 mX5_noBlock 0 [(0, (2, 6)), (1, (0, a1))] [] M0 (q_X5_noBlock_6_w4 M0) := by
  have hS : St Tru ws_X5_noBlock_6_w4 as_X5_noBlock_6_w4 M0 M0 := St.rf hI
  refine Tr.aload_n (pc := 0) (i := 0) d_X5_noBlock_0 rfl rfl ?_
  refine Tr.bipush (pc := 1) d_X5_noBlock_1 rfl (by decide) ?_
  refine Tr.callV (pc := 3) (as := [_]) d_X5_noBlock_3 s_5_71 ok_X5_isOwn rfl rfl (Nat.le_of_ble_eq_true rfl) (Nat.le_of_ble_eq_true rfl) (by decide) (ty_6 hS.1.1) ?_
  refine Tr.imp (Tr.deep (by decide) (sp_X5_isOwn_6 hS.1 ((St.kp hS (by decide) (by decide) (by decide)).trans en_6_2) 13 (by omega))) ?_
  rintro M3 _ ⟨h3, r3, rfl, lr3, ur3⟩
  have hS := St.tr hS h3 (by decide) (by decide)
  refine Tr.sc [(0, r3)] rfl ?_
  refine Tr.if_ne (pc := 6) (tgt := 11) d_X5_noBlock_6 rfl (fun c6 => ?_) (fun c6 => ?_)
  · refine Tr.aload_n (pc := 11) (i := 0) d_X5_noBlock_11 rfl rfl ?_
    refine Tr.callV (pc := 12) (as := []) d_X5_noBlock_12 s_5_74 ok_X5_goOn rfl rfl (Nat.le_of_ble_eq_true rfl) (Nat.le_of_ble_eq_true rfl) (by decide) (ty_6 hS.1.1) ?_
    refine Tr.imp (Tr.deep (by decide) (sp_X5_goOn_6 hS.1 )) ?_
    rintro M12 _ ⟨h12, r12, rfl, lr12, ur12⟩
    have hS := St.tr hS h12 (by decide) (by decide)
    refine Tr.sc [(0, r12)] rfl ?_
    refine Tr.pop (pc := 15) d_X5_noBlock_15 ne01 ?_
    refine Tr.aload_n (pc := 16) (i := 0) d_X5_noBlock_16 rfl rfl ?_
    refine Tr.iload_n (pc := 17) (i := 1) d_X5_noBlock_17 rfl rfl ?_
    refine Tr.callV (pc := 18) (as := [_]) d_X5_noBlock_18 s_5_197 ok_X5_block rfl rfl (Nat.le_of_ble_eq_true rfl) (Nat.le_of_ble_eq_true rfl) (by decide) (ty_6 hS.1.1) ?_
    refine Tr.imp (Tr.deep (by decide) (sp_X5_block_6_w3 hS.1 hE ((St.kp hS (by decide) (by decide) (by decide)).trans en_6_2) ((St.kp hS (by decide) (by decide) (by decide)).trans en_6_3) ((St.kp hS (by decide) (by decide) (by decide)).trans en_6_4) ((St.kp h12 (by decide) (by decide) (by decide)).trans ((St.kp h3 (by decide) (by decide) (by decide)).trans en_6_6)) a1 (by omega))) ?_
    rintro M18 _ ⟨h18, r18, rfl, lr18, ur18, x18_6_6⟩
    have hS := St.tr hS h18 (by decide) (by decide)
    refine Tr.sc [(0, r18)] rfl ?_
    refine Tr.istore_n (pc := 21) (i := 2) (ls2 := [(2, (0, r18)), (0, (2, 6)), (1, (0, a1))]) d_X5_noBlock_21 rfl (by decide) rfl ?_
    refine Tr.aload_n (pc := 22) (i := 0) d_X5_noBlock_22 rfl rfl ?_
    refine Tr.getf (pc := 23) d_X5_noBlock_23 f_5_32 (by decide) (by decide) (ty_6 hS.1.1) ?_
    refine Tr.tp 35 ((St.kp hS (by decide) (by decide) (by decide)).trans en_6_4) ?_
    refine Tr.getf (pc := 26) d_X5_noBlock_26 f_5_203 (by decide) (by decide) (ty_35 hS.1.1) ?_
    refine Tr.tp 40 (fx_35_5 hS.1.1) ?_
    refine Tr.iload_n (pc := 29) (i := 1) d_X5_noBlock_29 rfl rfl ?_
    refine Tr.iload_n (pc := 30) (i := 2) d_X5_noBlock_30 rfl rfl ?_
    refine Tr.iastS (pc := 31) (P := St Tru ws_X5_noBlock_6_w4 as_X5_noBlock_6_w4 M0) d_X5_noBlock_31 (ty_40 hS.1.1) (by omega) (by omega) (sa_40 hS (by decide) (by omega) trivial) (fun M31 hS w31 => ?_)
    refine Tr.iload_n (pc := 32) (i := 2) d_X5_noBlock_32 rfl rfl ?_
    refine Tr.bipush (pc := 33) d_X5_noBlock_33 rfl (by decide) ?_
    refine Tr.icmp_eq (pc := 35) (tgt := 42) d_X5_noBlock_35 rfl (fun c35 => ?_) (fun c35 => ?_)
    · refine Tr.iconst (pc := 42) d_X5_noBlock_42 (by decide) ?_
      exact Tr.zret (pc := 43) d_X5_noBlock_43 rfl (by omega) ⟨hS, _, rfl, by omega, by omega, fun hq => absurd hq (by omega)⟩
    · refine Tr.iconst (pc := 38) d_X5_noBlock_38 (by decide) ?_
      refine Tr.goto (pc := 39) (tgt := 43) d_X5_noBlock_39 rfl ?_
      exact Tr.zret (pc := 43) d_X5_noBlock_43 rfl (by omega) ⟨hS, _, rfl, by omega, by omega, fun _ => ((Wr.b w31 rfl).trans (x18_6_6 (by omega)))⟩
  · refine Tr.iconst (pc := 9) d_X5_noBlock_9 (by decide) ?_
    exact Tr.zret (pc := 10) d_X5_noBlock_10 rfl (by omega) ⟨hS, _, rfl, by omega, by omega, fun _ => ((St.kp h3 (by decide) (by decide) (by decide)).trans en_6_6)⟩

def ws_X5_order_6_w3 : List (Int × Int) := [(6, 0), (6, 1), (6, 5), (6, 6), (35, 0), (35, 11)]
def as_X5_order_6_w3 : List Int := [36, 37, 38, 39, 40, 41, 42, 44, 45]
def q_X5_order_6_w3 (M0 M' : Mem) (r : Option PV) : Prop := St Tru ws_X5_order_6_w3 as_X5_order_6_w3 M0 M' ∧ ∃ v : Int, r = some (0, v) ∧ 0 ≤ v ∧ v ≤ 1 ∧ ((1 ≤ v ∧ v ≤ 1) → rd M' 6 6 = 3)
set_option maxRecDepth 100000 in
set_option maxHeartbeats 4000000 in
theorem sp_X5_order_6_w3 {l : Launch} {K : EC} {M0 : Mem} {xq : Int} (hI : In Tru M0) (hE : e_all K xq) (en_6_2 : rd M0 6 2 = 2) (en_6_3 : rd M0 6 3 = 27) (en_6_4 : rd M0 6 4 = 35) (en_6_6 : rd M0 6 6 = 3) (a1 : Int) (ha1 : 0 ≤ a1 ∧ a1 ≤ 59)  : Tr l K 30 mX5_order 0 [(0, (2, 6)), (1, (0, a1))] [] M0 (q_X5_order_6_w3 M0) := by
  have hS : St Tru ws_X5_order_6_w3 as_X5_order_6_w3 M0 M0 := St.rf hI
  refine Tr.aload_n (pc := 0) (i := 0) d_X5_order_0 rfl rfl ?_
  refine Tr.getf (pc := 1) d_X5_order_1 f_5_32 (by decide) (by decide) (ty_6 hS.1.1) ?_
  refine Tr.tp 35 ((St.kp hS (by decide) (by decide) (by decide)).trans en_6_4) ?_
  refine Tr.getf (pc := 4) d_X5_order_4 f_5_169 (by decide) (by decide) (ty_35 hS.1.1) ?_
  refine Tr.tp 36 (fx_35_1 hS.1.1) ?_
  refine Tr.iload_n (pc := 7) (i := 1) d_X5_order_7 rfl rfl ?_
  refine Tr.iald (pc := 8) d_X5_order_8 (ty_36 hS.1.1) (by omega) (by omega) ?_
  refine Tr.gen (P := fun v => (-2147483648) ≤ v ∧ v ≤ 2147483647) (ar_36 hS.1.2.1 _) (fun r8 er8 br8 => ?_)
  rcases (show (r8 < 5 ∨ 11 < r8) ∨ r8 = 5 ∨ r8 = 6 ∨ r8 = 7 ∨ r8 = 8 ∨ r8 = 9 ∨ r8 = 10 ∨ r8 = 11 by omega) with c9 | c9 | c9 | c9 | c9 | c9 | c9 | c9
  · refine Tr.tswOut (pc := 9) (tgt := 198) d_X5_order_9 c9 rfl ?_
    refine Tr.aload_n (pc := 198) (i := 0) d_X5_order_198 rfl rfl ?_
    refine Tr.callV (pc := 199) (as := []) d_X5_order_199 s_5_177 ok_X5_test rfl rfl (Nat.le_of_ble_eq_true rfl) (Nat.le_of_ble_eq_true rfl) (by decide) (ty_6 hS.1.1) ?_
    refine Tr.imp (Tr.deep (by decide) (sp_X5_test_6_w3 hS.1 hE ((St.kp hS (by decide) (by decide) (by decide)).trans en_6_2) ((St.kp hS (by decide) (by decide) (by decide)).trans en_6_3) ((St.kp hS (by decide) (by decide) (by decide)).trans en_6_4) en_6_6)) ?_
    rintro M199 _ ⟨h199, r199, rfl, lr199, ur199, x199_6_6⟩
    have hS := St.tr hS h199 (by decide) (by decide)
    refine Tr.sc [(0, r199)] rfl ?_
    refine Tr.if_eq (pc := 202) (tgt := 217) d_X5_order_202 rfl (fun c202 => ?_) (fun c202 => ?_)
    · refine Tr.iconst (pc := 217) d_X5_order_217 (by decide) ?_
      exact Tr.zret (pc := 218) d_X5_order_218 rfl (by omega) ⟨hS, _, rfl, by omega, by omega, fun hq => absurd hq (by omega)⟩
    · refine Tr.aload_n (pc := 205) (i := 0) d_X5_order_205 rfl rfl ?_
      refine Tr.iload_n (pc := 206) (i := 1) d_X5_order_206 rfl rfl ?_
      refine Tr.callV (pc := 207) (as := [_]) d_X5_order_207 s_5_180 ok_X5_yesBlock rfl rfl (Nat.le_of_ble_eq_true rfl) (Nat.le_of_ble_eq_true rfl) (by decide) (ty_6 hS.1.1) ?_
      refine Tr.imp (Tr.deep (by decide) (sp_X5_yesBlock_6_w3 hS.1 hE ((St.kp hS (by decide) (by decide) (by decide)).trans en_6_2) ((St.kp hS (by decide) (by decide) (by decide)).trans en_6_3) ((St.kp hS (by decide) (by decide) (by decide)).trans en_6_4) (x199_6_6 (by omega)) a1 (by omega))) ?_
      rintro M207 _ ⟨h207, r207, rfl, lr207, ur207, x207_6_6⟩
      have hS := St.tr hS h207 (by decide) (by decide)
      refine Tr.sc [(0, r207)] rfl ?_
      refine Tr.if_eq (pc := 210) (tgt := 217) d_X5_order_210 rfl (fun c210 => ?_) (fun c210 => ?_)
      · refine Tr.iconst (pc := 217) d_X5_order_217 (by decide) ?_
        exact Tr.zret (pc := 218) d_X5_order_218 rfl (by omega) ⟨hS, _, rfl, by omega, by omega, fun hq => absurd hq (by omega)⟩
      · refine Tr.iconst (pc := 213) d_X5_order_213 (by decide) ?_
        refine Tr.goto (pc := 214) (tgt := 218) d_X5_order_214 rfl ?_
        exact Tr.zret (pc := 218) d_X5_order_218 rfl (by omega) ⟨hS, _, rfl, by omega, by omega, fun _ => (x207_6_6 (by omega))⟩
  · refine Tr.tp 5 c9 ?_
    refine Tr.tswIn (pc := 9) (off := 43) (tgt := 52) d_X5_order_9 (by decide) (by decide) rfl rfl ?_
    refine Tr.aload_n (pc := 52) (i := 0) d_X5_order_52 rfl rfl ?_
    refine Tr.iload_n (pc := 53) (i := 1) d_X5_order_53 rfl rfl ?_
    refine Tr.iconst (pc := 54) d_X5_order_54 (by decide) ?_
    refine Tr.callV (pc := 55) (as := [_, _]) d_X5_order_55 s_5_170 ok_X5_about rfl rfl (Nat.le_of_ble_eq_true rfl) (Nat.le_of_ble_eq_true rfl) (by decide) (ty_6 hS.1.1) ?_
    refine Tr.imp (Tr.deep (by decide) (sp_X5_about_6_v2 hS.1 hE ((St.kp hS (by decide) (by decide) (by decide)).trans en_6_2) ((St.kp hS (by decide) (by decide) (by decide)).trans en_6_3) ((St.kp hS (by decide) (by decide) (by decide)).trans en_6_4) a1 (by omega))) ?_
    rintro M55 _ ⟨h55, r55, rfl, lr55, ur55⟩
    have hS := St.tr hS h55 (by decide) (by decide)
    refine Tr.sc [(0, r55)] rfl ?_
    refine Tr.if_eq (pc := 58) (tgt := 90) d_X5_order_58 rfl (fun c58 => ?_) (fun c58 => ?_)
    · refine Tr.iconst (pc := 90) d_X5_order_90 (by decide) ?_
      exact Tr.zret (pc := 91) d_X5_order_91 rfl (by omega) ⟨hS, _, rfl, by omega, by omega, fun hq => absurd hq (by omega)⟩
    · refine Tr.aload_n (pc := 61) (i := 0) d_X5_order_61 rfl rfl ?_
      refine Tr.bipush (pc := 62) d_X5_order_62 rfl (by decide) ?_
      refine Tr.callV (pc := 64) (as := [_]) d_X5_order_64 s_5_81 ok_X5_takeSign rfl rfl (Nat.le_of_ble_eq_true rfl) (Nat.le_of_ble_eq_true rfl) (by decide) (ty_6 hS.1.1) ?_
      refine Tr.imp (Tr.deep (by decide) (sp_X5_takeSign_6_w3 hS.1 ((St.kp hS (by decide) (by decide) (by decide)).trans en_6_2) 61 (by omega))) ?_
      rintro M64 _ ⟨h64, r64, rfl, lr64, ur64⟩
      have hS := St.tr hS h64 (by decide) (by decide)
      refine Tr.sc [(0, r64)] rfl ?_
      refine Tr.if_eq (pc := 67) (tgt := 90) d_X5_order_67 rfl (fun c67 => ?_) (fun c67 => ?_)
      · refine Tr.iconst (pc := 90) d_X5_order_90 (by decide) ?_
        exact Tr.zret (pc := 91) d_X5_order_91 rfl (by omega) ⟨hS, _, rfl, by omega, by omega, fun hq => absurd hq (by omega)⟩
      · refine Tr.aload_n (pc := 70) (i := 0) d_X5_order_70 rfl rfl ?_
        refine Tr.callV (pc := 71) (as := []) d_X5_order_71 s_5_174 ok_X5_sum rfl rfl (Nat.le_of_ble_eq_true rfl) (Nat.le_of_ble_eq_true rfl) (by decide) (ty_6 hS.1.1) ?_
        refine Tr.imp (Tr.deep (by decide) (sp_X5_sum_6_w3 hS.1 hE ((St.kp hS (by decide) (by decide) (by decide)).trans en_6_2) ((St.kp hS (by decide) (by decide) (by decide)).trans en_6_3) ((St.kp hS (by decide) (by decide) (by decide)).trans en_6_4) ((St.kp h64 (by decide) (by decide) (by decide)).trans ((St.kp h55 (by decide) (by decide) (by decide)).trans en_6_6)))) ?_
        rintro M71 _ ⟨h71, r71, rfl, lr71, ur71, x71_6_6⟩
        have hS := St.tr hS h71 (by decide) (by decide)
        refine Tr.sc [(0, r71)] rfl ?_
        refine Tr.if_eq (pc := 74) (tgt := 90) d_X5_order_74 rfl (fun c74 => ?_) (fun c74 => ?_)
        · refine Tr.iconst (pc := 90) d_X5_order_90 (by decide) ?_
          exact Tr.zret (pc := 91) d_X5_order_91 rfl (by omega) ⟨hS, _, rfl, by omega, by omega, fun hq => absurd hq (by omega)⟩
        · refine Tr.aload_n (pc := 77) (i := 0) d_X5_order_77 rfl rfl ?_
          refine Tr.bipush (pc := 78) d_X5_order_78 rfl (by decide) ?_
          refine Tr.callV (pc := 80) (as := [_]) d_X5_order_80 s_5_81 ok_X5_takeSign rfl rfl (Nat.le_of_ble_eq_true rfl) (Nat.le_of_ble_eq_true rfl) (by decide) (ty_6 hS.1.1) ?_
          refine Tr.imp (Tr.deep (by decide) (sp_X5_takeSign_6 hS.1 ((St.kp hS (by decide) (by decide) (by decide)).trans en_6_2) 59 (by omega))) ?_
          rintro M80 _ ⟨h80, r80, rfl, lr80, ur80⟩
          have hS := St.tr hS h80 (by decide) (by decide)
          refine Tr.sc [(0, r80)] rfl ?_
          refine Tr.if_eq (pc := 83) (tgt := 90) d_X5_order_83 rfl (fun c83 => ?_) (fun c83 => ?_)
          · refine Tr.iconst (pc := 90) d_X5_order_90 (by decide) ?_
            exact Tr.zret (pc := 91) d_X5_order_91 rfl (by omega) ⟨hS, _, rfl, by omega, by omega, fun hq => absurd hq (by omega)⟩
          · refine Tr.iconst (pc := 86) d_X5_order_86 (by decide) ?_
            refine Tr.goto (pc := 87) (tgt := 91) d_X5_order_87 rfl ?_
            exact Tr.zret (pc := 91) d_X5_order_91 rfl (by omega) ⟨hS, _, rfl, by omega, by omega, fun _ => ((St.kp h80 (by decide) (by decide) (by decide)).trans (x71_6_6 (by omega)))⟩
  · refine Tr.tp 6 c9 ?_
    refine Tr.tswIn (pc := 9) (off := 83) (tgt := 92) d_X5_order_9 (by decide) (by decide) rfl rfl ?_
    refine Tr.aload_n (pc := 92) (i := 0) d_X5_order_92 rfl rfl ?_
    refine Tr.iload_n (pc := 93) (i := 1) d_X5_order_93 rfl rfl ?_
    refine Tr.iconst (pc := 94) d_X5_order_94 (by decide) ?_
    refine Tr.callV (pc := 95) (as := [_, _]) d_X5_order_95 s_5_170 ok_X5_about rfl rfl (Nat.le_of_ble_eq_true rfl) (Nat.le_of_ble_eq_true rfl) (by decide) (ty_6 hS.1.1) ?_
    refine Tr.imp (Tr.deep (by decide) (sp_X5_about_6_v0 hS.1 hE ((St.kp hS (by decide) (by decide) (by decide)).trans en_6_2) ((St.kp hS (by decide) (by decide) (by decide)).trans en_6_3) ((St.kp hS (by decide) (by decide) (by decide)).trans en_6_4) a1 (by omega))) ?_
    rintro M95 _ ⟨h95, r95, rfl, lr95, ur95⟩
    have hS := St.tr hS h95 (by decide) (by decide)
    refine Tr.sc [(0, r95)] rfl ?_
    refine Tr.if_eq (pc := 98) (tgt := 121) d_X5_order_98 rfl (fun c98 => ?_) (fun c98 => ?_)
    · refine Tr.iconst (pc := 121) d_X5_order_121 (by decide) ?_
      exact Tr.zret (pc := 122) d_X5_order_122 rfl (by omega) ⟨hS, _, rfl, by omega, by omega, fun hq => absurd hq (by omega)⟩
    · refine Tr.aload_n (pc := 101) (i := 0) d_X5_order_101 rfl rfl ?_
      refine Tr.callV (pc := 102) (as := []) d_X5_order_102 s_5_174 ok_X5_sum rfl rfl (Nat.le_of_ble_eq_true rfl) (Nat.le_of_ble_eq_true rfl) (by decide) (ty_6 hS.1.1) ?_
      refine Tr.imp (Tr.deep (by decide) (sp_X5_sum_6_w3 hS.1 hE ((St.kp hS (by decide) (by decide) (by decide)).trans en_6_2) ((St.kp hS (by decide) (by decide) (by decide)).trans en_6_3) ((St.kp hS (by decide) (by decide) (by decide)).trans en_6_4) ((St.kp h95 (by decide) (by decide) (by decide)).trans en_6_6))) ?_
      rintro M102 _ ⟨h102, r102, rfl, lr102, ur102, x102_6_6⟩
      have hS := St.tr hS h102 (by decide) (by decide)
      refine Tr.sc [(0, r102)] rfl ?_
      refine Tr.if_eq (pc := 105) (tgt := 121) d_X5_order_105 rfl (fun c105 => ?_) (fun c105 => ?_)
      · refine Tr.iconst (pc := 121) d_X5_order_121 (by decide) ?_
        exact Tr.zret (pc := 122) d_X5_order_122 rfl (by omega) ⟨hS, _, rfl, by omega, by omega, fun hq => absurd hq (by omega)⟩
      · refine Tr.aload_n (pc := 108) (i := 0) d_X5_order_108 rfl rfl ?_
        refine Tr.bipush (pc := 109) d_X5_order_109 rfl (by decide) ?_
        refine Tr.callV (pc := 111) (as := [_]) d_X5_order_111 s_5_81 ok_X5_takeSign rfl rfl (Nat.le_of_ble_eq_true rfl) (Nat.le_of_ble_eq_true rfl) (by decide) (ty_6 hS.1.1) ?_
        refine Tr.imp (Tr.deep (by decide) (sp_X5_takeSign_6 hS.1 ((St.kp hS (by decide) (by decide) (by decide)).trans en_6_2) 59 (by omega))) ?_
        rintro M111 _ ⟨h111, r111, rfl, lr111, ur111⟩
        have hS := St.tr hS h111 (by decide) (by decide)
        refine Tr.sc [(0, r111)] rfl ?_
        refine Tr.if_eq (pc := 114) (tgt := 121) d_X5_order_114 rfl (fun c114 => ?_) (fun c114 => ?_)
        · refine Tr.iconst (pc := 121) d_X5_order_121 (by decide) ?_
          exact Tr.zret (pc := 122) d_X5_order_122 rfl (by omega) ⟨hS, _, rfl, by omega, by omega, fun hq => absurd hq (by omega)⟩
        · refine Tr.iconst (pc := 117) d_X5_order_117 (by decide) ?_
          refine Tr.goto (pc := 118) (tgt := 122) d_X5_order_118 rfl ?_
          exact Tr.zret (pc := 122) d_X5_order_122 rfl (by omega) ⟨hS, _, rfl, by omega, by omega, fun _ => ((St.kp h111 (by decide) (by decide) (by decide)).trans (x102_6_6 (by omega)))⟩
  · refine Tr.tp 7 c9 ?_
    refine Tr.tswIn (pc := 9) (off := 114) (tgt := 123) d_X5_order_9 (by decide) (by decide) rfl rfl ?_
    refine Tr.aload_n (pc := 123) (i := 0) d_X5_order_123 rfl rfl ?_
    refine Tr.iload_n (pc := 124) (i := 1) d_X5_order_124 rfl rfl ?_
    refine Tr.iconst (pc := 125) d_X5_order_125 (by decide) ?_
    refine Tr.callV (pc := 126) (as := [_, _]) d_X5_order_126 s_5_170 ok_X5_about rfl rfl (Nat.le_of_ble_eq_true rfl) (Nat.le_of_ble_eq_true rfl) (by decide) (ty_6 hS.1.1) ?_
    refine Tr.imp (Tr.deep (by decide) (sp_X5_about_6_v0 hS.1 hE ((St.kp hS (by decide) (by decide) (by decide)).trans en_6_2) ((St.kp hS (by decide) (by decide) (by decide)).trans en_6_3) ((St.kp hS (by decide) (by decide) (by decide)).trans en_6_4) a1 (by omega))) ?_
    rintro M126 _ ⟨h126, r126, rfl, lr126, ur126⟩
    have hS := St.tr hS h126 (by decide) (by decide)
    refine Tr.sc [(0, r126)] rfl ?_
    refine Tr.if_eq (pc := 129) (tgt := 145) d_X5_order_129 rfl (fun c129 => ?_) (fun c129 => ?_)
    · refine Tr.iconst (pc := 145) d_X5_order_145 (by decide) ?_
      exact Tr.zret (pc := 146) d_X5_order_146 rfl (by omega) ⟨hS, _, rfl, by omega, by omega, fun hq => absurd hq (by omega)⟩
    · refine Tr.aload_n (pc := 132) (i := 0) d_X5_order_132 rfl rfl ?_
      refine Tr.bipush (pc := 133) d_X5_order_133 rfl (by decide) ?_
      refine Tr.callV (pc := 135) (as := [_]) d_X5_order_135 s_5_81 ok_X5_takeSign rfl rfl (Nat.le_of_ble_eq_true rfl) (Nat.le_of_ble_eq_true rfl) (by decide) (ty_6 hS.1.1) ?_
      refine Tr.imp (Tr.deep (by decide) (sp_X5_takeSign_6 hS.1 ((St.kp hS (by decide) (by decide) (by decide)).trans en_6_2) 59 (by omega))) ?_
      rintro M135 _ ⟨h135, r135, rfl, lr135, ur135⟩
      have hS := St.tr hS h135 (by decide) (by decide)
      refine Tr.sc [(0, r135)] rfl ?_
      refine Tr.if_eq (pc := 138) (tgt := 145) d_X5_order_138 rfl (fun c138 => ?_) (fun c138 => ?_)
      · refine Tr.iconst (pc := 145) d_X5_order_145 (by decide) ?_
        exact Tr.zret (pc := 146) d_X5_order_146 rfl (by omega) ⟨hS, _, rfl, by omega, by omega, fun hq => absurd hq (by omega)⟩
      · refine Tr.iconst (pc := 141) d_X5_order_141 (by decide) ?_
        refine Tr.goto (pc := 142) (tgt := 146) d_X5_order_142 rfl ?_
        exact Tr.zret (pc := 146) d_X5_order_146 rfl (by omega) ⟨hS, _, rfl, by omega, by omega, fun _ => ((St.kp h135 (by decide) (by decide) (by decide)).trans ((St.kp h126 (by decide) (by decide) (by decide)).trans en_6_6))⟩
  · refine Tr.tp 8 c9 ?_
    refine Tr.tswIn (pc := 9) (off := 114) (tgt := 123) d_X5_order_9 (by decide) (by decide) rfl rfl ?_
    refine Tr.aload_n (pc := 123) (i := 0) d_X5_order_123 rfl rfl ?_
    refine Tr.iload_n (pc := 124) (i := 1) d_X5_order_124 rfl rfl ?_
    refine Tr.iconst (pc := 125) d_X5_order_125 (by decide) ?_
    refine Tr.callV (pc := 126) (as := [_, _]) d_X5_order_126 s_5_170 ok_X5_about rfl rfl (Nat.le_of_ble_eq_true rfl) (Nat.le_of_ble_eq_true rfl) (by decide) (ty_6 hS.1.1) ?_
    refine Tr.imp (Tr.deep (by decide) (sp_X5_about_6_v0 hS.1 hE ((St.kp hS (by decide) (by decide) (by decide)).trans en_6_2) ((St.kp hS (by decide) (by decide) (by decide)).trans en_6_3) ((St.kp hS (by decide) (by decide) (by decide)).trans en_6_4) a1 (by omega))) ?_
    rintro M126 _ ⟨h126, r126, rfl, lr126, ur126⟩
    have hS := St.tr hS h126 (by decide) (by decide)
    refine Tr.sc [(0, r126)] rfl ?_
    refine Tr.if_eq (pc := 129) (tgt := 145) d_X5_order_129 rfl (fun c129 => ?_) (fun c129 => ?_)
    · refine Tr.iconst (pc := 145) d_X5_order_145 (by decide) ?_
      exact Tr.zret (pc := 146) d_X5_order_146 rfl (by omega) ⟨hS, _, rfl, by omega, by omega, fun hq => absurd hq (by omega)⟩
    · refine Tr.aload_n (pc := 132) (i := 0) d_X5_order_132 rfl rfl ?_
      refine Tr.bipush (pc := 133) d_X5_order_133 rfl (by decide) ?_
      refine Tr.callV (pc := 135) (as := [_]) d_X5_order_135 s_5_81 ok_X5_takeSign rfl rfl (Nat.le_of_ble_eq_true rfl) (Nat.le_of_ble_eq_true rfl) (by decide) (ty_6 hS.1.1) ?_
      refine Tr.imp (Tr.deep (by decide) (sp_X5_takeSign_6 hS.1 ((St.kp hS (by decide) (by decide) (by decide)).trans en_6_2) 59 (by omega))) ?_
      rintro M135 _ ⟨h135, r135, rfl, lr135, ur135⟩
      have hS := St.tr hS h135 (by decide) (by decide)
      refine Tr.sc [(0, r135)] rfl ?_
      refine Tr.if_eq (pc := 138) (tgt := 145) d_X5_order_138 rfl (fun c138 => ?_) (fun c138 => ?_)
      · refine Tr.iconst (pc := 145) d_X5_order_145 (by decide) ?_
        exact Tr.zret (pc := 146) d_X5_order_146 rfl (by omega) ⟨hS, _, rfl, by omega, by omega, fun hq => absurd hq (by omega)⟩
      · refine Tr.iconst (pc := 141) d_X5_order_141 (by decide) ?_
        refine Tr.goto (pc := 142) (tgt := 146) d_X5_order_142 rfl ?_
        exact Tr.zret (pc := 146) d_X5_order_146 rfl (by omega) ⟨hS, _, rfl, by omega, by omega, fun _ => ((St.kp h135 (by decide) (by decide) (by decide)).trans ((St.kp h126 (by decide) (by decide) (by decide)).trans en_6_6))⟩
  · refine Tr.tp 9 c9 ?_
    refine Tr.tswIn (pc := 9) (off := 138) (tgt := 147) d_X5_order_9 (by decide) (by decide) rfl rfl ?_
    refine Tr.aload_n (pc := 147) (i := 0) d_X5_order_147 rfl rfl ?_
    refine Tr.callV (pc := 148) (as := []) d_X5_order_148 s_5_174 ok_X5_sum rfl rfl (Nat.le_of_ble_eq_true rfl) (Nat.le_of_ble_eq_true rfl) (by decide) (ty_6 hS.1.1) ?_
    refine Tr.imp (Tr.deep (by decide) (sp_X5_sum_6_w3 hS.1 hE ((St.kp hS (by decide) (by decide) (by decide)).trans en_6_2) ((St.kp hS (by decide) (by decide) (by decide)).trans en_6_3) ((St.kp hS (by decide) (by decide) (by decide)).trans en_6_4) en_6_6)) ?_
    rintro M148 _ ⟨h148, r148, rfl, lr148, ur148, x148_6_6⟩
    have hS := St.tr hS h148 (by decide) (by decide)
    refine Tr.sc [(0, r148)] rfl ?_
    refine Tr.if_eq (pc := 151) (tgt := 167) d_X5_order_151 rfl (fun c151 => ?_) (fun c151 => ?_)
    · refine Tr.iconst (pc := 167) d_X5_order_167 (by decide) ?_
      exact Tr.zret (pc := 168) d_X5_order_168 rfl (by omega) ⟨hS, _, rfl, by omega, by omega, fun hq => absurd hq (by omega)⟩
    · refine Tr.aload_n (pc := 154) (i := 0) d_X5_order_154 rfl rfl ?_
      refine Tr.bipush (pc := 155) d_X5_order_155 rfl (by decide) ?_
      refine Tr.callV (pc := 157) (as := [_]) d_X5_order_157 s_5_81 ok_X5_takeSign rfl rfl (Nat.le_of_ble_eq_true rfl) (Nat.le_of_ble_eq_true rfl) (by decide) (ty_6 hS.1.1) ?_
      refine Tr.imp (Tr.deep (by decide) (sp_X5_takeSign_6 hS.1 ((St.kp hS (by decide) (by decide) (by decide)).trans en_6_2) 59 (by omega))) ?_
      rintro M157 _ ⟨h157, r157, rfl, lr157, ur157⟩
      have hS := St.tr hS h157 (by decide) (by decide)
      refine Tr.sc [(0, r157)] rfl ?_
      refine Tr.if_eq (pc := 160) (tgt := 167) d_X5_order_160 rfl (fun c160 => ?_) (fun c160 => ?_)
      · refine Tr.iconst (pc := 167) d_X5_order_167 (by decide) ?_
        exact Tr.zret (pc := 168) d_X5_order_168 rfl (by omega) ⟨hS, _, rfl, by omega, by omega, fun hq => absurd hq (by omega)⟩
      · refine Tr.iconst (pc := 163) d_X5_order_163 (by decide) ?_
        refine Tr.goto (pc := 164) (tgt := 168) d_X5_order_164 rfl ?_
        exact Tr.zret (pc := 168) d_X5_order_168 rfl (by omega) ⟨hS, _, rfl, by omega, by omega, fun _ => ((St.kp h157 (by decide) (by decide) (by decide)).trans (x148_6_6 (by omega)))⟩
  · refine Tr.tp 10 c9 ?_
    refine Tr.tswIn (pc := 9) (off := 138) (tgt := 147) d_X5_order_9 (by decide) (by decide) rfl rfl ?_
    refine Tr.aload_n (pc := 147) (i := 0) d_X5_order_147 rfl rfl ?_
    refine Tr.callV (pc := 148) (as := []) d_X5_order_148 s_5_174 ok_X5_sum rfl rfl (Nat.le_of_ble_eq_true rfl) (Nat.le_of_ble_eq_true rfl) (by decide) (ty_6 hS.1.1) ?_
    refine Tr.imp (Tr.deep (by decide) (sp_X5_sum_6_w3 hS.1 hE ((St.kp hS (by decide) (by decide) (by decide)).trans en_6_2) ((St.kp hS (by decide) (by decide) (by decide)).trans en_6_3) ((St.kp hS (by decide) (by decide) (by decide)).trans en_6_4) en_6_6)) ?_
    rintro M148 _ ⟨h148, r148, rfl, lr148, ur148, x148_6_6⟩
    have hS := St.tr hS h148 (by decide) (by decide)
    refine Tr.sc [(0, r148)] rfl ?_
    refine Tr.if_eq (pc := 151) (tgt := 167) d_X5_order_151 rfl (fun c151 => ?_) (fun c151 => ?_)
    · refine Tr.iconst (pc := 167) d_X5_order_167 (by decide) ?_
      exact Tr.zret (pc := 168) d_X5_order_168 rfl (by omega) ⟨hS, _, rfl, by omega, by omega, fun hq => absurd hq (by omega)⟩
    · refine Tr.aload_n (pc := 154) (i := 0) d_X5_order_154 rfl rfl ?_
      refine Tr.bipush (pc := 155) d_X5_order_155 rfl (by decide) ?_
      refine Tr.callV (pc := 157) (as := [_]) d_X5_order_157 s_5_81 ok_X5_takeSign rfl rfl (Nat.le_of_ble_eq_true rfl) (Nat.le_of_ble_eq_true rfl) (by decide) (ty_6 hS.1.1) ?_
      refine Tr.imp (Tr.deep (by decide) (sp_X5_takeSign_6 hS.1 ((St.kp hS (by decide) (by decide) (by decide)).trans en_6_2) 59 (by omega))) ?_
      rintro M157 _ ⟨h157, r157, rfl, lr157, ur157⟩
      have hS := St.tr hS h157 (by decide) (by decide)
      refine Tr.sc [(0, r157)] rfl ?_
      refine Tr.if_eq (pc := 160) (tgt := 167) d_X5_order_160 rfl (fun c160 => ?_) (fun c160 => ?_)
      · refine Tr.iconst (pc := 167) d_X5_order_167 (by decide) ?_
        exact Tr.zret (pc := 168) d_X5_order_168 rfl (by omega) ⟨hS, _, rfl, by omega, by omega, fun hq => absurd hq (by omega)⟩
      · refine Tr.iconst (pc := 163) d_X5_order_163 (by decide) ?_
        refine Tr.goto (pc := 164) (tgt := 168) d_X5_order_164 rfl ?_
        exact Tr.zret (pc := 168) d_X5_order_168 rfl (by omega) ⟨hS, _, rfl, by omega, by omega, fun _ => ((St.kp h157 (by decide) (by decide) (by decide)).trans (x148_6_6 (by omega)))⟩
  · refine Tr.tp 11 c9 ?_
    refine Tr.tswIn (pc := 9) (off := 160) (tgt := 169) d_X5_order_9 (by decide) (by decide) rfl rfl ?_
    refine Tr.aload_n (pc := 169) (i := 0) d_X5_order_169 rfl rfl ?_
    refine Tr.callV (pc := 170) (as := []) d_X5_order_170 s_5_177 ok_X5_test rfl rfl (Nat.le_of_ble_eq_true rfl) (Nat.le_of_ble_eq_true rfl) (by decide) (ty_6 hS.1.1) ?_
    refine Tr.imp (Tr.deep (by decide) (sp_X5_test_6_w3 hS.1 hE ((St.kp hS (by decide) (by decide) (by decide)).trans en_6_2) ((St.kp hS (by decide) (by decide) (by decide)).trans en_6_3) ((St.kp hS (by decide) (by decide) (by decide)).trans en_6_4) en_6_6)) ?_
    rintro M170 _ ⟨h170, r170, rfl, lr170, ur170, x170_6_6⟩
    have hS := St.tr hS h170 (by decide) (by decide)
    refine Tr.sc [(0, r170)] rfl ?_
    refine Tr.if_eq (pc := 173) (tgt := 196) d_X5_order_173 rfl (fun c173 => ?_) (fun c173 => ?_)
    · refine Tr.iconst (pc := 196) d_X5_order_196 (by decide) ?_
      exact Tr.zret (pc := 197) d_X5_order_197 rfl (by omega) ⟨hS, _, rfl, by omega, by omega, fun hq => absurd hq (by omega)⟩
    · refine Tr.aload_n (pc := 176) (i := 0) d_X5_order_176 rfl rfl ?_
      refine Tr.iload_n (pc := 177) (i := 1) d_X5_order_177 rfl rfl ?_
      refine Tr.callV (pc := 178) (as := [_]) d_X5_order_178 s_5_180 ok_X5_yesBlock rfl rfl (Nat.le_of_ble_eq_true rfl) (Nat.le_of_ble_eq_true rfl) (by decide) (ty_6 hS.1.1) ?_
      refine Tr.imp (Tr.deep (by decide) (sp_X5_yesBlock_6_w3 hS.1 hE ((St.kp hS (by decide) (by decide) (by decide)).trans en_6_2) ((St.kp hS (by decide) (by decide) (by decide)).trans en_6_3) ((St.kp hS (by decide) (by decide) (by decide)).trans en_6_4) (x170_6_6 (by omega)) a1 (by omega))) ?_
      rintro M178 _ ⟨h178, r178, rfl, lr178, ur178, x178_6_6⟩
      have hS := St.tr hS h178 (by decide) (by decide)
      refine Tr.sc [(0, r178)] rfl ?_
      refine Tr.if_eq (pc := 181) (tgt := 196) d_X5_order_181 rfl (fun c181 => ?_) (fun c181 => ?_)
      · refine Tr.iconst (pc := 196) d_X5_order_196 (by decide) ?_
        exact Tr.zret (pc := 197) d_X5_order_197 rfl (by omega) ⟨hS, _, rfl, by omega, by omega, fun hq => absurd hq (by omega)⟩
      · refine Tr.aload_n (pc := 184) (i := 0) d_X5_order_184 rfl rfl ?_
        refine Tr.iload_n (pc := 185) (i := 1) d_X5_order_185 rfl rfl ?_
        refine Tr.callV (pc := 186) (as := [_]) d_X5_order_186 s_5_183 ok_X5_noBlock rfl rfl (Nat.le_of_ble_eq_true rfl) (Nat.le_of_ble_eq_true rfl) (by decide) (ty_6 hS.1.1) ?_
        refine Tr.imp (Tr.deep (by decide) (sp_X5_noBlock_6_w4 hS.1 hE ((St.kp hS (by decide) (by decide) (by decide)).trans en_6_2) ((St.kp hS (by decide) (by decide) (by decide)).trans en_6_3) ((St.kp hS (by decide) (by decide) (by decide)).trans en_6_4) (x178_6_6 (by omega)) a1 (by omega))) ?_
        rintro M186 _ ⟨h186, r186, rfl, lr186, ur186, x186_6_6⟩
        have hS := St.tr hS h186 (by decide) (by decide)
        refine Tr.sc [(0, r186)] rfl ?_
        refine Tr.if_eq (pc := 189) (tgt := 196) d_X5_order_189 rfl (fun c189 => ?_) (fun c189 => ?_)
        · refine Tr.iconst (pc := 196) d_X5_order_196 (by decide) ?_
          exact Tr.zret (pc := 197) d_X5_order_197 rfl (by omega) ⟨hS, _, rfl, by omega, by omega, fun hq => absurd hq (by omega)⟩
        · refine Tr.iconst (pc := 192) d_X5_order_192 (by decide) ?_
          refine Tr.goto (pc := 193) (tgt := 197) d_X5_order_193 rfl ?_
          exact Tr.zret (pc := 197) d_X5_order_197 rfl (by omega) ⟨hS, _, rfl, by omega, by omega, fun _ => (x186_6_6 (by omega))⟩
end
/-! 34.17 -/
section
def ws_X5_orders_6_w3 : List (Int × Int) := [(6, 0), (6, 1), (6, 5), (6, 6), (35, 0), (35, 11)]
def as_X5_orders_6_w3 : List Int := [36, 37, 38, 39, 40, 41, 42, 44, 45]
def q_X5_orders_6_w3 (M0 M' : Mem) (r : Option PV) : Prop := St Tru ws_X5_orders_6_w3 as_X5_orders_6_w3 M0 M' ∧ ∃ v : Int, r = some (0, v) ∧ (-2) ≤ v ∧ v ≤ 59 ∧ (((-1) ≤ v ∧ v ≤ 1000000) → rd M' 6 6 = 3)
set_option maxRecDepth 100000 in
set_option maxHeartbeats 4000000 in
theorem sp_X5_orders_6_w3 {l : Launch} {K : EC} {M0 : Mem} {xq : Int} (hI : In Tru M0) (hE : e_all K xq) (en_6_2 : rd M0 6 2 = 2) (en_6_3 : rd M0 6 3 = 27) (en_6_4 : rd M0 6 4 = 35) (en_6_6 : rd M0 6 6 = 3) (a1 : Int) (ha1 : 0 ≤ a1 ∧ a1 ≤ 59)  : Tr l K 31 mX5_orders 0 [(0, (2, 6)), (1, (0, a1))] [] M0 (q_X5_orders_6_w3 M0) := by
  have hS : St Tru ws_X5_orders_6_w3 as_X5_orders_6_w3 M0 M0 := St.rf hI
  refine Tr.iconst (pc := 0) d_X5_orders_0 (by decide) ?_
  refine Tr.istore_n (pc := 1) (i := 2) (ls2 := [(2, (0, (-1))), (0, (2, 6)), (1, (0, a1))]) d_X5_orders_1 rfl (by decide) rfl ?_
  refine Tr.iconst (pc := 2) d_X5_orders_2 (by decide) ?_
  refine Tr.istore_n (pc := 3) (i := 3) (ls2 := [(3, (0, (-1))), (2, (0, (-1))), (0, (2, 6)), (1, (0, a1))]) d_X5_orders_3 rfl (by decide) rfl ?_
  refine Tr.iconst (pc := 4) d_X5_orders_4 (by decide) ?_
  refine Tr.istore (pc := 5) (i := 4) (ls2 := [(4, (0, 0)), (3, (0, (-1))), (2, (0, (-1))), (0, (2, 6)), (1, (0, a1))]) d_X5_orders_5 (by decide) rfl ?_
  have J7 : ∀ (n7 : Nat) (M : Mem) (p7_2 p7_3 p7_4 : Int), St Tru ws_X5_orders_6_w3 as_X5_orders_6_w3 M0 M → ((-1) ≤ p7_2 ∧ p7_2 ≤ 59) → ((-1) ≤ p7_3 ∧ p7_3 ≤ 59) → (0 ≤ p7_4 ∧ p7_4 ≤ 61) → rd M 6 6 = 3 → (61 - p7_4).toNat < n7 → Tr l K 31 mX5_orders 7 [(0, (2, 6)), (1, (0, a1)), (2, (0, p7_2)), (3, (0, p7_3)), (4, (0, p7_4))] [] M (q_X5_orders_6_w3 M0) := by
    intro n7
    induction n7 with
    | zero => intro M p7_2 p7_3 p7_4 hS bp7_2 bp7_3 bp7_4 k7_6_6 hm7; exact absurd hm7 (Nat.not_lt_zero _)
    | succ n7 J7 =>
      intro M p7_2 p7_3 p7_4 hS bp7_2 bp7_3 bp7_4 k7_6_6 hm7
      refine Tr.iload (pc := 7) (i := 4) d_X5_orders_7 rfl ?_
      refine Tr.bipush (pc := 9) d_X5_orders_9 rfl (by decide) ?_
      refine Tr.icmp_gt (pc := 11) (tgt := 111) d_X5_orders_11 rfl (fun c11 => ?_) (fun c11 => ?_)
      · refine Tr.iload_n (pc := 111) (i := 2) d_X5_orders_111 rfl rfl ?_
        exact Tr.iret (pc := 112) d_X5_orders_112 rfl ⟨hS, _, rfl, by omega, by omega, fun _ => k7_6_6⟩
      · refine Tr.aload_n (pc := 14) (i := 0) d_X5_orders_14 rfl rfl ?_
        refine Tr.callV (pc := 15) (as := []) d_X5_orders_15 s_5_154 ok_X5_isOrder rfl rfl (Nat.le_of_ble_eq_true rfl) (Nat.le_of_ble_eq_true rfl) (by decide) (ty_6 hS.1.1) ?_
        refine Tr.imp (Tr.deep (by decide) (sp_X5_isOrder_6 hS.1 ((St.kp hS (by decide) (by decide) (by decide)).trans en_6_2))) ?_
        rintro M15 _ ⟨h15, r15, rfl, lr15, ur15⟩
        have hS := St.tr hS h15 (by decide) (by decide)
        refine Tr.sc [(0, r15)] rfl ?_
        refine Tr.if_eq (pc := 18) (tgt := 111) d_X5_orders_18 rfl (fun c18 => ?_) (fun c18 => ?_)
        · refine Tr.iload_n (pc := 111) (i := 2) d_X5_orders_111 rfl rfl ?_
          exact Tr.iret (pc := 112) d_X5_orders_112 rfl ⟨hS, _, rfl, by omega, by omega, fun _ => ((St.kp h15 (by decide) (by decide) (by decide)).trans k7_6_6)⟩
        · refine Tr.aload_n (pc := 21) (i := 0) d_X5_orders_21 rfl rfl ?_
          refine Tr.getf (pc := 22) d_X5_orders_22 f_5_32 (by decide) (by decide) (ty_6 hS.1.1) ?_
          refine Tr.tp 35 ((St.kp hS (by decide) (by decide) (by decide)).trans en_6_4) ?_
          refine Tr.getf (pc := 25) d_X5_orders_25 f_5_157 (by decide) (by decide) (ty_35 hS.1.1) ?_
          refine Tr.gen (P := fun v => 0 ≤ v ∧ v ≤ 60) (ir_35_0 hS.1.2.1) (fun r25 er25 br25 => ?_)
          refine Tr.bipush (pc := 28) d_X5_orders_28 rfl (by decide) ?_
          refine Tr.icmp_lt (pc := 30) (tgt := 42) d_X5_orders_30 rfl (fun c30 => ?_) (fun c30 => ?_)
          · refine Tr.aload_n (pc := 42) (i := 0) d_X5_orders_42 rfl rfl ?_
            refine Tr.getf (pc := 43) d_X5_orders_43 f_5_32 (by decide) (by decide) (ty_6 hS.1.1) ?_
            refine Tr.tp 35 ((St.kp hS (by decide) (by decide) (by decide)).trans en_6_4) ?_
            refine Tr.aload_n (pc := 46) (i := 0) d_X5_orders_46 rfl rfl ?_
            refine Tr.getf (pc := 47) d_X5_orders_47 f_5_18 (by decide) (by decide) (ty_6 hS.1.1) ?_
            refine Tr.tp 2 ((St.kp hS (by decide) (by decide) (by decide)).trans en_6_2) ?_
            refine Tr.getf (pc := 50) d_X5_orders_50 f_5_68 (by decide) (by decide) (ty_2 hS.1.1) ?_
            refine Tr.tp 5 (fx_2_2 hS.1.1) ?_
            refine Tr.aload_n (pc := 53) (i := 0) d_X5_orders_53 rfl rfl ?_
            refine Tr.getf (pc := 54) d_X5_orders_54 f_5_36 (by decide) (by decide) (ty_6 hS.1.1) ?_
            refine Tr.gen (P := fun v => 0 ≤ v ∧ v ≤ 900) (ir_6_5 hS.1.2.1) (fun r54 er54 br54 => ?_)
            refine Tr.iald (pc := 57) d_X5_orders_57 (ty_5 hS.1.1) (by omega) (by omega) ?_
            refine Tr.gen (P := fun v => (-2147483648) ≤ v ∧ v ≤ 2147483647) (ar_5 hS.1.2.1 _) (fun r57 er57 br57 => ?_)
            refine Tr.iload_n (pc := 58) (i := 1) d_X5_orders_58 rfl rfl ?_
            refine Tr.callV (pc := 59) (as := [_, _]) d_X5_orders_59 s_5_160 ok_X4_open rfl rfl (Nat.le_of_ble_eq_true rfl) (Nat.le_of_ble_eq_true rfl) (by decide) (ty_35 hS.1.1) ?_
            refine Tr.imp (Tr.deep (by decide) (sp_X4_open_35_w1 hS.1 r57 (by omega) a1 (by omega) (by have h9 := er25; omega))) ?_
            rintro M59 _ ⟨h59, r59, rfl, lr59, ur59⟩
            have hS := St.tr hS h59 (by decide) (by decide)
            refine Tr.sc [(0, r59)] rfl ?_
            refine Tr.istore (pc := 62) (i := 5) (ls2 := [(5, (0, r59)), (0, (2, 6)), (1, (0, a1)), (2, (0, p7_2)), (3, (0, p7_3)), (4, (0, p7_4))]) d_X5_orders_62 (by decide) rfl ?_
            refine Tr.iload_n (pc := 64) (i := 3) d_X5_orders_64 rfl rfl ?_
            have J85 : ∀ (M : Mem) (p85_2 : Int), St Tru ws_X5_orders_6_w3 as_X5_orders_6_w3 M0 M → ((-1) ≤ p85_2 ∧ p85_2 ≤ 59) → rd M 5 r54 = r57 → rd M 6 5 = r54 → rd M 6 6 = 3 → Tr l K 31 mX5_orders 85 [(0, (2, 6)), (1, (0, a1)), (2, (0, p85_2)), (4, (0, p7_4)), (5, (0, r59))] [] M (q_X5_orders_6_w3 M0) := by
              intro M p85_2 hS bp85_2 k85_5_r5410 k85_6_5 k85_6_6
              refine Tr.iload (pc := 85) (i := 5) d_X5_orders_85 rfl ?_
              refine Tr.istore_n (pc := 87) (i := 3) (ls2 := [(3, (0, r59)), (0, (2, 6)), (1, (0, a1)), (2, (0, p85_2)), (4, (0, p7_4)), (5, (0, r59))]) d_X5_orders_87 rfl (by decide) rfl ?_
              refine Tr.aload_n (pc := 88) (i := 0) d_X5_orders_88 rfl rfl ?_
              refine Tr.callV (pc := 89) (as := []) d_X5_orders_89 s_5_74 ok_X5_goOn rfl rfl (Nat.le_of_ble_eq_true rfl) (Nat.le_of_ble_eq_true rfl) (by decide) (ty_6 hS.1.1) ?_
              refine Tr.imp (Tr.deep (by decide) (sp_X5_goOn_6 hS.1 )) ?_
              rintro M89 _ ⟨h89, r89, rfl, lr89, ur89⟩
              have hS := St.tr hS h89 (by decide) (by decide)
              refine Tr.sc [(0, r89)] rfl ?_
              refine Tr.pop (pc := 92) d_X5_orders_92 ne01 ?_
              refine Tr.aload_n (pc := 93) (i := 0) d_X5_orders_93 rfl rfl ?_
              refine Tr.iload (pc := 94) (i := 5) d_X5_orders_94 rfl ?_
              refine Tr.callV (pc := 96) (as := [_]) d_X5_orders_96 s_5_166 ok_X5_order rfl rfl (Nat.le_of_ble_eq_true rfl) (Nat.le_of_ble_eq_true rfl) (by decide) (ty_6 hS.1.1) ?_
              refine Tr.imp (Tr.deep (by decide) (sp_X5_order_6_w3 hS.1 hE ((St.kp hS (by decide) (by decide) (by decide)).trans en_6_2) ((St.kp hS (by decide) (by decide) (by decide)).trans en_6_3) ((St.kp hS (by decide) (by decide) (by decide)).trans en_6_4) ((St.kp h89 (by decide) (by decide) (by decide)).trans k85_6_6) r59 (by omega))) ?_
              rintro M96 _ ⟨h96, r96, rfl, lr96, ur96, x96_6_6⟩
              have hS := St.tr hS h96 (by decide) (by decide)
              refine Tr.sc [(0, r96)] rfl ?_
              refine Tr.if_ne (pc := 99) (tgt := 105) d_X5_orders_99 rfl (fun c99 => ?_) (fun c99 => ?_)
              · refine Tr.iincV (pc := 105) (n2 := (p7_4 + 1)) (ls2 := [(4, (0, (p7_4 + 1))), (3, (0, r59)), (0, (2, 6)), (1, (0, a1)), (2, (0, p85_2)), (5, (0, r59))]) d_X5_orders_105 rfl (by decide) ((w32_id (by omega)).trans (by omega)) rfl ?_
                refine Tr.goto (pc := 108) (tgt := 7) d_X5_orders_108 rfl ?_
                refine Tr.pick [2, 3, 4, 1, 0] (ls2 := [(0, (2, 6)), (1, (0, a1)), (2, (0, p85_2)), (3, (0, r59)), (4, (0, (p7_4 + 1)))]) rfl ?_
                exact J7 _ _ _ _ hS (by omega) (by omega) (by omega) (x96_6_6 (by omega)) (by omega)
              · refine Tr.bipush (pc := 102) d_X5_orders_102 rfl (by decide) ?_
                exact Tr.iret (pc := 104) d_X5_orders_104 rfl ⟨hS, _, rfl, by omega, by omega, fun hq => absurd hq (by omega)⟩
            refine Tr.if_ge (pc := 65) (tgt := 74) d_X5_orders_65 rfl (fun c65 => ?_) (fun c65 => ?_)
            · refine Tr.aload_n (pc := 74) (i := 0) d_X5_orders_74 rfl rfl ?_
              refine Tr.getf (pc := 75) d_X5_orders_75 f_5_32 (by decide) (by decide) (ty_6 hS.1.1) ?_
              refine Tr.tp 35 ((St.kp hS (by decide) (by decide) (by decide)).trans en_6_4) ?_
              refine Tr.getf (pc := 78) d_X5_orders_78 f_5_163 (by decide) (by decide) (ty_35 hS.1.1) ?_
              refine Tr.tp 41 (fx_35_6 hS.1.1) ?_
              refine Tr.iload_n (pc := 81) (i := 3) d_X5_orders_81 rfl rfl ?_
              refine Tr.iload (pc := 82) (i := 5) d_X5_orders_82 rfl ?_
              refine Tr.iastS (pc := 84) (P := St Tru ws_X5_orders_6_w3 as_X5_orders_6_w3 M0) d_X5_orders_84 (ty_41 hS.1.1) (by omega) (by omega) (sa_41 hS (by decide) (by omega) trivial) (fun M84 hS w84 => ?_)
              refine Tr.pick [1, 2, 3, 5, 0] (ls2 := [(0, (2, 6)), (1, (0, a1)), (2, (0, p7_2)), (4, (0, p7_4)), (5, (0, r59))]) rfl ?_
              exact J85 _ _ hS (by omega) ((Wr.b w84 rfl).trans ((St.ka h59 (by decide) (by decide) (by decide)).trans er57)) ((Wr.b w84 rfl).trans ((St.kp h59 (by decide) (by decide) (by decide)).trans er54)) ((Wr.b w84 rfl).trans ((St.kp h59 (by decide) (by decide) (by decide)).trans ((St.kp h15 (by decide) (by decide) (by decide)).trans k7_6_6)))
            · refine Tr.iload (pc := 68) (i := 5) d_X5_orders_68 rfl ?_
              refine Tr.istore_n (pc := 70) (i := 2) (ls2 := [(2, (0, r59)), (5, (0, r59)), (0, (2, 6)), (1, (0, a1)), (3, (0, p7_3)), (4, (0, p7_4))]) d_X5_orders_70 rfl (by decide) rfl ?_
              refine Tr.goto (pc := 71) (tgt := 85) d_X5_orders_71 rfl ?_
              refine Tr.pick [2, 3, 0, 5, 1] (ls2 := [(0, (2, 6)), (1, (0, a1)), (2, (0, r59)), (4, (0, p7_4)), (5, (0, r59))]) rfl ?_
              exact J85 _ _ hS (by omega) ((St.ka h59 (by decide) (by decide) (by decide)).trans er57) ((St.kp h59 (by decide) (by decide) (by decide)).trans er54) ((St.kp h59 (by decide) (by decide) (by decide)).trans ((St.kp h15 (by decide) (by decide) (by decide)).trans k7_6_6))
          · refine Tr.aload_n (pc := 33) (i := 0) d_X5_orders_33 rfl rfl ?_
            refine Tr.iconst (pc := 34) d_X5_orders_34 (by decide) ?_
            refine Tr.callV (pc := 35) (as := [_]) d_X5_orders_35 s_5_56 ok_X5_refuse rfl rfl (Nat.le_of_ble_eq_true rfl) (Nat.le_of_ble_eq_true rfl) (by decide) (ty_6 hS.1.1) ?_
            refine Tr.imp (Tr.deep (by decide) (sp_X5_refuse_6_w2 hS.1 ((St.kp hS (by decide) (by decide) (by decide)).trans en_6_2) 5 (by omega))) ?_
            rintro M35 _ ⟨h35, r35, rfl, lr35, ur35⟩
            have hS := St.tr hS h35 (by decide) (by decide)
            refine Tr.sc [(0, r35)] rfl ?_
            refine Tr.pop (pc := 38) d_X5_orders_38 ne01 ?_
            refine Tr.bipush (pc := 39) d_X5_orders_39 rfl (by decide) ?_
            exact Tr.iret (pc := 41) d_X5_orders_41 rfl ⟨hS, _, rfl, by omega, by omega, fun hq => absurd hq (by omega)⟩
  refine Tr.pick [3, 4, 2, 1, 0] (ls2 := [(0, (2, 6)), (1, (0, a1)), (2, (0, (-1))), (3, (0, (-1))), (4, (0, 0))]) rfl ?_
  exact J7 _ _ _ _ _ hS (by omega) (by omega) (by omega) en_6_6 (Nat.lt_succ_self _)

def ws_X5_block_6_w2 : List (Int × Int) := [(6, 0), (6, 1), (6, 5), (6, 6), (35, 0), (35, 11)]
def as_X5_block_6_w2 : List Int := [36, 37, 38, 39, 40, 41, 42, 44, 45]
def q_X5_block_6_w2 (M0 M' : Mem) (r : Option PV) : Prop := St Tru ws_X5_block_6_w2 as_X5_block_6_w2 M0 M' ∧ ∃ v : Int, r = some (0, v) ∧ (-2) ≤ v ∧ v ≤ 59 ∧ (((-1) ≤ v ∧ v ≤ 1000000) → rd M' 6 6 = 2)
set_option maxRecDepth 100000 in
set_option maxHeartbeats 4000000 in
theorem sp_X5_block_6_w2 {l : Launch} {K : EC} {M0 : Mem} {xq : Int} (hI : In Tru M0) (hE : e_all K xq) (en_6_2 : rd M0 6 2 = 2) (en_6_3 : rd M0 6 3 = 27) (en_6_4 : rd M0 6 4 = 35) (en_6_6 : rd M0 6 6 = 2) (a1 : Int) (ha1 : 0 ≤ a1 ∧ a1 ≤ 59)  : Tr l K 32 mX5_block 0 [(0, (2, 6)), (1, (0, a1))] [] M0 (q_X5_block_6_w2 M0) := by
  have hS : St Tru ws_X5_block_6_w2 as_X5_block_6_w2 M0 M0 := St.rf hI
  refine Tr.aload_n (pc := 0) (i := 0) d_X5_block_0 rfl rfl ?_
  refine Tr.bipush (pc := 1) d_X5_block_1 rfl (by decide) ?_
  refine Tr.callV (pc := 3) (as := [_]) d_X5_block_3 s_5_206 ok_X5_takeOpening rfl rfl (Nat.le_of_ble_eq_true rfl) (Nat.le_of_ble_eq_true rfl) (by decide) (ty_6 hS.1.1) ?_
  refine Tr.imp (Tr.deep (by decide) (sp_X5_takeOpening_6_w20 hS.1 ((St.kp hS (by decide) (by decide) (by decide)).trans en_6_2) en_6_6 123 (by omega))) ?_
  rintro M3 _ ⟨h3, r3, rfl, lr3, ur3, x3_6_6⟩
  have hS := St.tr hS h3 (by decide) (by decide)
  refine Tr.sc [(0, r3)] rfl ?_
  refine Tr.if_ne (pc := 6) (tgt := 12) d_X5_block_6 rfl (fun c6 => ?_) (fun c6 => ?_)
  · refine Tr.aload_n (pc := 12) (i := 0) d_X5_block_12 rfl rfl ?_
    refine Tr.iload_n (pc := 13) (i := 1) d_X5_block_13 rfl rfl ?_
    refine Tr.callV (pc := 14) (as := [_]) d_X5_block_14 s_5_46 ok_X5_orders rfl rfl (Nat.le_of_ble_eq_true rfl) (Nat.le_of_ble_eq_true rfl) (by decide) (ty_6 hS.1.1) ?_
    refine Tr.imp (Tr.deep (by decide) (sp_X5_orders_6_w3 hS.1 hE ((St.kp hS (by decide) (by decide) (by decide)).trans en_6_2) ((St.kp hS (by decide) (by decide) (by decide)).trans en_6_3) ((St.kp hS (by decide) (by decide) (by decide)).trans en_6_4) (x3_6_6 (by omega)) a1 (by omega))) ?_
    rintro M14 _ ⟨h14, r14, rfl, lr14, ur14, x14_6_6⟩
    have hS := St.tr hS h14 (by decide) (by decide)
    refine Tr.sc [(0, r14)] rfl ?_
    refine Tr.istore_n (pc := 17) (i := 2) (ls2 := [(2, (0, r14)), (0, (2, 6)), (1, (0, a1))]) d_X5_block_17 rfl (by decide) rfl ?_
    refine Tr.iload_n (pc := 18) (i := 2) d_X5_block_18 rfl rfl ?_
    refine Tr.bipush (pc := 19) d_X5_block_19 rfl (by decide) ?_
    refine Tr.icmp_eq (pc := 21) (tgt := 33) d_X5_block_21 rfl (fun c21 => ?_) (fun c21 => ?_)
    · refine Tr.bipush (pc := 33) d_X5_block_33 rfl (by decide) ?_
      exact Tr.iret (pc := 35) d_X5_block_35 rfl ⟨hS, _, rfl, by omega, by omega, fun hq => absurd hq (by omega)⟩
    · refine Tr.aload_n (pc := 24) (i := 0) d_X5_block_24 rfl rfl ?_
      refine Tr.bipush (pc := 25) d_X5_block_25 rfl (by decide) ?_
      refine Tr.callV (pc := 27) (as := [_]) d_X5_block_27 s_5_209 ok_X5_takeClosing rfl rfl (Nat.le_of_ble_eq_true rfl) (Nat.le_of_ble_eq_true rfl) (by decide) (ty_6 hS.1.1) ?_
      refine Tr.imp (Tr.deep (by decide) (sp_X5_takeClosing_6_w21 hS.1 ((St.kp hS (by decide) (by decide) (by decide)).trans en_6_2) (x14_6_6 (by omega)) 125 (by omega))) ?_
      rintro M27 _ ⟨h27, r27, rfl, lr27, ur27, x27_6_6⟩
      have hS := St.tr hS h27 (by decide) (by decide)
      refine Tr.sc [(0, r27)] rfl ?_
      refine Tr.if_ne (pc := 30) (tgt := 36) d_X5_block_30 rfl (fun c30 => ?_) (fun c30 => ?_)
      · refine Tr.iload_n (pc := 36) (i := 2) d_X5_block_36 rfl rfl ?_
        exact Tr.iret (pc := 37) d_X5_block_37 rfl ⟨hS, _, rfl, by omega, by omega, fun _ => (x27_6_6 (by omega))⟩
      · refine Tr.bipush (pc := 33) d_X5_block_33 rfl (by decide) ?_
        exact Tr.iret (pc := 35) d_X5_block_35 rfl ⟨hS, _, rfl, by omega, by omega, fun hq => absurd hq (by omega)⟩
  · refine Tr.bipush (pc := 9) d_X5_block_9 rfl (by decide) ?_
    exact Tr.iret (pc := 11) d_X5_block_11 rfl ⟨hS, _, rfl, by omega, by omega, fun hq => absurd hq (by omega)⟩

def ws_X5_yesBlock_6_w2 : List (Int × Int) := [(6, 0), (6, 1), (6, 5), (6, 6), (35, 0), (35, 11)]
def as_X5_yesBlock_6_w2 : List Int := [36, 37, 38, 39, 40, 41, 42, 44, 45]
def q_X5_yesBlock_6_w2 (M0 M' : Mem) (r : Option PV) : Prop := St Tru ws_X5_yesBlock_6_w2 as_X5_yesBlock_6_w2 M0 M' ∧ ∃ v : Int, r = some (0, v) ∧ 0 ≤ v ∧ v ≤ 1 ∧ ((1 ≤ v ∧ v ≤ 1) → rd M' 6 6 = 2)
set_option maxRecDepth 100000 in
set_option maxHeartbeats 4000000 in
theorem sp_X5_yesBlock_6_w2 {l : Launch} {K : EC} {M0 : Mem} {xq : Int} (hI : In Tru M0) (hE : e_all K xq) (en_6_2 : rd M0 6 2 = 2) (en_6_3 : rd M0 6 3 = 27) (en_6_4 : rd M0 6 4 = 35) (en_6_6 : rd M0 6 6 = 2) (a1 : Int) (ha1 : 0 ≤ a1 ∧ a1 ≤ 59)  : Tr l K 33 mX5_yesBlock 0 [(0, (2, 6)), (1, (0, a1))] [] M0 (q_X5_yesBlock_6_w2 M0) := by
  have hS : St Tru ws_X5_yesBlock_6_w2 as_X5_yesBlock_6_w2 M0 M0 := St.rf hI
  refine Tr.aload_n (pc := 0) (i := 0) d_X5_yesBlock_0 rfl rfl ?_
  refine Tr.iload_n (pc := 1) (i := 1) d_X5_yesBlock_1 rfl rfl ?_
  refine Tr.callV (pc := 2) (as := [_]) d_X5_yesBlock_2 s_5_197 ok_X5_block rfl rfl (Nat.le_of_ble_eq_true rfl) (Nat.le_of_ble_eq_true rfl) (by decide) (ty_6 hS.1.1) ?_
  refine Tr.imp (Tr.deep (by decide) (sp_X5_block_6_w2 hS.1 hE ((St.kp hS (by decide) (by decide) (by decide)).trans en_6_2) ((St.kp hS (by decide) (by decide) (by decide)).trans en_6_3) ((St.kp hS (by decide) (by decide) (by decide)).trans en_6_4) en_6_6 a1 (by omega))) ?_
  rintro M2 _ ⟨h2, r2, rfl, lr2, ur2, x2_6_6⟩
  have hS := St.tr hS h2 (by decide) (by decide)
  refine Tr.sc [(0, r2)] rfl ?_
  refine Tr.istore_n (pc := 5) (i := 2) (ls2 := [(2, (0, r2)), (0, (2, 6)), (1, (0, a1))]) d_X5_yesBlock_5 rfl (by decide) rfl ?_
  refine Tr.aload_n (pc := 6) (i := 0) d_X5_yesBlock_6 rfl rfl ?_
  refine Tr.getf (pc := 7) d_X5_yesBlock_7 f_5_32 (by decide) (by decide) (ty_6 hS.1.1) ?_
  refine Tr.tp 35 ((St.kp hS (by decide) (by decide) (by decide)).trans en_6_4) ?_
  refine Tr.getf (pc := 10) d_X5_yesBlock_10 f_5_200 (by decide) (by decide) (ty_35 hS.1.1) ?_
  refine Tr.tp 39 (fx_35_4 hS.1.1) ?_
  refine Tr.iload_n (pc := 13) (i := 1) d_X5_yesBlock_13 rfl rfl ?_
  refine Tr.iload_n (pc := 14) (i := 2) d_X5_yesBlock_14 rfl rfl ?_
  refine Tr.iastS (pc := 15) (P := St Tru ws_X5_yesBlock_6_w2 as_X5_yesBlock_6_w2 M0) d_X5_yesBlock_15 (ty_39 hS.1.1) (by omega) (by omega) (sa_39 hS (by decide) (by omega) trivial) (fun M15 hS w15 => ?_)
  refine Tr.iload_n (pc := 16) (i := 2) d_X5_yesBlock_16 rfl rfl ?_
  refine Tr.bipush (pc := 17) d_X5_yesBlock_17 rfl (by decide) ?_
  refine Tr.icmp_eq (pc := 19) (tgt := 26) d_X5_yesBlock_19 rfl (fun c19 => ?_) (fun c19 => ?_)
  · refine Tr.iconst (pc := 26) d_X5_yesBlock_26 (by decide) ?_
    exact Tr.zret (pc := 27) d_X5_yesBlock_27 rfl (by omega) ⟨hS, _, rfl, by omega, by omega, fun hq => absurd hq (by omega)⟩
  · refine Tr.iconst (pc := 22) d_X5_yesBlock_22 (by decide) ?_
    refine Tr.goto (pc := 23) (tgt := 27) d_X5_yesBlock_23 rfl ?_
    exact Tr.zret (pc := 27) d_X5_yesBlock_27 rfl (by omega) ⟨hS, _, rfl, by omega, by omega, fun _ => ((Wr.b w15 rfl).trans (x2_6_6 (by omega)))⟩

def ws_X5_noBlock_6_w5 : List (Int × Int) := [(6, 0), (6, 1), (6, 5), (6, 6), (35, 0), (35, 11)]
def as_X5_noBlock_6_w5 : List Int := [36, 37, 38, 39, 40, 41, 42, 44, 45]
def q_X5_noBlock_6_w5 (M0 M' : Mem) (r : Option PV) : Prop := St Tru ws_X5_noBlock_6_w5 as_X5_noBlock_6_w5 M0 M' ∧ ∃ v : Int, r = some (0, v) ∧ 0 ≤ v ∧ v ≤ 1 ∧ ((1 ≤ v ∧ v ≤ 1) → rd M' 6 6 = 2)
set_option maxRecDepth 100000 in
set_option maxHeartbeats 4000000 in
theorem sp_X5_noBlock_6_w5 {l : Launch} {K : EC} {M0 : Mem} {xq : Int} (hI : In Tru M0) (hE : e_all K xq) (en_6_2 : rd M0 6 2 = 2) (en_6_3 : rd M0 6 3 = 27) (en_6_4 : rd M0 6 4 = 35) (en_6_6 : rd M0 6 6 = 2) (a1 : Int) (ha1 : 0 ≤ a1 ∧ a1 ≤ 59)  : Tr l K 33 mX5_noBlock 0 [(0, (2, 6)), (1, (0, a1))] [] M0 (q_X5_noBlock_6_w5 M0) := by
  have hS : St Tru ws_X5_noBlock_6_w5 as_X5_noBlock_6_w5 M0 M0 := St.rf hI
  refine Tr.aload_n (pc := 0) (i := 0) d_X5_noBlock_0 rfl rfl ?_
  refine Tr.bipush (pc := 1) d_X5_noBlock_1 rfl (by decide) ?_
  refine Tr.callV (pc := 3) (as := [_]) d_X5_noBlock_3 s_5_71 ok_X5_isOwn rfl rfl (Nat.le_of_ble_eq_true rfl) (Nat.le_of_ble_eq_true rfl) (by decide) (ty_6 hS.1.1) ?_
  refine Tr.imp (Tr.deep (by decide) (sp_X5_isOwn_6 hS.1 ((St.kp hS (by decide) (by decide) (by decide)).trans en_6_2) 13 (by omega))) ?_
  rintro M3 _ ⟨h3, r3, rfl, lr3, ur3⟩
  have hS := St.tr hS h3 (by decide) (by decide)
  refine Tr.sc [(0, r3)] rfl ?_
  refine Tr.if_ne (pc := 6) (tgt := 11) d_X5_noBlock_6 rfl (fun c6 => ?_) (fun c6 => ?_)
  · refine Tr.aload_n (pc := 11) (i := 0) d_X5_noBlock_11 rfl rfl ?_
    refine Tr.callV (pc := 12) (as := []) d_X5_noBlock_12 s_5_74 ok_X5_goOn rfl rfl (Nat.le_of_ble_eq_true rfl) (Nat.le_of_ble_eq_true rfl) (by decide) (ty_6 hS.1.1) ?_
    refine Tr.imp (Tr.deep (by decide) (sp_X5_goOn_6 hS.1 )) ?_
    rintro M12 _ ⟨h12, r12, rfl, lr12, ur12⟩
    have hS := St.tr hS h12 (by decide) (by decide)
    refine Tr.sc [(0, r12)] rfl ?_
    refine Tr.pop (pc := 15) d_X5_noBlock_15 ne01 ?_
    refine Tr.aload_n (pc := 16) (i := 0) d_X5_noBlock_16 rfl rfl ?_
    refine Tr.iload_n (pc := 17) (i := 1) d_X5_noBlock_17 rfl rfl ?_
    refine Tr.callV (pc := 18) (as := [_]) d_X5_noBlock_18 s_5_197 ok_X5_block rfl rfl (Nat.le_of_ble_eq_true rfl) (Nat.le_of_ble_eq_true rfl) (by decide) (ty_6 hS.1.1) ?_
    refine Tr.imp (Tr.deep (by decide) (sp_X5_block_6_w2 hS.1 hE ((St.kp hS (by decide) (by decide) (by decide)).trans en_6_2) ((St.kp hS (by decide) (by decide) (by decide)).trans en_6_3) ((St.kp hS (by decide) (by decide) (by decide)).trans en_6_4) ((St.kp h12 (by decide) (by decide) (by decide)).trans ((St.kp h3 (by decide) (by decide) (by decide)).trans en_6_6)) a1 (by omega))) ?_
    rintro M18 _ ⟨h18, r18, rfl, lr18, ur18, x18_6_6⟩
    have hS := St.tr hS h18 (by decide) (by decide)
    refine Tr.sc [(0, r18)] rfl ?_
    refine Tr.istore_n (pc := 21) (i := 2) (ls2 := [(2, (0, r18)), (0, (2, 6)), (1, (0, a1))]) d_X5_noBlock_21 rfl (by decide) rfl ?_
    refine Tr.aload_n (pc := 22) (i := 0) d_X5_noBlock_22 rfl rfl ?_
    refine Tr.getf (pc := 23) d_X5_noBlock_23 f_5_32 (by decide) (by decide) (ty_6 hS.1.1) ?_
    refine Tr.tp 35 ((St.kp hS (by decide) (by decide) (by decide)).trans en_6_4) ?_
    refine Tr.getf (pc := 26) d_X5_noBlock_26 f_5_203 (by decide) (by decide) (ty_35 hS.1.1) ?_
    refine Tr.tp 40 (fx_35_5 hS.1.1) ?_
    refine Tr.iload_n (pc := 29) (i := 1) d_X5_noBlock_29 rfl rfl ?_
    refine Tr.iload_n (pc := 30) (i := 2) d_X5_noBlock_30 rfl rfl ?_
    refine Tr.iastS (pc := 31) (P := St Tru ws_X5_noBlock_6_w5 as_X5_noBlock_6_w5 M0) d_X5_noBlock_31 (ty_40 hS.1.1) (by omega) (by omega) (sa_40 hS (by decide) (by omega) trivial) (fun M31 hS w31 => ?_)
    refine Tr.iload_n (pc := 32) (i := 2) d_X5_noBlock_32 rfl rfl ?_
    refine Tr.bipush (pc := 33) d_X5_noBlock_33 rfl (by decide) ?_
    refine Tr.icmp_eq (pc := 35) (tgt := 42) d_X5_noBlock_35 rfl (fun c35 => ?_) (fun c35 => ?_)
    · refine Tr.iconst (pc := 42) d_X5_noBlock_42 (by decide) ?_
      exact Tr.zret (pc := 43) d_X5_noBlock_43 rfl (by omega) ⟨hS, _, rfl, by omega, by omega, fun hq => absurd hq (by omega)⟩
    · refine Tr.iconst (pc := 38) d_X5_noBlock_38 (by decide) ?_
      refine Tr.goto (pc := 39) (tgt := 43) d_X5_noBlock_39 rfl ?_
      exact Tr.zret (pc := 43) d_X5_noBlock_43 rfl (by omega) ⟨hS, _, rfl, by omega, by omega, fun _ => ((Wr.b w31 rfl).trans (x18_6_6 (by omega)))⟩
  · refine Tr.iconst (pc := 9) d_X5_noBlock_9 (by decide) ?_
    exact Tr.zret (pc := 10) d_X5_noBlock_10 rfl (by omega) ⟨hS, _, rfl, by omega, by omega, fun _ => ((St.kp h3 (by decide) (by decide) (by decide)).trans en_6_6)⟩

def ws_X5_order_6_w2 : List (Int × Int) := [(6, 0), (6, 1), (6, 5), (6, 6), (35, 0), (35, 11)]
def as_X5_order_6_w2 : List Int := [36, 37, 38, 39, 40, 41, 42, 44, 45]
def q_X5_order_6_w2 (M0 M' : Mem) (r : Option PV) : Prop := St Tru ws_X5_order_6_w2 as_X5_order_6_w2 M0 M' ∧ ∃ v : Int, r = some (0, v) ∧ 0 ≤ v ∧ v ≤ 1 ∧ ((1 ≤ v ∧ v ≤ 1) → rd M' 6 6 = 2)
set_option maxRecDepth 100000 in
set_option maxHeartbeats 4000000 in
theorem sp_X5_order_6_w2 {l : Launch} {K : EC} {M0 : Mem} {xq : Int} (hI : In Tru M0) (hE : e_all K xq) (en_6_2 : rd M0 6 2 = 2) (en_6_3 : rd M0 6 3 = 27) (en_6_4 : rd M0 6 4 = 35) (en_6_6 : rd M0 6 6 = 2) (a1 : Int) (ha1 : 0 ≤ a1 ∧ a1 ≤ 59)  : Tr l K 34 mX5_order 0 [(0, (2, 6)), (1, (0, a1))] [] M0 (q_X5_order_6_w2 M0) := by
  have hS : St Tru ws_X5_order_6_w2 as_X5_order_6_w2 M0 M0 := St.rf hI
  refine Tr.aload_n (pc := 0) (i := 0) d_X5_order_0 rfl rfl ?_
  refine Tr.getf (pc := 1) d_X5_order_1 f_5_32 (by decide) (by decide) (ty_6 hS.1.1) ?_
  refine Tr.tp 35 ((St.kp hS (by decide) (by decide) (by decide)).trans en_6_4) ?_
  refine Tr.getf (pc := 4) d_X5_order_4 f_5_169 (by decide) (by decide) (ty_35 hS.1.1) ?_
  refine Tr.tp 36 (fx_35_1 hS.1.1) ?_
  refine Tr.iload_n (pc := 7) (i := 1) d_X5_order_7 rfl rfl ?_
  refine Tr.iald (pc := 8) d_X5_order_8 (ty_36 hS.1.1) (by omega) (by omega) ?_
  refine Tr.gen (P := fun v => (-2147483648) ≤ v ∧ v ≤ 2147483647) (ar_36 hS.1.2.1 _) (fun r8 er8 br8 => ?_)
  rcases (show (r8 < 5 ∨ 11 < r8) ∨ r8 = 5 ∨ r8 = 6 ∨ r8 = 7 ∨ r8 = 8 ∨ r8 = 9 ∨ r8 = 10 ∨ r8 = 11 by omega) with c9 | c9 | c9 | c9 | c9 | c9 | c9 | c9
  · refine Tr.tswOut (pc := 9) (tgt := 198) d_X5_order_9 c9 rfl ?_
    refine Tr.aload_n (pc := 198) (i := 0) d_X5_order_198 rfl rfl ?_
    refine Tr.callV (pc := 199) (as := []) d_X5_order_199 s_5_177 ok_X5_test rfl rfl (Nat.le_of_ble_eq_true rfl) (Nat.le_of_ble_eq_true rfl) (by decide) (ty_6 hS.1.1) ?_
    refine Tr.imp (Tr.deep (by decide) (sp_X5_test_6_w2 hS.1 hE ((St.kp hS (by decide) (by decide) (by decide)).trans en_6_2) ((St.kp hS (by decide) (by decide) (by decide)).trans en_6_3) ((St.kp hS (by decide) (by decide) (by decide)).trans en_6_4) en_6_6)) ?_
    rintro M199 _ ⟨h199, r199, rfl, lr199, ur199, x199_6_6⟩
    have hS := St.tr hS h199 (by decide) (by decide)
    refine Tr.sc [(0, r199)] rfl ?_
    refine Tr.if_eq (pc := 202) (tgt := 217) d_X5_order_202 rfl (fun c202 => ?_) (fun c202 => ?_)
    · refine Tr.iconst (pc := 217) d_X5_order_217 (by decide) ?_
      exact Tr.zret (pc := 218) d_X5_order_218 rfl (by omega) ⟨hS, _, rfl, by omega, by omega, fun hq => absurd hq (by omega)⟩
    · refine Tr.aload_n (pc := 205) (i := 0) d_X5_order_205 rfl rfl ?_
      refine Tr.iload_n (pc := 206) (i := 1) d_X5_order_206 rfl rfl ?_
      refine Tr.callV (pc := 207) (as := [_]) d_X5_order_207 s_5_180 ok_X5_yesBlock rfl rfl (Nat.le_of_ble_eq_true rfl) (Nat.le_of_ble_eq_true rfl) (by decide) (ty_6 hS.1.1) ?_
      refine Tr.imp (Tr.deep (by decide) (sp_X5_yesBlock_6_w2 hS.1 hE ((St.kp hS (by decide) (by decide) (by decide)).trans en_6_2) ((St.kp hS (by decide) (by decide) (by decide)).trans en_6_3) ((St.kp hS (by decide) (by decide) (by decide)).trans en_6_4) (x199_6_6 (by omega)) a1 (by omega))) ?_
      rintro M207 _ ⟨h207, r207, rfl, lr207, ur207, x207_6_6⟩
      have hS := St.tr hS h207 (by decide) (by decide)
      refine Tr.sc [(0, r207)] rfl ?_
      refine Tr.if_eq (pc := 210) (tgt := 217) d_X5_order_210 rfl (fun c210 => ?_) (fun c210 => ?_)
      · refine Tr.iconst (pc := 217) d_X5_order_217 (by decide) ?_
        exact Tr.zret (pc := 218) d_X5_order_218 rfl (by omega) ⟨hS, _, rfl, by omega, by omega, fun hq => absurd hq (by omega)⟩
      · refine Tr.iconst (pc := 213) d_X5_order_213 (by decide) ?_
        refine Tr.goto (pc := 214) (tgt := 218) d_X5_order_214 rfl ?_
        exact Tr.zret (pc := 218) d_X5_order_218 rfl (by omega) ⟨hS, _, rfl, by omega, by omega, fun _ => (x207_6_6 (by omega))⟩
  · refine Tr.tp 5 c9 ?_
    refine Tr.tswIn (pc := 9) (off := 43) (tgt := 52) d_X5_order_9 (by decide) (by decide) rfl rfl ?_
    refine Tr.aload_n (pc := 52) (i := 0) d_X5_order_52 rfl rfl ?_
    refine Tr.iload_n (pc := 53) (i := 1) d_X5_order_53 rfl rfl ?_
    refine Tr.iconst (pc := 54) d_X5_order_54 (by decide) ?_
    refine Tr.callV (pc := 55) (as := [_, _]) d_X5_order_55 s_5_170 ok_X5_about rfl rfl (Nat.le_of_ble_eq_true rfl) (Nat.le_of_ble_eq_true rfl) (by decide) (ty_6 hS.1.1) ?_
    refine Tr.imp (Tr.deep (by decide) (sp_X5_about_6_v2 hS.1 hE ((St.kp hS (by decide) (by decide) (by decide)).trans en_6_2) ((St.kp hS (by decide) (by decide) (by decide)).trans en_6_3) ((St.kp hS (by decide) (by decide) (by decide)).trans en_6_4) a1 (by omega))) ?_
    rintro M55 _ ⟨h55, r55, rfl, lr55, ur55⟩
    have hS := St.tr hS h55 (by decide) (by decide)
    refine Tr.sc [(0, r55)] rfl ?_
    refine Tr.if_eq (pc := 58) (tgt := 90) d_X5_order_58 rfl (fun c58 => ?_) (fun c58 => ?_)
    · refine Tr.iconst (pc := 90) d_X5_order_90 (by decide) ?_
      exact Tr.zret (pc := 91) d_X5_order_91 rfl (by omega) ⟨hS, _, rfl, by omega, by omega, fun hq => absurd hq (by omega)⟩
    · refine Tr.aload_n (pc := 61) (i := 0) d_X5_order_61 rfl rfl ?_
      refine Tr.bipush (pc := 62) d_X5_order_62 rfl (by decide) ?_
      refine Tr.callV (pc := 64) (as := [_]) d_X5_order_64 s_5_81 ok_X5_takeSign rfl rfl (Nat.le_of_ble_eq_true rfl) (Nat.le_of_ble_eq_true rfl) (by decide) (ty_6 hS.1.1) ?_
      refine Tr.imp (Tr.deep (by decide) (sp_X5_takeSign_6_w3 hS.1 ((St.kp hS (by decide) (by decide) (by decide)).trans en_6_2) 61 (by omega))) ?_
      rintro M64 _ ⟨h64, r64, rfl, lr64, ur64⟩
      have hS := St.tr hS h64 (by decide) (by decide)
      refine Tr.sc [(0, r64)] rfl ?_
      refine Tr.if_eq (pc := 67) (tgt := 90) d_X5_order_67 rfl (fun c67 => ?_) (fun c67 => ?_)
      · refine Tr.iconst (pc := 90) d_X5_order_90 (by decide) ?_
        exact Tr.zret (pc := 91) d_X5_order_91 rfl (by omega) ⟨hS, _, rfl, by omega, by omega, fun hq => absurd hq (by omega)⟩
      · refine Tr.aload_n (pc := 70) (i := 0) d_X5_order_70 rfl rfl ?_
        refine Tr.callV (pc := 71) (as := []) d_X5_order_71 s_5_174 ok_X5_sum rfl rfl (Nat.le_of_ble_eq_true rfl) (Nat.le_of_ble_eq_true rfl) (by decide) (ty_6 hS.1.1) ?_
        refine Tr.imp (Tr.deep (by decide) (sp_X5_sum_6_w2 hS.1 hE ((St.kp hS (by decide) (by decide) (by decide)).trans en_6_2) ((St.kp hS (by decide) (by decide) (by decide)).trans en_6_3) ((St.kp hS (by decide) (by decide) (by decide)).trans en_6_4) ((St.kp h64 (by decide) (by decide) (by decide)).trans ((St.kp h55 (by decide) (by decide) (by decide)).trans en_6_6)))) ?_
        rintro M71 _ ⟨h71, r71, rfl, lr71, ur71, x71_6_6⟩
        have hS := St.tr hS h71 (by decide) (by decide)
        refine Tr.sc [(0, r71)] rfl ?_
        refine Tr.if_eq (pc := 74) (tgt := 90) d_X5_order_74 rfl (fun c74 => ?_) (fun c74 => ?_)
        · refine Tr.iconst (pc := 90) d_X5_order_90 (by decide) ?_
          exact Tr.zret (pc := 91) d_X5_order_91 rfl (by omega) ⟨hS, _, rfl, by omega, by omega, fun hq => absurd hq (by omega)⟩
        · refine Tr.aload_n (pc := 77) (i := 0) d_X5_order_77 rfl rfl ?_
          refine Tr.bipush (pc := 78) d_X5_order_78 rfl (by decide) ?_
          refine Tr.callV (pc := 80) (as := [_]) d_X5_order_80 s_5_81 ok_X5_takeSign rfl rfl (Nat.le_of_ble_eq_true rfl) (Nat.le_of_ble_eq_true rfl) (by decide) (ty_6 hS.1.1) ?_
          refine Tr.imp (Tr.deep (by decide) (sp_X5_takeSign_6 hS.1 ((St.kp hS (by decide) (by decide) (by decide)).trans en_6_2) 59 (by omega))) ?_
          rintro M80 _ ⟨h80, r80, rfl, lr80, ur80⟩
          have hS := St.tr hS h80 (by decide) (by decide)
          refine Tr.sc [(0, r80)] rfl ?_
          refine Tr.if_eq (pc := 83) (tgt := 90) d_X5_order_83 rfl (fun c83 => ?_) (fun c83 => ?_)
          · refine Tr.iconst (pc := 90) d_X5_order_90 (by decide) ?_
            exact Tr.zret (pc := 91) d_X5_order_91 rfl (by omega) ⟨hS, _, rfl, by omega, by omega, fun hq => absurd hq (by omega)⟩
          · refine Tr.iconst (pc := 86) d_X5_order_86 (by decide) ?_
            refine Tr.goto (pc := 87) (tgt := 91) d_X5_order_87 rfl ?_
            exact Tr.zret (pc := 91) d_X5_order_91 rfl (by omega) ⟨hS, _, rfl, by omega, by omega, fun _ => ((St.kp h80 (by decide) (by decide) (by decide)).trans (x71_6_6 (by omega)))⟩
  · refine Tr.tp 6 c9 ?_
    refine Tr.tswIn (pc := 9) (off := 83) (tgt := 92) d_X5_order_9 (by decide) (by decide) rfl rfl ?_
    refine Tr.aload_n (pc := 92) (i := 0) d_X5_order_92 rfl rfl ?_
    refine Tr.iload_n (pc := 93) (i := 1) d_X5_order_93 rfl rfl ?_
    refine Tr.iconst (pc := 94) d_X5_order_94 (by decide) ?_
    refine Tr.callV (pc := 95) (as := [_, _]) d_X5_order_95 s_5_170 ok_X5_about rfl rfl (Nat.le_of_ble_eq_true rfl) (Nat.le_of_ble_eq_true rfl) (by decide) (ty_6 hS.1.1) ?_
    refine Tr.imp (Tr.deep (by decide) (sp_X5_about_6_v0 hS.1 hE ((St.kp hS (by decide) (by decide) (by decide)).trans en_6_2) ((St.kp hS (by decide) (by decide) (by decide)).trans en_6_3) ((St.kp hS (by decide) (by decide) (by decide)).trans en_6_4) a1 (by omega))) ?_
    rintro M95 _ ⟨h95, r95, rfl, lr95, ur95⟩
    have hS := St.tr hS h95 (by decide) (by decide)
    refine Tr.sc [(0, r95)] rfl ?_
    refine Tr.if_eq (pc := 98) (tgt := 121) d_X5_order_98 rfl (fun c98 => ?_) (fun c98 => ?_)
    · refine Tr.iconst (pc := 121) d_X5_order_121 (by decide) ?_
      exact Tr.zret (pc := 122) d_X5_order_122 rfl (by omega) ⟨hS, _, rfl, by omega, by omega, fun hq => absurd hq (by omega)⟩
    · refine Tr.aload_n (pc := 101) (i := 0) d_X5_order_101 rfl rfl ?_
      refine Tr.callV (pc := 102) (as := []) d_X5_order_102 s_5_174 ok_X5_sum rfl rfl (Nat.le_of_ble_eq_true rfl) (Nat.le_of_ble_eq_true rfl) (by decide) (ty_6 hS.1.1) ?_
      refine Tr.imp (Tr.deep (by decide) (sp_X5_sum_6_w2 hS.1 hE ((St.kp hS (by decide) (by decide) (by decide)).trans en_6_2) ((St.kp hS (by decide) (by decide) (by decide)).trans en_6_3) ((St.kp hS (by decide) (by decide) (by decide)).trans en_6_4) ((St.kp h95 (by decide) (by decide) (by decide)).trans en_6_6))) ?_
      rintro M102 _ ⟨h102, r102, rfl, lr102, ur102, x102_6_6⟩
      have hS := St.tr hS h102 (by decide) (by decide)
      refine Tr.sc [(0, r102)] rfl ?_
      refine Tr.if_eq (pc := 105) (tgt := 121) d_X5_order_105 rfl (fun c105 => ?_) (fun c105 => ?_)
      · refine Tr.iconst (pc := 121) d_X5_order_121 (by decide) ?_
        exact Tr.zret (pc := 122) d_X5_order_122 rfl (by omega) ⟨hS, _, rfl, by omega, by omega, fun hq => absurd hq (by omega)⟩
      · refine Tr.aload_n (pc := 108) (i := 0) d_X5_order_108 rfl rfl ?_
        refine Tr.bipush (pc := 109) d_X5_order_109 rfl (by decide) ?_
        refine Tr.callV (pc := 111) (as := [_]) d_X5_order_111 s_5_81 ok_X5_takeSign rfl rfl (Nat.le_of_ble_eq_true rfl) (Nat.le_of_ble_eq_true rfl) (by decide) (ty_6 hS.1.1) ?_
        refine Tr.imp (Tr.deep (by decide) (sp_X5_takeSign_6 hS.1 ((St.kp hS (by decide) (by decide) (by decide)).trans en_6_2) 59 (by omega))) ?_
        rintro M111 _ ⟨h111, r111, rfl, lr111, ur111⟩
        have hS := St.tr hS h111 (by decide) (by decide)
        refine Tr.sc [(0, r111)] rfl ?_
        refine Tr.if_eq (pc := 114) (tgt := 121) d_X5_order_114 rfl (fun c114 => ?_) (fun c114 => ?_)
        · refine Tr.iconst (pc := 121) d_X5_order_121 (by decide) ?_
          exact Tr.zret (pc := 122) d_X5_order_122 rfl (by omega) ⟨hS, _, rfl, by omega, by omega, fun hq => absurd hq (by omega)⟩
        · refine Tr.iconst (pc := 117) d_X5_order_117 (by decide) ?_
          refine Tr.goto (pc := 118) (tgt := 122) d_X5_order_118 rfl ?_
          exact Tr.zret (pc := 122) d_X5_order_122 rfl (by omega) ⟨hS, _, rfl, by omega, by omega, fun _ => ((St.kp h111 (by decide) (by decide) (by decide)).trans (x102_6_6 (by omega)))⟩
  · refine Tr.tp 7 c9 ?_
    refine Tr.tswIn (pc := 9) (off := 114) (tgt := 123) d_X5_order_9 (by decide) (by decide) rfl rfl ?_
    refine Tr.aload_n (pc := 123) (i := 0) d_X5_order_123 rfl rfl ?_
    refine Tr.iload_n (pc := 124) (i := 1) d_X5_order_124 rfl rfl ?_
    refine Tr.iconst (pc := 125) d_X5_order_125 (by decide) ?_
    refine Tr.callV (pc := 126) (as := [_, _]) d_X5_order_126 s_5_170 ok_X5_about rfl rfl (Nat.le_of_ble_eq_true rfl) (Nat.le_of_ble_eq_true rfl) (by decide) (ty_6 hS.1.1) ?_
    refine Tr.imp (Tr.deep (by decide) (sp_X5_about_6_v0 hS.1 hE ((St.kp hS (by decide) (by decide) (by decide)).trans en_6_2) ((St.kp hS (by decide) (by decide) (by decide)).trans en_6_3) ((St.kp hS (by decide) (by decide) (by decide)).trans en_6_4) a1 (by omega))) ?_
    rintro M126 _ ⟨h126, r126, rfl, lr126, ur126⟩
    have hS := St.tr hS h126 (by decide) (by decide)
    refine Tr.sc [(0, r126)] rfl ?_
    refine Tr.if_eq (pc := 129) (tgt := 145) d_X5_order_129 rfl (fun c129 => ?_) (fun c129 => ?_)
    · refine Tr.iconst (pc := 145) d_X5_order_145 (by decide) ?_
      exact Tr.zret (pc := 146) d_X5_order_146 rfl (by omega) ⟨hS, _, rfl, by omega, by omega, fun hq => absurd hq (by omega)⟩
    · refine Tr.aload_n (pc := 132) (i := 0) d_X5_order_132 rfl rfl ?_
      refine Tr.bipush (pc := 133) d_X5_order_133 rfl (by decide) ?_
      refine Tr.callV (pc := 135) (as := [_]) d_X5_order_135 s_5_81 ok_X5_takeSign rfl rfl (Nat.le_of_ble_eq_true rfl) (Nat.le_of_ble_eq_true rfl) (by decide) (ty_6 hS.1.1) ?_
      refine Tr.imp (Tr.deep (by decide) (sp_X5_takeSign_6 hS.1 ((St.kp hS (by decide) (by decide) (by decide)).trans en_6_2) 59 (by omega))) ?_
      rintro M135 _ ⟨h135, r135, rfl, lr135, ur135⟩
      have hS := St.tr hS h135 (by decide) (by decide)
      refine Tr.sc [(0, r135)] rfl ?_
      refine Tr.if_eq (pc := 138) (tgt := 145) d_X5_order_138 rfl (fun c138 => ?_) (fun c138 => ?_)
      · refine Tr.iconst (pc := 145) d_X5_order_145 (by decide) ?_
        exact Tr.zret (pc := 146) d_X5_order_146 rfl (by omega) ⟨hS, _, rfl, by omega, by omega, fun hq => absurd hq (by omega)⟩
      · refine Tr.iconst (pc := 141) d_X5_order_141 (by decide) ?_
        refine Tr.goto (pc := 142) (tgt := 146) d_X5_order_142 rfl ?_
        exact Tr.zret (pc := 146) d_X5_order_146 rfl (by omega) ⟨hS, _, rfl, by omega, by omega, fun _ => ((St.kp h135 (by decide) (by decide) (by decide)).trans ((St.kp h126 (by decide) (by decide) (by decide)).trans en_6_6))⟩
  · refine Tr.tp 8 c9 ?_
    refine Tr.tswIn (pc := 9) (off := 114) (tgt := 123) d_X5_order_9 (by decide) (by decide) rfl rfl ?_
    refine Tr.aload_n (pc := 123) (i := 0) d_X5_order_123 rfl rfl ?_
    refine Tr.iload_n (pc := 124) (i := 1) d_X5_order_124 rfl rfl ?_
    refine Tr.iconst (pc := 125) d_X5_order_125 (by decide) ?_
    refine Tr.callV (pc := 126) (as := [_, _]) d_X5_order_126 s_5_170 ok_X5_about rfl rfl (Nat.le_of_ble_eq_true rfl) (Nat.le_of_ble_eq_true rfl) (by decide) (ty_6 hS.1.1) ?_
    refine Tr.imp (Tr.deep (by decide) (sp_X5_about_6_v0 hS.1 hE ((St.kp hS (by decide) (by decide) (by decide)).trans en_6_2) ((St.kp hS (by decide) (by decide) (by decide)).trans en_6_3) ((St.kp hS (by decide) (by decide) (by decide)).trans en_6_4) a1 (by omega))) ?_
    rintro M126 _ ⟨h126, r126, rfl, lr126, ur126⟩
    have hS := St.tr hS h126 (by decide) (by decide)
    refine Tr.sc [(0, r126)] rfl ?_
    refine Tr.if_eq (pc := 129) (tgt := 145) d_X5_order_129 rfl (fun c129 => ?_) (fun c129 => ?_)
    · refine Tr.iconst (pc := 145) d_X5_order_145 (by decide) ?_
      exact Tr.zret (pc := 146) d_X5_order_146 rfl (by omega) ⟨hS, _, rfl, by omega, by omega, fun hq => absurd hq (by omega)⟩
    · refine Tr.aload_n (pc := 132) (i := 0) d_X5_order_132 rfl rfl ?_
      refine Tr.bipush (pc := 133) d_X5_order_133 rfl (by decide) ?_
      refine Tr.callV (pc := 135) (as := [_]) d_X5_order_135 s_5_81 ok_X5_takeSign rfl rfl (Nat.le_of_ble_eq_true rfl) (Nat.le_of_ble_eq_true rfl) (by decide) (ty_6 hS.1.1) ?_
      refine Tr.imp (Tr.deep (by decide) (sp_X5_takeSign_6 hS.1 ((St.kp hS (by decide) (by decide) (by decide)).trans en_6_2) 59 (by omega))) ?_
      rintro M135 _ ⟨h135, r135, rfl, lr135, ur135⟩
      have hS := St.tr hS h135 (by decide) (by decide)
      refine Tr.sc [(0, r135)] rfl ?_
      refine Tr.if_eq (pc := 138) (tgt := 145) d_X5_order_138 rfl (fun c138 => ?_) (fun c138 => ?_)
      · refine Tr.iconst (pc := 145) d_X5_order_145 (by decide) ?_
        exact Tr.zret (pc := 146) d_X5_order_146 rfl (by omega) ⟨hS, _, rfl, by omega, by omega, fun hq => absurd hq (by omega)⟩
      · refine Tr.iconst (pc := 141) d_X5_order_141 (by decide) ?_
        refine Tr.goto (pc := 142) (tgt := 146) d_X5_order_142 rfl ?_
        exact Tr.zret (pc := 146) d_X5_order_146 rfl (by omega) ⟨hS, _, rfl, by omega, by omega, fun _ => ((St.kp h135 (by decide) (by decide) (by decide)).trans ((St.kp h126 (by decide) (by decide) (by decide)).trans en_6_6))⟩
  · refine Tr.tp 9 c9 ?_
    refine Tr.tswIn (pc := 9) (off := 138) (tgt := 147) d_X5_order_9 (by decide) (by decide) rfl rfl ?_
    refine Tr.aload_n (pc := 147) (i := 0) d_X5_order_147 rfl rfl ?_
    refine Tr.callV (pc := 148) (as := []) d_X5_order_148 s_5_174 ok_X5_sum rfl rfl (Nat.le_of_ble_eq_true rfl) (Nat.le_of_ble_eq_true rfl) (by decide) (ty_6 hS.1.1) ?_
    refine Tr.imp (Tr.deep (by decide) (sp_X5_sum_6_w2 hS.1 hE ((St.kp hS (by decide) (by decide) (by decide)).trans en_6_2) ((St.kp hS (by decide) (by decide) (by decide)).trans en_6_3) ((St.kp hS (by decide) (by decide) (by decide)).trans en_6_4) en_6_6)) ?_
    rintro M148 _ ⟨h148, r148, rfl, lr148, ur148, x148_6_6⟩
    have hS := St.tr hS h148 (by decide) (by decide)
    refine Tr.sc [(0, r148)] rfl ?_
    refine Tr.if_eq (pc := 151) (tgt := 167) d_X5_order_151 rfl (fun c151 => ?_) (fun c151 => ?_)
    · refine Tr.iconst (pc := 167) d_X5_order_167 (by decide) ?_
      exact Tr.zret (pc := 168) d_X5_order_168 rfl (by omega) ⟨hS, _, rfl, by omega, by omega, fun hq => absurd hq (by omega)⟩
    · refine Tr.aload_n (pc := 154) (i := 0) d_X5_order_154 rfl rfl ?_
      refine Tr.bipush (pc := 155) d_X5_order_155 rfl (by decide) ?_
      refine Tr.callV (pc := 157) (as := [_]) d_X5_order_157 s_5_81 ok_X5_takeSign rfl rfl (Nat.le_of_ble_eq_true rfl) (Nat.le_of_ble_eq_true rfl) (by decide) (ty_6 hS.1.1) ?_
      refine Tr.imp (Tr.deep (by decide) (sp_X5_takeSign_6 hS.1 ((St.kp hS (by decide) (by decide) (by decide)).trans en_6_2) 59 (by omega))) ?_
      rintro M157 _ ⟨h157, r157, rfl, lr157, ur157⟩
      have hS := St.tr hS h157 (by decide) (by decide)
      refine Tr.sc [(0, r157)] rfl ?_
      refine Tr.if_eq (pc := 160) (tgt := 167) d_X5_order_160 rfl (fun c160 => ?_) (fun c160 => ?_)
      · refine Tr.iconst (pc := 167) d_X5_order_167 (by decide) ?_
        exact Tr.zret (pc := 168) d_X5_order_168 rfl (by omega) ⟨hS, _, rfl, by omega, by omega, fun hq => absurd hq (by omega)⟩
      · refine Tr.iconst (pc := 163) d_X5_order_163 (by decide) ?_
        refine Tr.goto (pc := 164) (tgt := 168) d_X5_order_164 rfl ?_
        exact Tr.zret (pc := 168) d_X5_order_168 rfl (by omega) ⟨hS, _, rfl, by omega, by omega, fun _ => ((St.kp h157 (by decide) (by decide) (by decide)).trans (x148_6_6 (by omega)))⟩
  · refine Tr.tp 10 c9 ?_
    refine Tr.tswIn (pc := 9) (off := 138) (tgt := 147) d_X5_order_9 (by decide) (by decide) rfl rfl ?_
    refine Tr.aload_n (pc := 147) (i := 0) d_X5_order_147 rfl rfl ?_
    refine Tr.callV (pc := 148) (as := []) d_X5_order_148 s_5_174 ok_X5_sum rfl rfl (Nat.le_of_ble_eq_true rfl) (Nat.le_of_ble_eq_true rfl) (by decide) (ty_6 hS.1.1) ?_
    refine Tr.imp (Tr.deep (by decide) (sp_X5_sum_6_w2 hS.1 hE ((St.kp hS (by decide) (by decide) (by decide)).trans en_6_2) ((St.kp hS (by decide) (by decide) (by decide)).trans en_6_3) ((St.kp hS (by decide) (by decide) (by decide)).trans en_6_4) en_6_6)) ?_
    rintro M148 _ ⟨h148, r148, rfl, lr148, ur148, x148_6_6⟩
    have hS := St.tr hS h148 (by decide) (by decide)
    refine Tr.sc [(0, r148)] rfl ?_
    refine Tr.if_eq (pc := 151) (tgt := 167) d_X5_order_151 rfl (fun c151 => ?_) (fun c151 => ?_)
    · refine Tr.iconst (pc := 167) d_X5_order_167 (by decide) ?_
      exact Tr.zret (pc := 168) d_X5_order_168 rfl (by omega) ⟨hS, _, rfl, by omega, by omega, fun hq => absurd hq (by omega)⟩
    · refine Tr.aload_n (pc := 154) (i := 0) d_X5_order_154 rfl rfl ?_
      refine Tr.bipush (pc := 155) d_X5_order_155 rfl (by decide) ?_
      refine Tr.callV (pc := 157) (as := [_]) d_X5_order_157 s_5_81 ok_X5_takeSign rfl rfl (Nat.le_of_ble_eq_true rfl) (Nat.le_of_ble_eq_true rfl) (by decide) (ty_6 hS.1.1) ?_
      refine Tr.imp (Tr.deep (by decide) (sp_X5_takeSign_6 hS.1 ((St.kp hS (by decide) (by decide) (by decide)).trans en_6_2) 59 (by omega))) ?_
      rintro M157 _ ⟨h157, r157, rfl, lr157, ur157⟩
      have hS := St.tr hS h157 (by decide) (by decide)
      refine Tr.sc [(0, r157)] rfl ?_
      refine Tr.if_eq (pc := 160) (tgt := 167) d_X5_order_160 rfl (fun c160 => ?_) (fun c160 => ?_)
      · refine Tr.iconst (pc := 167) d_X5_order_167 (by decide) ?_
        exact Tr.zret (pc := 168) d_X5_order_168 rfl (by omega) ⟨hS, _, rfl, by omega, by omega, fun hq => absurd hq (by omega)⟩
      · refine Tr.iconst (pc := 163) d_X5_order_163 (by decide) ?_
        refine Tr.goto (pc := 164) (tgt := 168) d_X5_order_164 rfl ?_
        exact Tr.zret (pc := 168) d_X5_order_168 rfl (by omega) ⟨hS, _, rfl, by omega, by omega, fun _ => ((St.kp h157 (by decide) (by decide) (by decide)).trans (x148_6_6 (by omega)))⟩
  · refine Tr.tp 11 c9 ?_
    refine Tr.tswIn (pc := 9) (off := 160) (tgt := 169) d_X5_order_9 (by decide) (by decide) rfl rfl ?_
    refine Tr.aload_n (pc := 169) (i := 0) d_X5_order_169 rfl rfl ?_
    refine Tr.callV (pc := 170) (as := []) d_X5_order_170 s_5_177 ok_X5_test rfl rfl (Nat.le_of_ble_eq_true rfl) (Nat.le_of_ble_eq_true rfl) (by decide) (ty_6 hS.1.1) ?_
    refine Tr.imp (Tr.deep (by decide) (sp_X5_test_6_w2 hS.1 hE ((St.kp hS (by decide) (by decide) (by decide)).trans en_6_2) ((St.kp hS (by decide) (by decide) (by decide)).trans en_6_3) ((St.kp hS (by decide) (by decide) (by decide)).trans en_6_4) en_6_6)) ?_
    rintro M170 _ ⟨h170, r170, rfl, lr170, ur170, x170_6_6⟩
    have hS := St.tr hS h170 (by decide) (by decide)
    refine Tr.sc [(0, r170)] rfl ?_
    refine Tr.if_eq (pc := 173) (tgt := 196) d_X5_order_173 rfl (fun c173 => ?_) (fun c173 => ?_)
    · refine Tr.iconst (pc := 196) d_X5_order_196 (by decide) ?_
      exact Tr.zret (pc := 197) d_X5_order_197 rfl (by omega) ⟨hS, _, rfl, by omega, by omega, fun hq => absurd hq (by omega)⟩
    · refine Tr.aload_n (pc := 176) (i := 0) d_X5_order_176 rfl rfl ?_
      refine Tr.iload_n (pc := 177) (i := 1) d_X5_order_177 rfl rfl ?_
      refine Tr.callV (pc := 178) (as := [_]) d_X5_order_178 s_5_180 ok_X5_yesBlock rfl rfl (Nat.le_of_ble_eq_true rfl) (Nat.le_of_ble_eq_true rfl) (by decide) (ty_6 hS.1.1) ?_
      refine Tr.imp (Tr.deep (by decide) (sp_X5_yesBlock_6_w2 hS.1 hE ((St.kp hS (by decide) (by decide) (by decide)).trans en_6_2) ((St.kp hS (by decide) (by decide) (by decide)).trans en_6_3) ((St.kp hS (by decide) (by decide) (by decide)).trans en_6_4) (x170_6_6 (by omega)) a1 (by omega))) ?_
      rintro M178 _ ⟨h178, r178, rfl, lr178, ur178, x178_6_6⟩
      have hS := St.tr hS h178 (by decide) (by decide)
      refine Tr.sc [(0, r178)] rfl ?_
      refine Tr.if_eq (pc := 181) (tgt := 196) d_X5_order_181 rfl (fun c181 => ?_) (fun c181 => ?_)
      · refine Tr.iconst (pc := 196) d_X5_order_196 (by decide) ?_
        exact Tr.zret (pc := 197) d_X5_order_197 rfl (by omega) ⟨hS, _, rfl, by omega, by omega, fun hq => absurd hq (by omega)⟩
      · refine Tr.aload_n (pc := 184) (i := 0) d_X5_order_184 rfl rfl ?_
        refine Tr.iload_n (pc := 185) (i := 1) d_X5_order_185 rfl rfl ?_
        refine Tr.callV (pc := 186) (as := [_]) d_X5_order_186 s_5_183 ok_X5_noBlock rfl rfl (Nat.le_of_ble_eq_true rfl) (Nat.le_of_ble_eq_true rfl) (by decide) (ty_6 hS.1.1) ?_
        refine Tr.imp (Tr.deep (by decide) (sp_X5_noBlock_6_w5 hS.1 hE ((St.kp hS (by decide) (by decide) (by decide)).trans en_6_2) ((St.kp hS (by decide) (by decide) (by decide)).trans en_6_3) ((St.kp hS (by decide) (by decide) (by decide)).trans en_6_4) (x178_6_6 (by omega)) a1 (by omega))) ?_
        rintro M186 _ ⟨h186, r186, rfl, lr186, ur186, x186_6_6⟩
        have hS := St.tr hS h186 (by decide) (by decide)
        refine Tr.sc [(0, r186)] rfl ?_
        refine Tr.if_eq (pc := 189) (tgt := 196) d_X5_order_189 rfl (fun c189 => ?_) (fun c189 => ?_)
        · refine Tr.iconst (pc := 196) d_X5_order_196 (by decide) ?_
          exact Tr.zret (pc := 197) d_X5_order_197 rfl (by omega) ⟨hS, _, rfl, by omega, by omega, fun hq => absurd hq (by omega)⟩
        · refine Tr.iconst (pc := 192) d_X5_order_192 (by decide) ?_
          refine Tr.goto (pc := 193) (tgt := 197) d_X5_order_193 rfl ?_
          exact Tr.zret (pc := 197) d_X5_order_197 rfl (by omega) ⟨hS, _, rfl, by omega, by omega, fun _ => (x186_6_6 (by omega))⟩

def ws_X5_orders_6_w2 : List (Int × Int) := [(6, 0), (6, 1), (6, 5), (6, 6), (35, 0), (35, 11)]
def as_X5_orders_6_w2 : List Int := [36, 37, 38, 39, 40, 41, 42, 44, 45]
def q_X5_orders_6_w2 (M0 M' : Mem) (r : Option PV) : Prop := St Tru ws_X5_orders_6_w2 as_X5_orders_6_w2 M0 M' ∧ ∃ v : Int, r = some (0, v) ∧ (-2) ≤ v ∧ v ≤ 59 ∧ (((-1) ≤ v ∧ v ≤ 1000000) → rd M' 6 6 = 2)
set_option maxRecDepth 100000 in
set_option maxHeartbeats 4000000 in
theorem sp_X5_orders_6_w2 {l : Launch} {K : EC} {M0 : Mem} {xq : Int} (hI : In Tru M0) (hE : e_all K xq) (en_6_2 : rd M0 6 2 = 2) (en_6_3 : rd M0 6 3 = 27) (en_6_4 : rd M0 6 4 = 35) (en_6_6 : rd M0 6 6 = 2) (a1 : Int) (ha1 : 0 ≤ a1 ∧ a1 ≤ 59)  : Tr l K 35 mX5_orders 0 [(0, (2, 6)), (1, (0, a1))] [] M0 (q_X5_orders_6_w2 M0) := by
  have hS : St Tru ws_X5_orders_6_w2 as_X5_orders_6_w2 M0 M0 := St.rf hI
  refine Tr.iconst (pc := 0) d_X5_orders_0 (by decide) ?_
  refine Tr.istore_n (pc := 1) (i := 2) (ls2 := [(2, (0, (-1))), (0, (2, 6)), (1, (0, a1))]) d_X5_orders_1 rfl (by decide) rfl ?_
  refine Tr.iconst (pc := 2) d_X5_orders_2 (by decide) ?_
  refine Tr.istore_n (pc := 3) (i := 3) (ls2 := [(3, (0, (-1))), (2, (0, (-1))), (0, (2, 6)), (1, (0, a1))]) d_X5_orders_3 rfl (by decide) rfl ?_
  refine Tr.iconst (pc := 4) d_X5_orders_4 (by decide) ?_
  refine Tr.istore (pc := 5) (i := 4) (ls2 := [(4, (0, 0)), (3, (0, (-1))), (2, (0, (-1))), (0, (2, 6)), (1, (0, a1))]) d_X5_orders_5 (by decide) rfl ?_
  have J7 : ∀ (n7 : Nat) (M : Mem) (p7_2 p7_3 p7_4 : Int), St Tru ws_X5_orders_6_w2 as_X5_orders_6_w2 M0 M → ((-1) ≤ p7_2 ∧ p7_2 ≤ 59) → ((-1) ≤ p7_3 ∧ p7_3 ≤ 59) → (0 ≤ p7_4 ∧ p7_4 ≤ 61) → rd M 6 6 = 2 → (61 - p7_4).toNat < n7 → Tr l K 35 mX5_orders 7 [(0, (2, 6)), (1, (0, a1)), (2, (0, p7_2)), (3, (0, p7_3)), (4, (0, p7_4))] [] M (q_X5_orders_6_w2 M0) := by
    intro n7
    induction n7 with
    | zero => intro M p7_2 p7_3 p7_4 hS bp7_2 bp7_3 bp7_4 k7_6_6 hm7; exact absurd hm7 (Nat.not_lt_zero _)
    | succ n7 J7 =>
      intro M p7_2 p7_3 p7_4 hS bp7_2 bp7_3 bp7_4 k7_6_6 hm7
      refine Tr.iload (pc := 7) (i := 4) d_X5_orders_7 rfl ?_
      refine Tr.bipush (pc := 9) d_X5_orders_9 rfl (by decide) ?_
      refine Tr.icmp_gt (pc := 11) (tgt := 111) d_X5_orders_11 rfl (fun c11 => ?_) (fun c11 => ?_)
      · refine Tr.iload_n (pc := 111) (i := 2) d_X5_orders_111 rfl rfl ?_
        exact Tr.iret (pc := 112) d_X5_orders_112 rfl ⟨hS, _, rfl, by omega, by omega, fun _ => k7_6_6⟩
      · refine Tr.aload_n (pc := 14) (i := 0) d_X5_orders_14 rfl rfl ?_
        refine Tr.callV (pc := 15) (as := []) d_X5_orders_15 s_5_154 ok_X5_isOrder rfl rfl (Nat.le_of_ble_eq_true rfl) (Nat.le_of_ble_eq_true rfl) (by decide) (ty_6 hS.1.1) ?_
        refine Tr.imp (Tr.deep (by decide) (sp_X5_isOrder_6 hS.1 ((St.kp hS (by decide) (by decide) (by decide)).trans en_6_2))) ?_
        rintro M15 _ ⟨h15, r15, rfl, lr15, ur15⟩
        have hS := St.tr hS h15 (by decide) (by decide)
        refine Tr.sc [(0, r15)] rfl ?_
        refine Tr.if_eq (pc := 18) (tgt := 111) d_X5_orders_18 rfl (fun c18 => ?_) (fun c18 => ?_)
        · refine Tr.iload_n (pc := 111) (i := 2) d_X5_orders_111 rfl rfl ?_
          exact Tr.iret (pc := 112) d_X5_orders_112 rfl ⟨hS, _, rfl, by omega, by omega, fun _ => ((St.kp h15 (by decide) (by decide) (by decide)).trans k7_6_6)⟩
        · refine Tr.aload_n (pc := 21) (i := 0) d_X5_orders_21 rfl rfl ?_
          refine Tr.getf (pc := 22) d_X5_orders_22 f_5_32 (by decide) (by decide) (ty_6 hS.1.1) ?_
          refine Tr.tp 35 ((St.kp hS (by decide) (by decide) (by decide)).trans en_6_4) ?_
          refine Tr.getf (pc := 25) d_X5_orders_25 f_5_157 (by decide) (by decide) (ty_35 hS.1.1) ?_
          refine Tr.gen (P := fun v => 0 ≤ v ∧ v ≤ 60) (ir_35_0 hS.1.2.1) (fun r25 er25 br25 => ?_)
          refine Tr.bipush (pc := 28) d_X5_orders_28 rfl (by decide) ?_
          refine Tr.icmp_lt (pc := 30) (tgt := 42) d_X5_orders_30 rfl (fun c30 => ?_) (fun c30 => ?_)
          · refine Tr.aload_n (pc := 42) (i := 0) d_X5_orders_42 rfl rfl ?_
            refine Tr.getf (pc := 43) d_X5_orders_43 f_5_32 (by decide) (by decide) (ty_6 hS.1.1) ?_
            refine Tr.tp 35 ((St.kp hS (by decide) (by decide) (by decide)).trans en_6_4) ?_
            refine Tr.aload_n (pc := 46) (i := 0) d_X5_orders_46 rfl rfl ?_
            refine Tr.getf (pc := 47) d_X5_orders_47 f_5_18 (by decide) (by decide) (ty_6 hS.1.1) ?_
            refine Tr.tp 2 ((St.kp hS (by decide) (by decide) (by decide)).trans en_6_2) ?_
            refine Tr.getf (pc := 50) d_X5_orders_50 f_5_68 (by decide) (by decide) (ty_2 hS.1.1) ?_
            refine Tr.tp 5 (fx_2_2 hS.1.1) ?_
            refine Tr.aload_n (pc := 53) (i := 0) d_X5_orders_53 rfl rfl ?_
            refine Tr.getf (pc := 54) d_X5_orders_54 f_5_36 (by decide) (by decide) (ty_6 hS.1.1) ?_
            refine Tr.gen (P := fun v => 0 ≤ v ∧ v ≤ 900) (ir_6_5 hS.1.2.1) (fun r54 er54 br54 => ?_)
            refine Tr.iald (pc := 57) d_X5_orders_57 (ty_5 hS.1.1) (by omega) (by omega) ?_
            refine Tr.gen (P := fun v => (-2147483648) ≤ v ∧ v ≤ 2147483647) (ar_5 hS.1.2.1 _) (fun r57 er57 br57 => ?_)
            refine Tr.iload_n (pc := 58) (i := 1) d_X5_orders_58 rfl rfl ?_
            refine Tr.callV (pc := 59) (as := [_, _]) d_X5_orders_59 s_5_160 ok_X4_open rfl rfl (Nat.le_of_ble_eq_true rfl) (Nat.le_of_ble_eq_true rfl) (by decide) (ty_35 hS.1.1) ?_
            refine Tr.imp (Tr.deep (by decide) (sp_X4_open_35_w1 hS.1 r57 (by omega) a1 (by omega) (by have h9 := er25; omega))) ?_
            rintro M59 _ ⟨h59, r59, rfl, lr59, ur59⟩
            have hS := St.tr hS h59 (by decide) (by decide)
            refine Tr.sc [(0, r59)] rfl ?_
            refine Tr.istore (pc := 62) (i := 5) (ls2 := [(5, (0, r59)), (0, (2, 6)), (1, (0, a1)), (2, (0, p7_2)), (3, (0, p7_3)), (4, (0, p7_4))]) d_X5_orders_62 (by decide) rfl ?_
            refine Tr.iload_n (pc := 64) (i := 3) d_X5_orders_64 rfl rfl ?_
            have J85 : ∀ (M : Mem) (p85_2 : Int), St Tru ws_X5_orders_6_w2 as_X5_orders_6_w2 M0 M → ((-1) ≤ p85_2 ∧ p85_2 ≤ 59) → rd M 5 r54 = r57 → rd M 6 5 = r54 → rd M 6 6 = 2 → Tr l K 35 mX5_orders 85 [(0, (2, 6)), (1, (0, a1)), (2, (0, p85_2)), (4, (0, p7_4)), (5, (0, r59))] [] M (q_X5_orders_6_w2 M0) := by
              intro M p85_2 hS bp85_2 k85_5_r5410 k85_6_5 k85_6_6
              refine Tr.iload (pc := 85) (i := 5) d_X5_orders_85 rfl ?_
              refine Tr.istore_n (pc := 87) (i := 3) (ls2 := [(3, (0, r59)), (0, (2, 6)), (1, (0, a1)), (2, (0, p85_2)), (4, (0, p7_4)), (5, (0, r59))]) d_X5_orders_87 rfl (by decide) rfl ?_
              refine Tr.aload_n (pc := 88) (i := 0) d_X5_orders_88 rfl rfl ?_
              refine Tr.callV (pc := 89) (as := []) d_X5_orders_89 s_5_74 ok_X5_goOn rfl rfl (Nat.le_of_ble_eq_true rfl) (Nat.le_of_ble_eq_true rfl) (by decide) (ty_6 hS.1.1) ?_
              refine Tr.imp (Tr.deep (by decide) (sp_X5_goOn_6 hS.1 )) ?_
              rintro M89 _ ⟨h89, r89, rfl, lr89, ur89⟩
              have hS := St.tr hS h89 (by decide) (by decide)
              refine Tr.sc [(0, r89)] rfl ?_
              refine Tr.pop (pc := 92) d_X5_orders_92 ne01 ?_
              refine Tr.aload_n (pc := 93) (i := 0) d_X5_orders_93 rfl rfl ?_
              refine Tr.iload (pc := 94) (i := 5) d_X5_orders_94 rfl ?_
              refine Tr.callV (pc := 96) (as := [_]) d_X5_orders_96 s_5_166 ok_X5_order rfl rfl (Nat.le_of_ble_eq_true rfl) (Nat.le_of_ble_eq_true rfl) (by decide) (ty_6 hS.1.1) ?_
              refine Tr.imp (Tr.deep (by decide) (sp_X5_order_6_w2 hS.1 hE ((St.kp hS (by decide) (by decide) (by decide)).trans en_6_2) ((St.kp hS (by decide) (by decide) (by decide)).trans en_6_3) ((St.kp hS (by decide) (by decide) (by decide)).trans en_6_4) ((St.kp h89 (by decide) (by decide) (by decide)).trans k85_6_6) r59 (by omega))) ?_
              rintro M96 _ ⟨h96, r96, rfl, lr96, ur96, x96_6_6⟩
              have hS := St.tr hS h96 (by decide) (by decide)
              refine Tr.sc [(0, r96)] rfl ?_
              refine Tr.if_ne (pc := 99) (tgt := 105) d_X5_orders_99 rfl (fun c99 => ?_) (fun c99 => ?_)
              · refine Tr.iincV (pc := 105) (n2 := (p7_4 + 1)) (ls2 := [(4, (0, (p7_4 + 1))), (3, (0, r59)), (0, (2, 6)), (1, (0, a1)), (2, (0, p85_2)), (5, (0, r59))]) d_X5_orders_105 rfl (by decide) ((w32_id (by omega)).trans (by omega)) rfl ?_
                refine Tr.goto (pc := 108) (tgt := 7) d_X5_orders_108 rfl ?_
                refine Tr.pick [2, 3, 4, 1, 0] (ls2 := [(0, (2, 6)), (1, (0, a1)), (2, (0, p85_2)), (3, (0, r59)), (4, (0, (p7_4 + 1)))]) rfl ?_
                exact J7 _ _ _ _ hS (by omega) (by omega) (by omega) (x96_6_6 (by omega)) (by omega)
              · refine Tr.bipush (pc := 102) d_X5_orders_102 rfl (by decide) ?_
                exact Tr.iret (pc := 104) d_X5_orders_104 rfl ⟨hS, _, rfl, by omega, by omega, fun hq => absurd hq (by omega)⟩
            refine Tr.if_ge (pc := 65) (tgt := 74) d_X5_orders_65 rfl (fun c65 => ?_) (fun c65 => ?_)
            · refine Tr.aload_n (pc := 74) (i := 0) d_X5_orders_74 rfl rfl ?_
              refine Tr.getf (pc := 75) d_X5_orders_75 f_5_32 (by decide) (by decide) (ty_6 hS.1.1) ?_
              refine Tr.tp 35 ((St.kp hS (by decide) (by decide) (by decide)).trans en_6_4) ?_
              refine Tr.getf (pc := 78) d_X5_orders_78 f_5_163 (by decide) (by decide) (ty_35 hS.1.1) ?_
              refine Tr.tp 41 (fx_35_6 hS.1.1) ?_
              refine Tr.iload_n (pc := 81) (i := 3) d_X5_orders_81 rfl rfl ?_
              refine Tr.iload (pc := 82) (i := 5) d_X5_orders_82 rfl ?_
              refine Tr.iastS (pc := 84) (P := St Tru ws_X5_orders_6_w2 as_X5_orders_6_w2 M0) d_X5_orders_84 (ty_41 hS.1.1) (by omega) (by omega) (sa_41 hS (by decide) (by omega) trivial) (fun M84 hS w84 => ?_)
              refine Tr.pick [1, 2, 3, 5, 0] (ls2 := [(0, (2, 6)), (1, (0, a1)), (2, (0, p7_2)), (4, (0, p7_4)), (5, (0, r59))]) rfl ?_
              exact J85 _ _ hS (by omega) ((Wr.b w84 rfl).trans ((St.ka h59 (by decide) (by decide) (by decide)).trans er57)) ((Wr.b w84 rfl).trans ((St.kp h59 (by decide) (by decide) (by decide)).trans er54)) ((Wr.b w84 rfl).trans ((St.kp h59 (by decide) (by decide) (by decide)).trans ((St.kp h15 (by decide) (by decide) (by decide)).trans k7_6_6)))
            · refine Tr.iload (pc := 68) (i := 5) d_X5_orders_68 rfl ?_
              refine Tr.istore_n (pc := 70) (i := 2) (ls2 := [(2, (0, r59)), (5, (0, r59)), (0, (2, 6)), (1, (0, a1)), (3, (0, p7_3)), (4, (0, p7_4))]) d_X5_orders_70 rfl (by decide) rfl ?_
              refine Tr.goto (pc := 71) (tgt := 85) d_X5_orders_71 rfl ?_
              refine Tr.pick [2, 3, 0, 5, 1] (ls2 := [(0, (2, 6)), (1, (0, a1)), (2, (0, r59)), (4, (0, p7_4)), (5, (0, r59))]) rfl ?_
              exact J85 _ _ hS (by omega) ((St.ka h59 (by decide) (by decide) (by decide)).trans er57) ((St.kp h59 (by decide) (by decide) (by decide)).trans er54) ((St.kp h59 (by decide) (by decide) (by decide)).trans ((St.kp h15 (by decide) (by decide) (by decide)).trans k7_6_6))
          · refine Tr.aload_n (pc := 33) (i := 0) d_X5_orders_33 rfl rfl ?_
            refine Tr.iconst (pc := 34) d_X5_orders_34 (by decide) ?_
            refine Tr.callV (pc := 35) (as := [_]) d_X5_orders_35 s_5_56 ok_X5_refuse rfl rfl (Nat.le_of_ble_eq_true rfl) (Nat.le_of_ble_eq_true rfl) (by decide) (ty_6 hS.1.1) ?_
            refine Tr.imp (Tr.deep (by decide) (sp_X5_refuse_6_w2 hS.1 ((St.kp hS (by decide) (by decide) (by decide)).trans en_6_2) 5 (by omega))) ?_
            rintro M35 _ ⟨h35, r35, rfl, lr35, ur35⟩
            have hS := St.tr hS h35 (by decide) (by decide)
            refine Tr.sc [(0, r35)] rfl ?_
            refine Tr.pop (pc := 38) d_X5_orders_38 ne01 ?_
            refine Tr.bipush (pc := 39) d_X5_orders_39 rfl (by decide) ?_
            exact Tr.iret (pc := 41) d_X5_orders_41 rfl ⟨hS, _, rfl, by omega, by omega, fun hq => absurd hq (by omega)⟩
  refine Tr.pick [3, 4, 2, 1, 0] (ls2 := [(0, (2, 6)), (1, (0, a1)), (2, (0, (-1))), (3, (0, (-1))), (4, (0, 0))]) rfl ?_
  exact J7 _ _ _ _ _ hS (by omega) (by omega) (by omega) en_6_6 (Nat.lt_succ_self _)

def ws_X5_block_6_w1 : List (Int × Int) := [(6, 0), (6, 1), (6, 5), (6, 6), (35, 0), (35, 11)]
def as_X5_block_6_w1 : List Int := [36, 37, 38, 39, 40, 41, 42, 44, 45]
def q_X5_block_6_w1 (M0 M' : Mem) (r : Option PV) : Prop := St Tru ws_X5_block_6_w1 as_X5_block_6_w1 M0 M' ∧ ∃ v : Int, r = some (0, v) ∧ (-2) ≤ v ∧ v ≤ 59 ∧ (((-1) ≤ v ∧ v ≤ 1000000) → rd M' 6 6 = 1)
set_option maxRecDepth 100000 in
set_option maxHeartbeats 4000000 in
theorem sp_X5_block_6_w1 {l : Launch} {K : EC} {M0 : Mem} {xq : Int} (hI : In Tru M0) (hE : e_all K xq) (en_6_2 : rd M0 6 2 = 2) (en_6_3 : rd M0 6 3 = 27) (en_6_4 : rd M0 6 4 = 35) (en_6_6 : rd M0 6 6 = 1) (a1 : Int) (ha1 : 0 ≤ a1 ∧ a1 ≤ 59)  : Tr l K 36 mX5_block 0 [(0, (2, 6)), (1, (0, a1))] [] M0 (q_X5_block_6_w1 M0) := by
  have hS : St Tru ws_X5_block_6_w1 as_X5_block_6_w1 M0 M0 := St.rf hI
  refine Tr.aload_n (pc := 0) (i := 0) d_X5_block_0 rfl rfl ?_
  refine Tr.bipush (pc := 1) d_X5_block_1 rfl (by decide) ?_
  refine Tr.callV (pc := 3) (as := [_]) d_X5_block_3 s_5_206 ok_X5_takeOpening rfl rfl (Nat.le_of_ble_eq_true rfl) (Nat.le_of_ble_eq_true rfl) (by decide) (ty_6 hS.1.1) ?_
  refine Tr.imp (Tr.deep (by decide) (sp_X5_takeOpening_6_w19 hS.1 ((St.kp hS (by decide) (by decide) (by decide)).trans en_6_2) en_6_6 123 (by omega))) ?_
  rintro M3 _ ⟨h3, r3, rfl, lr3, ur3, x3_6_6⟩
  have hS := St.tr hS h3 (by decide) (by decide)
  refine Tr.sc [(0, r3)] rfl ?_
  refine Tr.if_ne (pc := 6) (tgt := 12) d_X5_block_6 rfl (fun c6 => ?_) (fun c6 => ?_)
  · refine Tr.aload_n (pc := 12) (i := 0) d_X5_block_12 rfl rfl ?_
    refine Tr.iload_n (pc := 13) (i := 1) d_X5_block_13 rfl rfl ?_
    refine Tr.callV (pc := 14) (as := [_]) d_X5_block_14 s_5_46 ok_X5_orders rfl rfl (Nat.le_of_ble_eq_true rfl) (Nat.le_of_ble_eq_true rfl) (by decide) (ty_6 hS.1.1) ?_
    refine Tr.imp (Tr.deep (by decide) (sp_X5_orders_6_w2 hS.1 hE ((St.kp hS (by decide) (by decide) (by decide)).trans en_6_2) ((St.kp hS (by decide) (by decide) (by decide)).trans en_6_3) ((St.kp hS (by decide) (by decide) (by decide)).trans en_6_4) (x3_6_6 (by omega)) a1 (by omega))) ?_
    rintro M14 _ ⟨h14, r14, rfl, lr14, ur14, x14_6_6⟩
    have hS := St.tr hS h14 (by decide) (by decide)
    refine Tr.sc [(0, r14)] rfl ?_
    refine Tr.istore_n (pc := 17) (i := 2) (ls2 := [(2, (0, r14)), (0, (2, 6)), (1, (0, a1))]) d_X5_block_17 rfl (by decide) rfl ?_
    refine Tr.iload_n (pc := 18) (i := 2) d_X5_block_18 rfl rfl ?_
    refine Tr.bipush (pc := 19) d_X5_block_19 rfl (by decide) ?_
    refine Tr.icmp_eq (pc := 21) (tgt := 33) d_X5_block_21 rfl (fun c21 => ?_) (fun c21 => ?_)
    · refine Tr.bipush (pc := 33) d_X5_block_33 rfl (by decide) ?_
      exact Tr.iret (pc := 35) d_X5_block_35 rfl ⟨hS, _, rfl, by omega, by omega, fun hq => absurd hq (by omega)⟩
    · refine Tr.aload_n (pc := 24) (i := 0) d_X5_block_24 rfl rfl ?_
      refine Tr.bipush (pc := 25) d_X5_block_25 rfl (by decide) ?_
      refine Tr.callV (pc := 27) (as := [_]) d_X5_block_27 s_5_209 ok_X5_takeClosing rfl rfl (Nat.le_of_ble_eq_true rfl) (Nat.le_of_ble_eq_true rfl) (by decide) (ty_6 hS.1.1) ?_
      refine Tr.imp (Tr.deep (by decide) (sp_X5_takeClosing_6_w22 hS.1 ((St.kp hS (by decide) (by decide) (by decide)).trans en_6_2) (x14_6_6 (by omega)) 125 (by omega))) ?_
      rintro M27 _ ⟨h27, r27, rfl, lr27, ur27, x27_6_6⟩
      have hS := St.tr hS h27 (by decide) (by decide)
      refine Tr.sc [(0, r27)] rfl ?_
      refine Tr.if_ne (pc := 30) (tgt := 36) d_X5_block_30 rfl (fun c30 => ?_) (fun c30 => ?_)
      · refine Tr.iload_n (pc := 36) (i := 2) d_X5_block_36 rfl rfl ?_
        exact Tr.iret (pc := 37) d_X5_block_37 rfl ⟨hS, _, rfl, by omega, by omega, fun _ => (x27_6_6 (by omega))⟩
      · refine Tr.bipush (pc := 33) d_X5_block_33 rfl (by decide) ?_
        exact Tr.iret (pc := 35) d_X5_block_35 rfl ⟨hS, _, rfl, by omega, by omega, fun hq => absurd hq (by omega)⟩
  · refine Tr.bipush (pc := 9) d_X5_block_9 rfl (by decide) ?_
    exact Tr.iret (pc := 11) d_X5_block_11 rfl ⟨hS, _, rfl, by omega, by omega, fun hq => absurd hq (by omega)⟩

def ws_X5_yesBlock_6_w1 : List (Int × Int) := [(6, 0), (6, 1), (6, 5), (6, 6), (35, 0), (35, 11)]
def as_X5_yesBlock_6_w1 : List Int := [36, 37, 38, 39, 40, 41, 42, 44, 45]
def q_X5_yesBlock_6_w1 (M0 M' : Mem) (r : Option PV) : Prop := St Tru ws_X5_yesBlock_6_w1 as_X5_yesBlock_6_w1 M0 M' ∧ ∃ v : Int, r = some (0, v) ∧ 0 ≤ v ∧ v ≤ 1 ∧ ((1 ≤ v ∧ v ≤ 1) → rd M' 6 6 = 1)
set_option maxRecDepth 100000 in
set_option maxHeartbeats 4000000 in
theorem sp_X5_yesBlock_6_w1 {l : Launch} {K : EC} {M0 : Mem} {xq : Int} (hI : In Tru M0) (hE : e_all K xq) (en_6_2 : rd M0 6 2 = 2) (en_6_3 : rd M0 6 3 = 27) (en_6_4 : rd M0 6 4 = 35) (en_6_6 : rd M0 6 6 = 1) (a1 : Int) (ha1 : 0 ≤ a1 ∧ a1 ≤ 59)  : Tr l K 37 mX5_yesBlock 0 [(0, (2, 6)), (1, (0, a1))] [] M0 (q_X5_yesBlock_6_w1 M0) := by
  have hS : St Tru ws_X5_yesBlock_6_w1 as_X5_yesBlock_6_w1 M0 M0 := St.rf hI
  refine Tr.aload_n (pc := 0) (i := 0) d_X5_yesBlock_0 rfl rfl ?_
  refine Tr.iload_n (pc := 1) (i := 1) d_X5_yesBlock_1 rfl rfl ?_
  refine Tr.callV (pc := 2) (as := [_]) d_X5_yesBlock_2 s_5_197 ok_X5_block rfl rfl (Nat.le_of_ble_eq_true rfl) (Nat.le_of_ble_eq_true rfl) (by decide) (ty_6 hS.1.1) ?_
  refine Tr.imp (Tr.deep (by decide) (sp_X5_block_6_w1 hS.1 hE ((St.kp hS (by decide) (by decide) (by decide)).trans en_6_2) ((St.kp hS (by decide) (by decide) (by decide)).trans en_6_3) ((St.kp hS (by decide) (by decide) (by decide)).trans en_6_4) en_6_6 a1 (by omega))) ?_
  rintro M2 _ ⟨h2, r2, rfl, lr2, ur2, x2_6_6⟩
  have hS := St.tr hS h2 (by decide) (by decide)
  refine Tr.sc [(0, r2)] rfl ?_
  refine Tr.istore_n (pc := 5) (i := 2) (ls2 := [(2, (0, r2)), (0, (2, 6)), (1, (0, a1))]) d_X5_yesBlock_5 rfl (by decide) rfl ?_
  refine Tr.aload_n (pc := 6) (i := 0) d_X5_yesBlock_6 rfl rfl ?_
  refine Tr.getf (pc := 7) d_X5_yesBlock_7 f_5_32 (by decide) (by decide) (ty_6 hS.1.1) ?_
  refine Tr.tp 35 ((St.kp hS (by decide) (by decide) (by decide)).trans en_6_4) ?_
  refine Tr.getf (pc := 10) d_X5_yesBlock_10 f_5_200 (by decide) (by decide) (ty_35 hS.1.1) ?_
  refine Tr.tp 39 (fx_35_4 hS.1.1) ?_
  refine Tr.iload_n (pc := 13) (i := 1) d_X5_yesBlock_13 rfl rfl ?_
  refine Tr.iload_n (pc := 14) (i := 2) d_X5_yesBlock_14 rfl rfl ?_
  refine Tr.iastS (pc := 15) (P := St Tru ws_X5_yesBlock_6_w1 as_X5_yesBlock_6_w1 M0) d_X5_yesBlock_15 (ty_39 hS.1.1) (by omega) (by omega) (sa_39 hS (by decide) (by omega) trivial) (fun M15 hS w15 => ?_)
  refine Tr.iload_n (pc := 16) (i := 2) d_X5_yesBlock_16 rfl rfl ?_
  refine Tr.bipush (pc := 17) d_X5_yesBlock_17 rfl (by decide) ?_
  refine Tr.icmp_eq (pc := 19) (tgt := 26) d_X5_yesBlock_19 rfl (fun c19 => ?_) (fun c19 => ?_)
  · refine Tr.iconst (pc := 26) d_X5_yesBlock_26 (by decide) ?_
    exact Tr.zret (pc := 27) d_X5_yesBlock_27 rfl (by omega) ⟨hS, _, rfl, by omega, by omega, fun hq => absurd hq (by omega)⟩
  · refine Tr.iconst (pc := 22) d_X5_yesBlock_22 (by decide) ?_
    refine Tr.goto (pc := 23) (tgt := 27) d_X5_yesBlock_23 rfl ?_
    exact Tr.zret (pc := 27) d_X5_yesBlock_27 rfl (by omega) ⟨hS, _, rfl, by omega, by omega, fun _ => ((Wr.b w15 rfl).trans (x2_6_6 (by omega)))⟩

def ws_X5_noBlock_6_w6 : List (Int × Int) := [(6, 0), (6, 1), (6, 5), (6, 6), (35, 0), (35, 11)]
def as_X5_noBlock_6_w6 : List Int := [36, 37, 38, 39, 40, 41, 42, 44, 45]
def q_X5_noBlock_6_w6 (M0 M' : Mem) (r : Option PV) : Prop := St Tru ws_X5_noBlock_6_w6 as_X5_noBlock_6_w6 M0 M' ∧ ∃ v : Int, r = some (0, v) ∧ 0 ≤ v ∧ v ≤ 1 ∧ ((1 ≤ v ∧ v ≤ 1) → rd M' 6 6 = 1)
set_option maxRecDepth 100000 in
set_option maxHeartbeats 4000000 in
theorem sp_X5_noBlock_6_w6 {l : Launch} {K : EC} {M0 : Mem} {xq : Int} (hI : In Tru M0) (hE : e_all K xq) (en_6_2 : rd M0 6 2 = 2) (en_6_3 : rd M0 6 3 = 27) (en_6_4 : rd M0 6 4 = 35) (en_6_6 : rd M0 6 6 = 1) (a1 : Int) (ha1 : 0 ≤ a1 ∧ a1 ≤ 59)  : Tr l K 37 mX5_noBlock 0 [(0, (2, 6)), (1, (0, a1))] [] M0 (q_X5_noBlock_6_w6 M0) := by
  have hS : St Tru ws_X5_noBlock_6_w6 as_X5_noBlock_6_w6 M0 M0 := St.rf hI
  refine Tr.aload_n (pc := 0) (i := 0) d_X5_noBlock_0 rfl rfl ?_
  refine Tr.bipush (pc := 1) d_X5_noBlock_1 rfl (by decide) ?_
  refine Tr.callV (pc := 3) (as := [_]) d_X5_noBlock_3 s_5_71 ok_X5_isOwn rfl rfl (Nat.le_of_ble_eq_true rfl) (Nat.le_of_ble_eq_true rfl) (by decide) (ty_6 hS.1.1) ?_
  refine Tr.imp (Tr.deep (by decide) (sp_X5_isOwn_6 hS.1 ((St.kp hS (by decide) (by decide) (by decide)).trans en_6_2) 13 (by omega))) ?_
  rintro M3 _ ⟨h3, r3, rfl, lr3, ur3⟩
  have hS := St.tr hS h3 (by decide) (by decide)
  refine Tr.sc [(0, r3)] rfl ?_
  refine Tr.if_ne (pc := 6) (tgt := 11) d_X5_noBlock_6 rfl (fun c6 => ?_) (fun c6 => ?_)
  · refine Tr.aload_n (pc := 11) (i := 0) d_X5_noBlock_11 rfl rfl ?_
    refine Tr.callV (pc := 12) (as := []) d_X5_noBlock_12 s_5_74 ok_X5_goOn rfl rfl (Nat.le_of_ble_eq_true rfl) (Nat.le_of_ble_eq_true rfl) (by decide) (ty_6 hS.1.1) ?_
    refine Tr.imp (Tr.deep (by decide) (sp_X5_goOn_6 hS.1 )) ?_
    rintro M12 _ ⟨h12, r12, rfl, lr12, ur12⟩
    have hS := St.tr hS h12 (by decide) (by decide)
    refine Tr.sc [(0, r12)] rfl ?_
    refine Tr.pop (pc := 15) d_X5_noBlock_15 ne01 ?_
    refine Tr.aload_n (pc := 16) (i := 0) d_X5_noBlock_16 rfl rfl ?_
    refine Tr.iload_n (pc := 17) (i := 1) d_X5_noBlock_17 rfl rfl ?_
    refine Tr.callV (pc := 18) (as := [_]) d_X5_noBlock_18 s_5_197 ok_X5_block rfl rfl (Nat.le_of_ble_eq_true rfl) (Nat.le_of_ble_eq_true rfl) (by decide) (ty_6 hS.1.1) ?_
    refine Tr.imp (Tr.deep (by decide) (sp_X5_block_6_w1 hS.1 hE ((St.kp hS (by decide) (by decide) (by decide)).trans en_6_2) ((St.kp hS (by decide) (by decide) (by decide)).trans en_6_3) ((St.kp hS (by decide) (by decide) (by decide)).trans en_6_4) ((St.kp h12 (by decide) (by decide) (by decide)).trans ((St.kp h3 (by decide) (by decide) (by decide)).trans en_6_6)) a1 (by omega))) ?_
    rintro M18 _ ⟨h18, r18, rfl, lr18, ur18, x18_6_6⟩
    have hS := St.tr hS h18 (by decide) (by decide)
    refine Tr.sc [(0, r18)] rfl ?_
    refine Tr.istore_n (pc := 21) (i := 2) (ls2 := [(2, (0, r18)), (0, (2, 6)), (1, (0, a1))]) d_X5_noBlock_21 rfl (by decide) rfl ?_
    refine Tr.aload_n (pc := 22) (i := 0) d_X5_noBlock_22 rfl rfl ?_
    refine Tr.getf (pc := 23) d_X5_noBlock_23 f_5_32 (by decide) (by decide) (ty_6 hS.1.1) ?_
    refine Tr.tp 35 ((St.kp hS (by decide) (by decide) (by decide)).trans en_6_4) ?_
    refine Tr.getf (pc := 26) d_X5_noBlock_26 f_5_203 (by decide) (by decide) (ty_35 hS.1.1) ?_
    refine Tr.tp 40 (fx_35_5 hS.1.1) ?_
    refine Tr.iload_n (pc := 29) (i := 1) d_X5_noBlock_29 rfl rfl ?_
    refine Tr.iload_n (pc := 30) (i := 2) d_X5_noBlock_30 rfl rfl ?_
    refine Tr.iastS (pc := 31) (P := St Tru ws_X5_noBlock_6_w6 as_X5_noBlock_6_w6 M0) d_X5_noBlock_31 (ty_40 hS.1.1) (by omega) (by omega) (sa_40 hS (by decide) (by omega) trivial) (fun M31 hS w31 => ?_)
    refine Tr.iload_n (pc := 32) (i := 2) d_X5_noBlock_32 rfl rfl ?_
    refine Tr.bipush (pc := 33) d_X5_noBlock_33 rfl (by decide) ?_
    refine Tr.icmp_eq (pc := 35) (tgt := 42) d_X5_noBlock_35 rfl (fun c35 => ?_) (fun c35 => ?_)
    · refine Tr.iconst (pc := 42) d_X5_noBlock_42 (by decide) ?_
      exact Tr.zret (pc := 43) d_X5_noBlock_43 rfl (by omega) ⟨hS, _, rfl, by omega, by omega, fun hq => absurd hq (by omega)⟩
    · refine Tr.iconst (pc := 38) d_X5_noBlock_38 (by decide) ?_
      refine Tr.goto (pc := 39) (tgt := 43) d_X5_noBlock_39 rfl ?_
      exact Tr.zret (pc := 43) d_X5_noBlock_43 rfl (by omega) ⟨hS, _, rfl, by omega, by omega, fun _ => ((Wr.b w31 rfl).trans (x18_6_6 (by omega)))⟩
  · refine Tr.iconst (pc := 9) d_X5_noBlock_9 (by decide) ?_
    exact Tr.zret (pc := 10) d_X5_noBlock_10 rfl (by omega) ⟨hS, _, rfl, by omega, by omega, fun _ => ((St.kp h3 (by decide) (by decide) (by decide)).trans en_6_6)⟩
end
/-! 34.18 -/
section
def ws_X5_order_6_w1 : List (Int × Int) := [(6, 0), (6, 1), (6, 5), (6, 6), (35, 0), (35, 11)]
def as_X5_order_6_w1 : List Int := [36, 37, 38, 39, 40, 41, 42, 44, 45]
def q_X5_order_6_w1 (M0 M' : Mem) (r : Option PV) : Prop := St Tru ws_X5_order_6_w1 as_X5_order_6_w1 M0 M' ∧ ∃ v : Int, r = some (0, v) ∧ 0 ≤ v ∧ v ≤ 1 ∧ ((1 ≤ v ∧ v ≤ 1) → rd M' 6 6 = 1)
set_option maxRecDepth 100000 in
set_option maxHeartbeats 4000000 in
theorem sp_X5_order_6_w1 {l : Launch} {K : EC} {M0 : Mem} {xq : Int} (hI : In Tru M0) (hE : e_all K xq) (en_6_2 : rd M0 6 2 = 2) (en_6_3 : rd M0 6 3 = 27) (en_6_4 : rd M0 6 4 = 35) (en_6_6 : rd M0 6 6 = 1) (a1 : Int) (ha1 : 0 ≤ a1 ∧ a1 ≤ 59)  : Tr l K 38 mX5_order 0 [(0, (2, 6)), (1, (0, a1))] [] M0 (q_X5_order_6_w1 M0) := by
  have hS : St Tru ws_X5_order_6_w1 as_X5_order_6_w1 M0 M0 := St.rf hI
  refine Tr.aload_n (pc := 0) (i := 0) d_X5_order_0 rfl rfl ?_
  refine Tr.getf (pc := 1) d_X5_order_1 f_5_32 (by decide) (by decide) (ty_6 hS.1.1) ?_
  refine Tr.tp 35 ((St.kp hS (by decide) (by decide) (by decide)).trans en_6_4) ?_
  refine Tr.getf (pc := 4) d_X5_order_4 f_5_169 (by decide) (by decide) (ty_35 hS.1.1) ?_
  refine Tr.tp 36 (fx_35_1 hS.1.1) ?_
  refine Tr.iload_n (pc := 7) (i := 1) d_X5_order_7 rfl rfl ?_
  refine Tr.iald (pc := 8) d_X5_order_8 (ty_36 hS.1.1) (by omega) (by omega) ?_
  refine Tr.gen (P := fun v => (-2147483648) ≤ v ∧ v ≤ 2147483647) (ar_36 hS.1.2.1 _) (fun r8 er8 br8 => ?_)
  rcases (show (r8 < 5 ∨ 11 < r8) ∨ r8 = 5 ∨ r8 = 6 ∨ r8 = 7 ∨ r8 = 8 ∨ r8 = 9 ∨ r8 = 10 ∨ r8 = 11 by omega) with c9 | c9 | c9 | c9 | c9 | c9 | c9 | c9
  · refine Tr.tswOut (pc := 9) (tgt := 198) d_X5_order_9 c9 rfl ?_
    refine Tr.aload_n (pc := 198) (i := 0) d_X5_order_198 rfl rfl ?_
    refine Tr.callV (pc := 199) (as := []) d_X5_order_199 s_5_177 ok_X5_test rfl rfl (Nat.le_of_ble_eq_true rfl) (Nat.le_of_ble_eq_true rfl) (by decide) (ty_6 hS.1.1) ?_
    refine Tr.imp (Tr.deep (by decide) (sp_X5_test_6_w1 hS.1 hE ((St.kp hS (by decide) (by decide) (by decide)).trans en_6_2) ((St.kp hS (by decide) (by decide) (by decide)).trans en_6_3) ((St.kp hS (by decide) (by decide) (by decide)).trans en_6_4) en_6_6)) ?_
    rintro M199 _ ⟨h199, r199, rfl, lr199, ur199, x199_6_6⟩
    have hS := St.tr hS h199 (by decide) (by decide)
    refine Tr.sc [(0, r199)] rfl ?_
    refine Tr.if_eq (pc := 202) (tgt := 217) d_X5_order_202 rfl (fun c202 => ?_) (fun c202 => ?_)
    · refine Tr.iconst (pc := 217) d_X5_order_217 (by decide) ?_
      exact Tr.zret (pc := 218) d_X5_order_218 rfl (by omega) ⟨hS, _, rfl, by omega, by omega, fun hq => absurd hq (by omega)⟩
    · refine Tr.aload_n (pc := 205) (i := 0) d_X5_order_205 rfl rfl ?_
      refine Tr.iload_n (pc := 206) (i := 1) d_X5_order_206 rfl rfl ?_
      refine Tr.callV (pc := 207) (as := [_]) d_X5_order_207 s_5_180 ok_X5_yesBlock rfl rfl (Nat.le_of_ble_eq_true rfl) (Nat.le_of_ble_eq_true rfl) (by decide) (ty_6 hS.1.1) ?_
      refine Tr.imp (Tr.deep (by decide) (sp_X5_yesBlock_6_w1 hS.1 hE ((St.kp hS (by decide) (by decide) (by decide)).trans en_6_2) ((St.kp hS (by decide) (by decide) (by decide)).trans en_6_3) ((St.kp hS (by decide) (by decide) (by decide)).trans en_6_4) (x199_6_6 (by omega)) a1 (by omega))) ?_
      rintro M207 _ ⟨h207, r207, rfl, lr207, ur207, x207_6_6⟩
      have hS := St.tr hS h207 (by decide) (by decide)
      refine Tr.sc [(0, r207)] rfl ?_
      refine Tr.if_eq (pc := 210) (tgt := 217) d_X5_order_210 rfl (fun c210 => ?_) (fun c210 => ?_)
      · refine Tr.iconst (pc := 217) d_X5_order_217 (by decide) ?_
        exact Tr.zret (pc := 218) d_X5_order_218 rfl (by omega) ⟨hS, _, rfl, by omega, by omega, fun hq => absurd hq (by omega)⟩
      · refine Tr.iconst (pc := 213) d_X5_order_213 (by decide) ?_
        refine Tr.goto (pc := 214) (tgt := 218) d_X5_order_214 rfl ?_
        exact Tr.zret (pc := 218) d_X5_order_218 rfl (by omega) ⟨hS, _, rfl, by omega, by omega, fun _ => (x207_6_6 (by omega))⟩
  · refine Tr.tp 5 c9 ?_
    refine Tr.tswIn (pc := 9) (off := 43) (tgt := 52) d_X5_order_9 (by decide) (by decide) rfl rfl ?_
    refine Tr.aload_n (pc := 52) (i := 0) d_X5_order_52 rfl rfl ?_
    refine Tr.iload_n (pc := 53) (i := 1) d_X5_order_53 rfl rfl ?_
    refine Tr.iconst (pc := 54) d_X5_order_54 (by decide) ?_
    refine Tr.callV (pc := 55) (as := [_, _]) d_X5_order_55 s_5_170 ok_X5_about rfl rfl (Nat.le_of_ble_eq_true rfl) (Nat.le_of_ble_eq_true rfl) (by decide) (ty_6 hS.1.1) ?_
    refine Tr.imp (Tr.deep (by decide) (sp_X5_about_6_v2 hS.1 hE ((St.kp hS (by decide) (by decide) (by decide)).trans en_6_2) ((St.kp hS (by decide) (by decide) (by decide)).trans en_6_3) ((St.kp hS (by decide) (by decide) (by decide)).trans en_6_4) a1 (by omega))) ?_
    rintro M55 _ ⟨h55, r55, rfl, lr55, ur55⟩
    have hS := St.tr hS h55 (by decide) (by decide)
    refine Tr.sc [(0, r55)] rfl ?_
    refine Tr.if_eq (pc := 58) (tgt := 90) d_X5_order_58 rfl (fun c58 => ?_) (fun c58 => ?_)
    · refine Tr.iconst (pc := 90) d_X5_order_90 (by decide) ?_
      exact Tr.zret (pc := 91) d_X5_order_91 rfl (by omega) ⟨hS, _, rfl, by omega, by omega, fun hq => absurd hq (by omega)⟩
    · refine Tr.aload_n (pc := 61) (i := 0) d_X5_order_61 rfl rfl ?_
      refine Tr.bipush (pc := 62) d_X5_order_62 rfl (by decide) ?_
      refine Tr.callV (pc := 64) (as := [_]) d_X5_order_64 s_5_81 ok_X5_takeSign rfl rfl (Nat.le_of_ble_eq_true rfl) (Nat.le_of_ble_eq_true rfl) (by decide) (ty_6 hS.1.1) ?_
      refine Tr.imp (Tr.deep (by decide) (sp_X5_takeSign_6_w3 hS.1 ((St.kp hS (by decide) (by decide) (by decide)).trans en_6_2) 61 (by omega))) ?_
      rintro M64 _ ⟨h64, r64, rfl, lr64, ur64⟩
      have hS := St.tr hS h64 (by decide) (by decide)
      refine Tr.sc [(0, r64)] rfl ?_
      refine Tr.if_eq (pc := 67) (tgt := 90) d_X5_order_67 rfl (fun c67 => ?_) (fun c67 => ?_)
      · refine Tr.iconst (pc := 90) d_X5_order_90 (by decide) ?_
        exact Tr.zret (pc := 91) d_X5_order_91 rfl (by omega) ⟨hS, _, rfl, by omega, by omega, fun hq => absurd hq (by omega)⟩
      · refine Tr.aload_n (pc := 70) (i := 0) d_X5_order_70 rfl rfl ?_
        refine Tr.callV (pc := 71) (as := []) d_X5_order_71 s_5_174 ok_X5_sum rfl rfl (Nat.le_of_ble_eq_true rfl) (Nat.le_of_ble_eq_true rfl) (by decide) (ty_6 hS.1.1) ?_
        refine Tr.imp (Tr.deep (by decide) (sp_X5_sum_6_w1 hS.1 hE ((St.kp hS (by decide) (by decide) (by decide)).trans en_6_2) ((St.kp hS (by decide) (by decide) (by decide)).trans en_6_3) ((St.kp hS (by decide) (by decide) (by decide)).trans en_6_4) ((St.kp h64 (by decide) (by decide) (by decide)).trans ((St.kp h55 (by decide) (by decide) (by decide)).trans en_6_6)))) ?_
        rintro M71 _ ⟨h71, r71, rfl, lr71, ur71, x71_6_6⟩
        have hS := St.tr hS h71 (by decide) (by decide)
        refine Tr.sc [(0, r71)] rfl ?_
        refine Tr.if_eq (pc := 74) (tgt := 90) d_X5_order_74 rfl (fun c74 => ?_) (fun c74 => ?_)
        · refine Tr.iconst (pc := 90) d_X5_order_90 (by decide) ?_
          exact Tr.zret (pc := 91) d_X5_order_91 rfl (by omega) ⟨hS, _, rfl, by omega, by omega, fun hq => absurd hq (by omega)⟩
        · refine Tr.aload_n (pc := 77) (i := 0) d_X5_order_77 rfl rfl ?_
          refine Tr.bipush (pc := 78) d_X5_order_78 rfl (by decide) ?_
          refine Tr.callV (pc := 80) (as := [_]) d_X5_order_80 s_5_81 ok_X5_takeSign rfl rfl (Nat.le_of_ble_eq_true rfl) (Nat.le_of_ble_eq_true rfl) (by decide) (ty_6 hS.1.1) ?_
          refine Tr.imp (Tr.deep (by decide) (sp_X5_takeSign_6 hS.1 ((St.kp hS (by decide) (by decide) (by decide)).trans en_6_2) 59 (by omega))) ?_
          rintro M80 _ ⟨h80, r80, rfl, lr80, ur80⟩
          have hS := St.tr hS h80 (by decide) (by decide)
          refine Tr.sc [(0, r80)] rfl ?_
          refine Tr.if_eq (pc := 83) (tgt := 90) d_X5_order_83 rfl (fun c83 => ?_) (fun c83 => ?_)
          · refine Tr.iconst (pc := 90) d_X5_order_90 (by decide) ?_
            exact Tr.zret (pc := 91) d_X5_order_91 rfl (by omega) ⟨hS, _, rfl, by omega, by omega, fun hq => absurd hq (by omega)⟩
          · refine Tr.iconst (pc := 86) d_X5_order_86 (by decide) ?_
            refine Tr.goto (pc := 87) (tgt := 91) d_X5_order_87 rfl ?_
            exact Tr.zret (pc := 91) d_X5_order_91 rfl (by omega) ⟨hS, _, rfl, by omega, by omega, fun _ => ((St.kp h80 (by decide) (by decide) (by decide)).trans (x71_6_6 (by omega)))⟩
  · refine Tr.tp 6 c9 ?_
    refine Tr.tswIn (pc := 9) (off := 83) (tgt := 92) d_X5_order_9 (by decide) (by decide) rfl rfl ?_
    refine Tr.aload_n (pc := 92) (i := 0) d_X5_order_92 rfl rfl ?_
    refine Tr.iload_n (pc := 93) (i := 1) d_X5_order_93 rfl rfl ?_
    refine Tr.iconst (pc := 94) d_X5_order_94 (by decide) ?_
    refine Tr.callV (pc := 95) (as := [_, _]) d_X5_order_95 s_5_170 ok_X5_about rfl rfl (Nat.le_of_ble_eq_true rfl) (Nat.le_of_ble_eq_true rfl) (by decide) (ty_6 hS.1.1) ?_
    refine Tr.imp (Tr.deep (by decide) (sp_X5_about_6_v0 hS.1 hE ((St.kp hS (by decide) (by decide) (by decide)).trans en_6_2) ((St.kp hS (by decide) (by decide) (by decide)).trans en_6_3) ((St.kp hS (by decide) (by decide) (by decide)).trans en_6_4) a1 (by omega))) ?_
    rintro M95 _ ⟨h95, r95, rfl, lr95, ur95⟩
    have hS := St.tr hS h95 (by decide) (by decide)
    refine Tr.sc [(0, r95)] rfl ?_
    refine Tr.if_eq (pc := 98) (tgt := 121) d_X5_order_98 rfl (fun c98 => ?_) (fun c98 => ?_)
    · refine Tr.iconst (pc := 121) d_X5_order_121 (by decide) ?_
      exact Tr.zret (pc := 122) d_X5_order_122 rfl (by omega) ⟨hS, _, rfl, by omega, by omega, fun hq => absurd hq (by omega)⟩
    · refine Tr.aload_n (pc := 101) (i := 0) d_X5_order_101 rfl rfl ?_
      refine Tr.callV (pc := 102) (as := []) d_X5_order_102 s_5_174 ok_X5_sum rfl rfl (Nat.le_of_ble_eq_true rfl) (Nat.le_of_ble_eq_true rfl) (by decide) (ty_6 hS.1.1) ?_
      refine Tr.imp (Tr.deep (by decide) (sp_X5_sum_6_w1 hS.1 hE ((St.kp hS (by decide) (by decide) (by decide)).trans en_6_2) ((St.kp hS (by decide) (by decide) (by decide)).trans en_6_3) ((St.kp hS (by decide) (by decide) (by decide)).trans en_6_4) ((St.kp h95 (by decide) (by decide) (by decide)).trans en_6_6))) ?_
      rintro M102 _ ⟨h102, r102, rfl, lr102, ur102, x102_6_6⟩
      have hS := St.tr hS h102 (by decide) (by decide)
      refine Tr.sc [(0, r102)] rfl ?_
      refine Tr.if_eq (pc := 105) (tgt := 121) d_X5_order_105 rfl (fun c105 => ?_) (fun c105 => ?_)
      · refine Tr.iconst (pc := 121) d_X5_order_121 (by decide) ?_
        exact Tr.zret (pc := 122) d_X5_order_122 rfl (by omega) ⟨hS, _, rfl, by omega, by omega, fun hq => absurd hq (by omega)⟩
      · refine Tr.aload_n (pc := 108) (i := 0) d_X5_order_108 rfl rfl ?_
        refine Tr.bipush (pc := 109) d_X5_order_109 rfl (by decide) ?_
        refine Tr.callV (pc := 111) (as := [_]) d_X5_order_111 s_5_81 ok_X5_takeSign rfl rfl (Nat.le_of_ble_eq_true rfl) (Nat.le_of_ble_eq_true rfl) (by decide) (ty_6 hS.1.1) ?_
        refine Tr.imp (Tr.deep (by decide) (sp_X5_takeSign_6 hS.1 ((St.kp hS (by decide) (by decide) (by decide)).trans en_6_2) 59 (by omega))) ?_
        rintro M111 _ ⟨h111, r111, rfl, lr111, ur111⟩
        have hS := St.tr hS h111 (by decide) (by decide)
        refine Tr.sc [(0, r111)] rfl ?_
        refine Tr.if_eq (pc := 114) (tgt := 121) d_X5_order_114 rfl (fun c114 => ?_) (fun c114 => ?_)
        · refine Tr.iconst (pc := 121) d_X5_order_121 (by decide) ?_
          exact Tr.zret (pc := 122) d_X5_order_122 rfl (by omega) ⟨hS, _, rfl, by omega, by omega, fun hq => absurd hq (by omega)⟩
        · refine Tr.iconst (pc := 117) d_X5_order_117 (by decide) ?_
          refine Tr.goto (pc := 118) (tgt := 122) d_X5_order_118 rfl ?_
          exact Tr.zret (pc := 122) d_X5_order_122 rfl (by omega) ⟨hS, _, rfl, by omega, by omega, fun _ => ((St.kp h111 (by decide) (by decide) (by decide)).trans (x102_6_6 (by omega)))⟩
  · refine Tr.tp 7 c9 ?_
    refine Tr.tswIn (pc := 9) (off := 114) (tgt := 123) d_X5_order_9 (by decide) (by decide) rfl rfl ?_
    refine Tr.aload_n (pc := 123) (i := 0) d_X5_order_123 rfl rfl ?_
    refine Tr.iload_n (pc := 124) (i := 1) d_X5_order_124 rfl rfl ?_
    refine Tr.iconst (pc := 125) d_X5_order_125 (by decide) ?_
    refine Tr.callV (pc := 126) (as := [_, _]) d_X5_order_126 s_5_170 ok_X5_about rfl rfl (Nat.le_of_ble_eq_true rfl) (Nat.le_of_ble_eq_true rfl) (by decide) (ty_6 hS.1.1) ?_
    refine Tr.imp (Tr.deep (by decide) (sp_X5_about_6_v0 hS.1 hE ((St.kp hS (by decide) (by decide) (by decide)).trans en_6_2) ((St.kp hS (by decide) (by decide) (by decide)).trans en_6_3) ((St.kp hS (by decide) (by decide) (by decide)).trans en_6_4) a1 (by omega))) ?_
    rintro M126 _ ⟨h126, r126, rfl, lr126, ur126⟩
    have hS := St.tr hS h126 (by decide) (by decide)
    refine Tr.sc [(0, r126)] rfl ?_
    refine Tr.if_eq (pc := 129) (tgt := 145) d_X5_order_129 rfl (fun c129 => ?_) (fun c129 => ?_)
    · refine Tr.iconst (pc := 145) d_X5_order_145 (by decide) ?_
      exact Tr.zret (pc := 146) d_X5_order_146 rfl (by omega) ⟨hS, _, rfl, by omega, by omega, fun hq => absurd hq (by omega)⟩
    · refine Tr.aload_n (pc := 132) (i := 0) d_X5_order_132 rfl rfl ?_
      refine Tr.bipush (pc := 133) d_X5_order_133 rfl (by decide) ?_
      refine Tr.callV (pc := 135) (as := [_]) d_X5_order_135 s_5_81 ok_X5_takeSign rfl rfl (Nat.le_of_ble_eq_true rfl) (Nat.le_of_ble_eq_true rfl) (by decide) (ty_6 hS.1.1) ?_
      refine Tr.imp (Tr.deep (by decide) (sp_X5_takeSign_6 hS.1 ((St.kp hS (by decide) (by decide) (by decide)).trans en_6_2) 59 (by omega))) ?_
      rintro M135 _ ⟨h135, r135, rfl, lr135, ur135⟩
      have hS := St.tr hS h135 (by decide) (by decide)
      refine Tr.sc [(0, r135)] rfl ?_
      refine Tr.if_eq (pc := 138) (tgt := 145) d_X5_order_138 rfl (fun c138 => ?_) (fun c138 => ?_)
      · refine Tr.iconst (pc := 145) d_X5_order_145 (by decide) ?_
        exact Tr.zret (pc := 146) d_X5_order_146 rfl (by omega) ⟨hS, _, rfl, by omega, by omega, fun hq => absurd hq (by omega)⟩
      · refine Tr.iconst (pc := 141) d_X5_order_141 (by decide) ?_
        refine Tr.goto (pc := 142) (tgt := 146) d_X5_order_142 rfl ?_
        exact Tr.zret (pc := 146) d_X5_order_146 rfl (by omega) ⟨hS, _, rfl, by omega, by omega, fun _ => ((St.kp h135 (by decide) (by decide) (by decide)).trans ((St.kp h126 (by decide) (by decide) (by decide)).trans en_6_6))⟩
  · refine Tr.tp 8 c9 ?_
    refine Tr.tswIn (pc := 9) (off := 114) (tgt := 123) d_X5_order_9 (by decide) (by decide) rfl rfl ?_
    refine Tr.aload_n (pc := 123) (i := 0) d_X5_order_123 rfl rfl ?_
    refine Tr.iload_n (pc := 124) (i := 1) d_X5_order_124 rfl rfl ?_
    refine Tr.iconst (pc := 125) d_X5_order_125 (by decide) ?_
    refine Tr.callV (pc := 126) (as := [_, _]) d_X5_order_126 s_5_170 ok_X5_about rfl rfl (Nat.le_of_ble_eq_true rfl) (Nat.le_of_ble_eq_true rfl) (by decide) (ty_6 hS.1.1) ?_
    refine Tr.imp (Tr.deep (by decide) (sp_X5_about_6_v0 hS.1 hE ((St.kp hS (by decide) (by decide) (by decide)).trans en_6_2) ((St.kp hS (by decide) (by decide) (by decide)).trans en_6_3) ((St.kp hS (by decide) (by decide) (by decide)).trans en_6_4) a1 (by omega))) ?_
    rintro M126 _ ⟨h126, r126, rfl, lr126, ur126⟩
    have hS := St.tr hS h126 (by decide) (by decide)
    refine Tr.sc [(0, r126)] rfl ?_
    refine Tr.if_eq (pc := 129) (tgt := 145) d_X5_order_129 rfl (fun c129 => ?_) (fun c129 => ?_)
    · refine Tr.iconst (pc := 145) d_X5_order_145 (by decide) ?_
      exact Tr.zret (pc := 146) d_X5_order_146 rfl (by omega) ⟨hS, _, rfl, by omega, by omega, fun hq => absurd hq (by omega)⟩
    · refine Tr.aload_n (pc := 132) (i := 0) d_X5_order_132 rfl rfl ?_
      refine Tr.bipush (pc := 133) d_X5_order_133 rfl (by decide) ?_
      refine Tr.callV (pc := 135) (as := [_]) d_X5_order_135 s_5_81 ok_X5_takeSign rfl rfl (Nat.le_of_ble_eq_true rfl) (Nat.le_of_ble_eq_true rfl) (by decide) (ty_6 hS.1.1) ?_
      refine Tr.imp (Tr.deep (by decide) (sp_X5_takeSign_6 hS.1 ((St.kp hS (by decide) (by decide) (by decide)).trans en_6_2) 59 (by omega))) ?_
      rintro M135 _ ⟨h135, r135, rfl, lr135, ur135⟩
      have hS := St.tr hS h135 (by decide) (by decide)
      refine Tr.sc [(0, r135)] rfl ?_
      refine Tr.if_eq (pc := 138) (tgt := 145) d_X5_order_138 rfl (fun c138 => ?_) (fun c138 => ?_)
      · refine Tr.iconst (pc := 145) d_X5_order_145 (by decide) ?_
        exact Tr.zret (pc := 146) d_X5_order_146 rfl (by omega) ⟨hS, _, rfl, by omega, by omega, fun hq => absurd hq (by omega)⟩
      · refine Tr.iconst (pc := 141) d_X5_order_141 (by decide) ?_
        refine Tr.goto (pc := 142) (tgt := 146) d_X5_order_142 rfl ?_
        exact Tr.zret (pc := 146) d_X5_order_146 rfl (by omega) ⟨hS, _, rfl, by omega, by omega, fun _ => ((St.kp h135 (by decide) (by decide) (by decide)).trans ((St.kp h126 (by decide) (by decide) (by decide)).trans en_6_6))⟩
  · refine Tr.tp 9 c9 ?_
    refine Tr.tswIn (pc := 9) (off := 138) (tgt := 147) d_X5_order_9 (by decide) (by decide) rfl rfl ?_
    refine Tr.aload_n (pc := 147) (i := 0) d_X5_order_147 rfl rfl ?_
    refine Tr.callV (pc := 148) (as := []) d_X5_order_148 s_5_174 ok_X5_sum rfl rfl (Nat.le_of_ble_eq_true rfl) (Nat.le_of_ble_eq_true rfl) (by decide) (ty_6 hS.1.1) ?_
    refine Tr.imp (Tr.deep (by decide) (sp_X5_sum_6_w1 hS.1 hE ((St.kp hS (by decide) (by decide) (by decide)).trans en_6_2) ((St.kp hS (by decide) (by decide) (by decide)).trans en_6_3) ((St.kp hS (by decide) (by decide) (by decide)).trans en_6_4) en_6_6)) ?_
    rintro M148 _ ⟨h148, r148, rfl, lr148, ur148, x148_6_6⟩
    have hS := St.tr hS h148 (by decide) (by decide)
    refine Tr.sc [(0, r148)] rfl ?_
    refine Tr.if_eq (pc := 151) (tgt := 167) d_X5_order_151 rfl (fun c151 => ?_) (fun c151 => ?_)
    · refine Tr.iconst (pc := 167) d_X5_order_167 (by decide) ?_
      exact Tr.zret (pc := 168) d_X5_order_168 rfl (by omega) ⟨hS, _, rfl, by omega, by omega, fun hq => absurd hq (by omega)⟩
    · refine Tr.aload_n (pc := 154) (i := 0) d_X5_order_154 rfl rfl ?_
      refine Tr.bipush (pc := 155) d_X5_order_155 rfl (by decide) ?_
      refine Tr.callV (pc := 157) (as := [_]) d_X5_order_157 s_5_81 ok_X5_takeSign rfl rfl (Nat.le_of_ble_eq_true rfl) (Nat.le_of_ble_eq_true rfl) (by decide) (ty_6 hS.1.1) ?_
      refine Tr.imp (Tr.deep (by decide) (sp_X5_takeSign_6 hS.1 ((St.kp hS (by decide) (by decide) (by decide)).trans en_6_2) 59 (by omega))) ?_
      rintro M157 _ ⟨h157, r157, rfl, lr157, ur157⟩
      have hS := St.tr hS h157 (by decide) (by decide)
      refine Tr.sc [(0, r157)] rfl ?_
      refine Tr.if_eq (pc := 160) (tgt := 167) d_X5_order_160 rfl (fun c160 => ?_) (fun c160 => ?_)
      · refine Tr.iconst (pc := 167) d_X5_order_167 (by decide) ?_
        exact Tr.zret (pc := 168) d_X5_order_168 rfl (by omega) ⟨hS, _, rfl, by omega, by omega, fun hq => absurd hq (by omega)⟩
      · refine Tr.iconst (pc := 163) d_X5_order_163 (by decide) ?_
        refine Tr.goto (pc := 164) (tgt := 168) d_X5_order_164 rfl ?_
        exact Tr.zret (pc := 168) d_X5_order_168 rfl (by omega) ⟨hS, _, rfl, by omega, by omega, fun _ => ((St.kp h157 (by decide) (by decide) (by decide)).trans (x148_6_6 (by omega)))⟩
  · refine Tr.tp 10 c9 ?_
    refine Tr.tswIn (pc := 9) (off := 138) (tgt := 147) d_X5_order_9 (by decide) (by decide) rfl rfl ?_
    refine Tr.aload_n (pc := 147) (i := 0) d_X5_order_147 rfl rfl ?_
    refine Tr.callV (pc := 148) (as := []) d_X5_order_148 s_5_174 ok_X5_sum rfl rfl (Nat.le_of_ble_eq_true rfl) (Nat.le_of_ble_eq_true rfl) (by decide) (ty_6 hS.1.1) ?_
    refine Tr.imp (Tr.deep (by decide) (sp_X5_sum_6_w1 hS.1 hE ((St.kp hS (by decide) (by decide) (by decide)).trans en_6_2) ((St.kp hS (by decide) (by decide) (by decide)).trans en_6_3) ((St.kp hS (by decide) (by decide) (by decide)).trans en_6_4) en_6_6)) ?_
    rintro M148 _ ⟨h148, r148, rfl, lr148, ur148, x148_6_6⟩
    have hS := St.tr hS h148 (by decide) (by decide)
    refine Tr.sc [(0, r148)] rfl ?_
    refine Tr.if_eq (pc := 151) (tgt := 167) d_X5_order_151 rfl (fun c151 => ?_) (fun c151 => ?_)
    · refine Tr.iconst (pc := 167) d_X5_order_167 (by decide) ?_
      exact Tr.zret (pc := 168) d_X5_order_168 rfl (by omega) ⟨hS, _, rfl, by omega, by omega, fun hq => absurd hq (by omega)⟩
    · refine Tr.aload_n (pc := 154) (i := 0) d_X5_order_154 rfl rfl ?_
      refine Tr.bipush (pc := 155) d_X5_order_155 rfl (by decide) ?_
      refine Tr.callV (pc := 157) (as := [_]) d_X5_order_157 s_5_81 ok_X5_takeSign rfl rfl (Nat.le_of_ble_eq_true rfl) (Nat.le_of_ble_eq_true rfl) (by decide) (ty_6 hS.1.1) ?_
      refine Tr.imp (Tr.deep (by decide) (sp_X5_takeSign_6 hS.1 ((St.kp hS (by decide) (by decide) (by decide)).trans en_6_2) 59 (by omega))) ?_
      rintro M157 _ ⟨h157, r157, rfl, lr157, ur157⟩
      have hS := St.tr hS h157 (by decide) (by decide)
      refine Tr.sc [(0, r157)] rfl ?_
      refine Tr.if_eq (pc := 160) (tgt := 167) d_X5_order_160 rfl (fun c160 => ?_) (fun c160 => ?_)
      · refine Tr.iconst (pc := 167) d_X5_order_167 (by decide) ?_
        exact Tr.zret (pc := 168) d_X5_order_168 rfl (by omega) ⟨hS, _, rfl, by omega, by omega, fun hq => absurd hq (by omega)⟩
      · refine Tr.iconst (pc := 163) d_X5_order_163 (by decide) ?_
        refine Tr.goto (pc := 164) (tgt := 168) d_X5_order_164 rfl ?_
        exact Tr.zret (pc := 168) d_X5_order_168 rfl (by omega) ⟨hS, _, rfl, by omega, by omega, fun _ => ((St.kp h157 (by decide) (by decide) (by decide)).trans (x148_6_6 (by omega)))⟩
  · refine Tr.tp 11 c9 ?_
    refine Tr.tswIn (pc := 9) (off := 160) (tgt := 169) d_X5_order_9 (by decide) (by decide) rfl rfl ?_
    refine Tr.aload_n (pc := 169) (i := 0) d_X5_order_169 rfl rfl ?_
    refine Tr.callV (pc := 170) (as := []) d_X5_order_170 s_5_177 ok_X5_test rfl rfl (Nat.le_of_ble_eq_true rfl) (Nat.le_of_ble_eq_true rfl) (by decide) (ty_6 hS.1.1) ?_
    refine Tr.imp (Tr.deep (by decide) (sp_X5_test_6_w1 hS.1 hE ((St.kp hS (by decide) (by decide) (by decide)).trans en_6_2) ((St.kp hS (by decide) (by decide) (by decide)).trans en_6_3) ((St.kp hS (by decide) (by decide) (by decide)).trans en_6_4) en_6_6)) ?_
    rintro M170 _ ⟨h170, r170, rfl, lr170, ur170, x170_6_6⟩
    have hS := St.tr hS h170 (by decide) (by decide)
    refine Tr.sc [(0, r170)] rfl ?_
    refine Tr.if_eq (pc := 173) (tgt := 196) d_X5_order_173 rfl (fun c173 => ?_) (fun c173 => ?_)
    · refine Tr.iconst (pc := 196) d_X5_order_196 (by decide) ?_
      exact Tr.zret (pc := 197) d_X5_order_197 rfl (by omega) ⟨hS, _, rfl, by omega, by omega, fun hq => absurd hq (by omega)⟩
    · refine Tr.aload_n (pc := 176) (i := 0) d_X5_order_176 rfl rfl ?_
      refine Tr.iload_n (pc := 177) (i := 1) d_X5_order_177 rfl rfl ?_
      refine Tr.callV (pc := 178) (as := [_]) d_X5_order_178 s_5_180 ok_X5_yesBlock rfl rfl (Nat.le_of_ble_eq_true rfl) (Nat.le_of_ble_eq_true rfl) (by decide) (ty_6 hS.1.1) ?_
      refine Tr.imp (Tr.deep (by decide) (sp_X5_yesBlock_6_w1 hS.1 hE ((St.kp hS (by decide) (by decide) (by decide)).trans en_6_2) ((St.kp hS (by decide) (by decide) (by decide)).trans en_6_3) ((St.kp hS (by decide) (by decide) (by decide)).trans en_6_4) (x170_6_6 (by omega)) a1 (by omega))) ?_
      rintro M178 _ ⟨h178, r178, rfl, lr178, ur178, x178_6_6⟩
      have hS := St.tr hS h178 (by decide) (by decide)
      refine Tr.sc [(0, r178)] rfl ?_
      refine Tr.if_eq (pc := 181) (tgt := 196) d_X5_order_181 rfl (fun c181 => ?_) (fun c181 => ?_)
      · refine Tr.iconst (pc := 196) d_X5_order_196 (by decide) ?_
        exact Tr.zret (pc := 197) d_X5_order_197 rfl (by omega) ⟨hS, _, rfl, by omega, by omega, fun hq => absurd hq (by omega)⟩
      · refine Tr.aload_n (pc := 184) (i := 0) d_X5_order_184 rfl rfl ?_
        refine Tr.iload_n (pc := 185) (i := 1) d_X5_order_185 rfl rfl ?_
        refine Tr.callV (pc := 186) (as := [_]) d_X5_order_186 s_5_183 ok_X5_noBlock rfl rfl (Nat.le_of_ble_eq_true rfl) (Nat.le_of_ble_eq_true rfl) (by decide) (ty_6 hS.1.1) ?_
        refine Tr.imp (Tr.deep (by decide) (sp_X5_noBlock_6_w6 hS.1 hE ((St.kp hS (by decide) (by decide) (by decide)).trans en_6_2) ((St.kp hS (by decide) (by decide) (by decide)).trans en_6_3) ((St.kp hS (by decide) (by decide) (by decide)).trans en_6_4) (x178_6_6 (by omega)) a1 (by omega))) ?_
        rintro M186 _ ⟨h186, r186, rfl, lr186, ur186, x186_6_6⟩
        have hS := St.tr hS h186 (by decide) (by decide)
        refine Tr.sc [(0, r186)] rfl ?_
        refine Tr.if_eq (pc := 189) (tgt := 196) d_X5_order_189 rfl (fun c189 => ?_) (fun c189 => ?_)
        · refine Tr.iconst (pc := 196) d_X5_order_196 (by decide) ?_
          exact Tr.zret (pc := 197) d_X5_order_197 rfl (by omega) ⟨hS, _, rfl, by omega, by omega, fun hq => absurd hq (by omega)⟩
        · refine Tr.iconst (pc := 192) d_X5_order_192 (by decide) ?_
          refine Tr.goto (pc := 193) (tgt := 197) d_X5_order_193 rfl ?_
          exact Tr.zret (pc := 197) d_X5_order_197 rfl (by omega) ⟨hS, _, rfl, by omega, by omega, fun _ => (x186_6_6 (by omega))⟩

def ws_X5_orders_6_w1 : List (Int × Int) := [(6, 0), (6, 1), (6, 5), (6, 6), (35, 0), (35, 11)]
def as_X5_orders_6_w1 : List Int := [36, 37, 38, 39, 40, 41, 42, 44, 45]
def q_X5_orders_6_w1 (M0 M' : Mem) (r : Option PV) : Prop := St Tru ws_X5_orders_6_w1 as_X5_orders_6_w1 M0 M' ∧ ∃ v : Int, r = some (0, v) ∧ (-2) ≤ v ∧ v ≤ 59 ∧ (((-1) ≤ v ∧ v ≤ 1000000) → rd M' 6 6 = 1)
set_option maxRecDepth 100000 in
set_option maxHeartbeats 4000000 in
theorem sp_X5_orders_6_w1 {l : Launch} {K : EC} {M0 : Mem} {xq : Int} (hI : In Tru M0) (hE : e_all K xq) (en_6_2 : rd M0 6 2 = 2) (en_6_3 : rd M0 6 3 = 27) (en_6_4 : rd M0 6 4 = 35) (en_6_6 : rd M0 6 6 = 1) (a1 : Int) (ha1 : 0 ≤ a1 ∧ a1 ≤ 59)  : Tr l K 39 mX5_orders 0 [(0, (2, 6)), (1, (0, a1))] [] M0 (q_X5_orders_6_w1 M0) := by
  have hS : St Tru ws_X5_orders_6_w1 as_X5_orders_6_w1 M0 M0 := St.rf hI
  refine Tr.iconst (pc := 0) d_X5_orders_0 (by decide) ?_
  refine Tr.istore_n (pc := 1) (i := 2) (ls2 := [(2, (0, (-1))), (0, (2, 6)), (1, (0, a1))]) d_X5_orders_1 rfl (by decide) rfl ?_
  refine Tr.iconst (pc := 2) d_X5_orders_2 (by decide) ?_
  refine Tr.istore_n (pc := 3) (i := 3) (ls2 := [(3, (0, (-1))), (2, (0, (-1))), (0, (2, 6)), (1, (0, a1))]) d_X5_orders_3 rfl (by decide) rfl ?_
  refine Tr.iconst (pc := 4) d_X5_orders_4 (by decide) ?_
  refine Tr.istore (pc := 5) (i := 4) (ls2 := [(4, (0, 0)), (3, (0, (-1))), (2, (0, (-1))), (0, (2, 6)), (1, (0, a1))]) d_X5_orders_5 (by decide) rfl ?_
  have J7 : ∀ (n7 : Nat) (M : Mem) (p7_2 p7_3 p7_4 : Int), St Tru ws_X5_orders_6_w1 as_X5_orders_6_w1 M0 M → ((-1) ≤ p7_2 ∧ p7_2 ≤ 59) → ((-1) ≤ p7_3 ∧ p7_3 ≤ 59) → (0 ≤ p7_4 ∧ p7_4 ≤ 61) → rd M 6 6 = 1 → (61 - p7_4).toNat < n7 → Tr l K 39 mX5_orders 7 [(0, (2, 6)), (1, (0, a1)), (2, (0, p7_2)), (3, (0, p7_3)), (4, (0, p7_4))] [] M (q_X5_orders_6_w1 M0) := by
    intro n7
    induction n7 with
    | zero => intro M p7_2 p7_3 p7_4 hS bp7_2 bp7_3 bp7_4 k7_6_6 hm7; exact absurd hm7 (Nat.not_lt_zero _)
    | succ n7 J7 =>
      intro M p7_2 p7_3 p7_4 hS bp7_2 bp7_3 bp7_4 k7_6_6 hm7
      refine Tr.iload (pc := 7) (i := 4) d_X5_orders_7 rfl ?_
      refine Tr.bipush (pc := 9) d_X5_orders_9 rfl (by decide) ?_
      refine Tr.icmp_gt (pc := 11) (tgt := 111) d_X5_orders_11 rfl (fun c11 => ?_) (fun c11 => ?_)
      · refine Tr.iload_n (pc := 111) (i := 2) d_X5_orders_111 rfl rfl ?_
        exact Tr.iret (pc := 112) d_X5_orders_112 rfl ⟨hS, _, rfl, by omega, by omega, fun _ => k7_6_6⟩
      · refine Tr.aload_n (pc := 14) (i := 0) d_X5_orders_14 rfl rfl ?_
        refine Tr.callV (pc := 15) (as := []) d_X5_orders_15 s_5_154 ok_X5_isOrder rfl rfl (Nat.le_of_ble_eq_true rfl) (Nat.le_of_ble_eq_true rfl) (by decide) (ty_6 hS.1.1) ?_
        refine Tr.imp (Tr.deep (by decide) (sp_X5_isOrder_6 hS.1 ((St.kp hS (by decide) (by decide) (by decide)).trans en_6_2))) ?_
        rintro M15 _ ⟨h15, r15, rfl, lr15, ur15⟩
        have hS := St.tr hS h15 (by decide) (by decide)
        refine Tr.sc [(0, r15)] rfl ?_
        refine Tr.if_eq (pc := 18) (tgt := 111) d_X5_orders_18 rfl (fun c18 => ?_) (fun c18 => ?_)
        · refine Tr.iload_n (pc := 111) (i := 2) d_X5_orders_111 rfl rfl ?_
          exact Tr.iret (pc := 112) d_X5_orders_112 rfl ⟨hS, _, rfl, by omega, by omega, fun _ => ((St.kp h15 (by decide) (by decide) (by decide)).trans k7_6_6)⟩
        · refine Tr.aload_n (pc := 21) (i := 0) d_X5_orders_21 rfl rfl ?_
          refine Tr.getf (pc := 22) d_X5_orders_22 f_5_32 (by decide) (by decide) (ty_6 hS.1.1) ?_
          refine Tr.tp 35 ((St.kp hS (by decide) (by decide) (by decide)).trans en_6_4) ?_
          refine Tr.getf (pc := 25) d_X5_orders_25 f_5_157 (by decide) (by decide) (ty_35 hS.1.1) ?_
          refine Tr.gen (P := fun v => 0 ≤ v ∧ v ≤ 60) (ir_35_0 hS.1.2.1) (fun r25 er25 br25 => ?_)
          refine Tr.bipush (pc := 28) d_X5_orders_28 rfl (by decide) ?_
          refine Tr.icmp_lt (pc := 30) (tgt := 42) d_X5_orders_30 rfl (fun c30 => ?_) (fun c30 => ?_)
          · refine Tr.aload_n (pc := 42) (i := 0) d_X5_orders_42 rfl rfl ?_
            refine Tr.getf (pc := 43) d_X5_orders_43 f_5_32 (by decide) (by decide) (ty_6 hS.1.1) ?_
            refine Tr.tp 35 ((St.kp hS (by decide) (by decide) (by decide)).trans en_6_4) ?_
            refine Tr.aload_n (pc := 46) (i := 0) d_X5_orders_46 rfl rfl ?_
            refine Tr.getf (pc := 47) d_X5_orders_47 f_5_18 (by decide) (by decide) (ty_6 hS.1.1) ?_
            refine Tr.tp 2 ((St.kp hS (by decide) (by decide) (by decide)).trans en_6_2) ?_
            refine Tr.getf (pc := 50) d_X5_orders_50 f_5_68 (by decide) (by decide) (ty_2 hS.1.1) ?_
            refine Tr.tp 5 (fx_2_2 hS.1.1) ?_
            refine Tr.aload_n (pc := 53) (i := 0) d_X5_orders_53 rfl rfl ?_
            refine Tr.getf (pc := 54) d_X5_orders_54 f_5_36 (by decide) (by decide) (ty_6 hS.1.1) ?_
            refine Tr.gen (P := fun v => 0 ≤ v ∧ v ≤ 900) (ir_6_5 hS.1.2.1) (fun r54 er54 br54 => ?_)
            refine Tr.iald (pc := 57) d_X5_orders_57 (ty_5 hS.1.1) (by omega) (by omega) ?_
            refine Tr.gen (P := fun v => (-2147483648) ≤ v ∧ v ≤ 2147483647) (ar_5 hS.1.2.1 _) (fun r57 er57 br57 => ?_)
            refine Tr.iload_n (pc := 58) (i := 1) d_X5_orders_58 rfl rfl ?_
            refine Tr.callV (pc := 59) (as := [_, _]) d_X5_orders_59 s_5_160 ok_X4_open rfl rfl (Nat.le_of_ble_eq_true rfl) (Nat.le_of_ble_eq_true rfl) (by decide) (ty_35 hS.1.1) ?_
            refine Tr.imp (Tr.deep (by decide) (sp_X4_open_35_w1 hS.1 r57 (by omega) a1 (by omega) (by have h9 := er25; omega))) ?_
            rintro M59 _ ⟨h59, r59, rfl, lr59, ur59⟩
            have hS := St.tr hS h59 (by decide) (by decide)
            refine Tr.sc [(0, r59)] rfl ?_
            refine Tr.istore (pc := 62) (i := 5) (ls2 := [(5, (0, r59)), (0, (2, 6)), (1, (0, a1)), (2, (0, p7_2)), (3, (0, p7_3)), (4, (0, p7_4))]) d_X5_orders_62 (by decide) rfl ?_
            refine Tr.iload_n (pc := 64) (i := 3) d_X5_orders_64 rfl rfl ?_
            have J85 : ∀ (M : Mem) (p85_2 : Int), St Tru ws_X5_orders_6_w1 as_X5_orders_6_w1 M0 M → ((-1) ≤ p85_2 ∧ p85_2 ≤ 59) → rd M 5 r54 = r57 → rd M 6 5 = r54 → rd M 6 6 = 1 → Tr l K 39 mX5_orders 85 [(0, (2, 6)), (1, (0, a1)), (2, (0, p85_2)), (4, (0, p7_4)), (5, (0, r59))] [] M (q_X5_orders_6_w1 M0) := by
              intro M p85_2 hS bp85_2 k85_5_r5410 k85_6_5 k85_6_6
              refine Tr.iload (pc := 85) (i := 5) d_X5_orders_85 rfl ?_
              refine Tr.istore_n (pc := 87) (i := 3) (ls2 := [(3, (0, r59)), (0, (2, 6)), (1, (0, a1)), (2, (0, p85_2)), (4, (0, p7_4)), (5, (0, r59))]) d_X5_orders_87 rfl (by decide) rfl ?_
              refine Tr.aload_n (pc := 88) (i := 0) d_X5_orders_88 rfl rfl ?_
              refine Tr.callV (pc := 89) (as := []) d_X5_orders_89 s_5_74 ok_X5_goOn rfl rfl (Nat.le_of_ble_eq_true rfl) (Nat.le_of_ble_eq_true rfl) (by decide) (ty_6 hS.1.1) ?_
              refine Tr.imp (Tr.deep (by decide) (sp_X5_goOn_6 hS.1 )) ?_
              rintro M89 _ ⟨h89, r89, rfl, lr89, ur89⟩
              have hS := St.tr hS h89 (by decide) (by decide)
              refine Tr.sc [(0, r89)] rfl ?_
              refine Tr.pop (pc := 92) d_X5_orders_92 ne01 ?_
              refine Tr.aload_n (pc := 93) (i := 0) d_X5_orders_93 rfl rfl ?_
              refine Tr.iload (pc := 94) (i := 5) d_X5_orders_94 rfl ?_
              refine Tr.callV (pc := 96) (as := [_]) d_X5_orders_96 s_5_166 ok_X5_order rfl rfl (Nat.le_of_ble_eq_true rfl) (Nat.le_of_ble_eq_true rfl) (by decide) (ty_6 hS.1.1) ?_
              refine Tr.imp (Tr.deep (by decide) (sp_X5_order_6_w1 hS.1 hE ((St.kp hS (by decide) (by decide) (by decide)).trans en_6_2) ((St.kp hS (by decide) (by decide) (by decide)).trans en_6_3) ((St.kp hS (by decide) (by decide) (by decide)).trans en_6_4) ((St.kp h89 (by decide) (by decide) (by decide)).trans k85_6_6) r59 (by omega))) ?_
              rintro M96 _ ⟨h96, r96, rfl, lr96, ur96, x96_6_6⟩
              have hS := St.tr hS h96 (by decide) (by decide)
              refine Tr.sc [(0, r96)] rfl ?_
              refine Tr.if_ne (pc := 99) (tgt := 105) d_X5_orders_99 rfl (fun c99 => ?_) (fun c99 => ?_)
              · refine Tr.iincV (pc := 105) (n2 := (p7_4 + 1)) (ls2 := [(4, (0, (p7_4 + 1))), (3, (0, r59)), (0, (2, 6)), (1, (0, a1)), (2, (0, p85_2)), (5, (0, r59))]) d_X5_orders_105 rfl (by decide) ((w32_id (by omega)).trans (by omega)) rfl ?_
                refine Tr.goto (pc := 108) (tgt := 7) d_X5_orders_108 rfl ?_
                refine Tr.pick [2, 3, 4, 1, 0] (ls2 := [(0, (2, 6)), (1, (0, a1)), (2, (0, p85_2)), (3, (0, r59)), (4, (0, (p7_4 + 1)))]) rfl ?_
                exact J7 _ _ _ _ hS (by omega) (by omega) (by omega) (x96_6_6 (by omega)) (by omega)
              · refine Tr.bipush (pc := 102) d_X5_orders_102 rfl (by decide) ?_
                exact Tr.iret (pc := 104) d_X5_orders_104 rfl ⟨hS, _, rfl, by omega, by omega, fun hq => absurd hq (by omega)⟩
            refine Tr.if_ge (pc := 65) (tgt := 74) d_X5_orders_65 rfl (fun c65 => ?_) (fun c65 => ?_)
            · refine Tr.aload_n (pc := 74) (i := 0) d_X5_orders_74 rfl rfl ?_
              refine Tr.getf (pc := 75) d_X5_orders_75 f_5_32 (by decide) (by decide) (ty_6 hS.1.1) ?_
              refine Tr.tp 35 ((St.kp hS (by decide) (by decide) (by decide)).trans en_6_4) ?_
              refine Tr.getf (pc := 78) d_X5_orders_78 f_5_163 (by decide) (by decide) (ty_35 hS.1.1) ?_
              refine Tr.tp 41 (fx_35_6 hS.1.1) ?_
              refine Tr.iload_n (pc := 81) (i := 3) d_X5_orders_81 rfl rfl ?_
              refine Tr.iload (pc := 82) (i := 5) d_X5_orders_82 rfl ?_
              refine Tr.iastS (pc := 84) (P := St Tru ws_X5_orders_6_w1 as_X5_orders_6_w1 M0) d_X5_orders_84 (ty_41 hS.1.1) (by omega) (by omega) (sa_41 hS (by decide) (by omega) trivial) (fun M84 hS w84 => ?_)
              refine Tr.pick [1, 2, 3, 5, 0] (ls2 := [(0, (2, 6)), (1, (0, a1)), (2, (0, p7_2)), (4, (0, p7_4)), (5, (0, r59))]) rfl ?_
              exact J85 _ _ hS (by omega) ((Wr.b w84 rfl).trans ((St.ka h59 (by decide) (by decide) (by decide)).trans er57)) ((Wr.b w84 rfl).trans ((St.kp h59 (by decide) (by decide) (by decide)).trans er54)) ((Wr.b w84 rfl).trans ((St.kp h59 (by decide) (by decide) (by decide)).trans ((St.kp h15 (by decide) (by decide) (by decide)).trans k7_6_6)))
            · refine Tr.iload (pc := 68) (i := 5) d_X5_orders_68 rfl ?_
              refine Tr.istore_n (pc := 70) (i := 2) (ls2 := [(2, (0, r59)), (5, (0, r59)), (0, (2, 6)), (1, (0, a1)), (3, (0, p7_3)), (4, (0, p7_4))]) d_X5_orders_70 rfl (by decide) rfl ?_
              refine Tr.goto (pc := 71) (tgt := 85) d_X5_orders_71 rfl ?_
              refine Tr.pick [2, 3, 0, 5, 1] (ls2 := [(0, (2, 6)), (1, (0, a1)), (2, (0, r59)), (4, (0, p7_4)), (5, (0, r59))]) rfl ?_
              exact J85 _ _ hS (by omega) ((St.ka h59 (by decide) (by decide) (by decide)).trans er57) ((St.kp h59 (by decide) (by decide) (by decide)).trans er54) ((St.kp h59 (by decide) (by decide) (by decide)).trans ((St.kp h15 (by decide) (by decide) (by decide)).trans k7_6_6))
          · refine Tr.aload_n (pc := 33) (i := 0) d_X5_orders_33 rfl rfl ?_
            refine Tr.iconst (pc := 34) d_X5_orders_34 (by decide) ?_
            refine Tr.callV (pc := 35) (as := [_]) d_X5_orders_35 s_5_56 ok_X5_refuse rfl rfl (Nat.le_of_ble_eq_true rfl) (Nat.le_of_ble_eq_true rfl) (by decide) (ty_6 hS.1.1) ?_
            refine Tr.imp (Tr.deep (by decide) (sp_X5_refuse_6_w2 hS.1 ((St.kp hS (by decide) (by decide) (by decide)).trans en_6_2) 5 (by omega))) ?_
            rintro M35 _ ⟨h35, r35, rfl, lr35, ur35⟩
            have hS := St.tr hS h35 (by decide) (by decide)
            refine Tr.sc [(0, r35)] rfl ?_
            refine Tr.pop (pc := 38) d_X5_orders_38 ne01 ?_
            refine Tr.bipush (pc := 39) d_X5_orders_39 rfl (by decide) ?_
            exact Tr.iret (pc := 41) d_X5_orders_41 rfl ⟨hS, _, rfl, by omega, by omega, fun hq => absurd hq (by omega)⟩
  refine Tr.pick [3, 4, 2, 1, 0] (ls2 := [(0, (2, 6)), (1, (0, a1)), (2, (0, (-1))), (3, (0, (-1))), (4, (0, 0))]) rfl ?_
  exact J7 _ _ _ _ _ hS (by omega) (by omega) (by omega) en_6_6 (Nat.lt_succ_self _)

def ws_X5_block_6 : List (Int × Int) := [(6, 0), (6, 1), (6, 5), (6, 6), (35, 0), (35, 11)]
def as_X5_block_6 : List Int := [36, 37, 38, 39, 40, 41, 42, 44, 45]
def q_X5_block_6 (M0 M' : Mem) (r : Option PV) : Prop := St Tru ws_X5_block_6 as_X5_block_6 M0 M' ∧ ∃ v : Int, r = some (0, v) ∧ (-2) ≤ v ∧ v ≤ 59 ∧ (((-1) ≤ v ∧ v ≤ 1000000) → rd M' 6 6 = 0)
set_option maxRecDepth 100000 in
set_option maxHeartbeats 4000000 in
theorem sp_X5_block_6 {l : Launch} {K : EC} {M0 : Mem} {xq : Int} (hI : In Tru M0) (hE : e_all K xq) (en_6_2 : rd M0 6 2 = 2) (en_6_3 : rd M0 6 3 = 27) (en_6_4 : rd M0 6 4 = 35) (en_6_6 : rd M0 6 6 = 0) (a1 : Int) (ha1 : 0 ≤ a1 ∧ a1 ≤ 59)  : Tr l K 40 mX5_block 0 [(0, (2, 6)), (1, (0, a1))] [] M0 (q_X5_block_6 M0) := by
  have hS : St Tru ws_X5_block_6 as_X5_block_6 M0 M0 := St.rf hI
  refine Tr.aload_n (pc := 0) (i := 0) d_X5_block_0 rfl rfl ?_
  refine Tr.bipush (pc := 1) d_X5_block_1 rfl (by decide) ?_
  refine Tr.callV (pc := 3) (as := [_]) d_X5_block_3 s_5_206 ok_X5_takeOpening rfl rfl (Nat.le_of_ble_eq_true rfl) (Nat.le_of_ble_eq_true rfl) (by decide) (ty_6 hS.1.1) ?_
  refine Tr.imp (Tr.deep (by decide) (sp_X5_takeOpening_6_w18 hS.1 ((St.kp hS (by decide) (by decide) (by decide)).trans en_6_2) en_6_6 123 (by omega))) ?_
  rintro M3 _ ⟨h3, r3, rfl, lr3, ur3, x3_6_6⟩
  have hS := St.tr hS h3 (by decide) (by decide)
  refine Tr.sc [(0, r3)] rfl ?_
  refine Tr.if_ne (pc := 6) (tgt := 12) d_X5_block_6 rfl (fun c6 => ?_) (fun c6 => ?_)
  · refine Tr.aload_n (pc := 12) (i := 0) d_X5_block_12 rfl rfl ?_
    refine Tr.iload_n (pc := 13) (i := 1) d_X5_block_13 rfl rfl ?_
    refine Tr.callV (pc := 14) (as := [_]) d_X5_block_14 s_5_46 ok_X5_orders rfl rfl (Nat.le_of_ble_eq_true rfl) (Nat.le_of_ble_eq_true rfl) (by decide) (ty_6 hS.1.1) ?_
    refine Tr.imp (Tr.deep (by decide) (sp_X5_orders_6_w1 hS.1 hE ((St.kp hS (by decide) (by decide) (by decide)).trans en_6_2) ((St.kp hS (by decide) (by decide) (by decide)).trans en_6_3) ((St.kp hS (by decide) (by decide) (by decide)).trans en_6_4) (x3_6_6 (by omega)) a1 (by omega))) ?_
    rintro M14 _ ⟨h14, r14, rfl, lr14, ur14, x14_6_6⟩
    have hS := St.tr hS h14 (by decide) (by decide)
    refine Tr.sc [(0, r14)] rfl ?_
    refine Tr.istore_n (pc := 17) (i := 2) (ls2 := [(2, (0, r14)), (0, (2, 6)), (1, (0, a1))]) d_X5_block_17 rfl (by decide) rfl ?_
    refine Tr.iload_n (pc := 18) (i := 2) d_X5_block_18 rfl rfl ?_
    refine Tr.bipush (pc := 19) d_X5_block_19 rfl (by decide) ?_
    refine Tr.icmp_eq (pc := 21) (tgt := 33) d_X5_block_21 rfl (fun c21 => ?_) (fun c21 => ?_)
    · refine Tr.bipush (pc := 33) d_X5_block_33 rfl (by decide) ?_
      exact Tr.iret (pc := 35) d_X5_block_35 rfl ⟨hS, _, rfl, by omega, by omega, fun hq => absurd hq (by omega)⟩
    · refine Tr.aload_n (pc := 24) (i := 0) d_X5_block_24 rfl rfl ?_
      refine Tr.bipush (pc := 25) d_X5_block_25 rfl (by decide) ?_
      refine Tr.callV (pc := 27) (as := [_]) d_X5_block_27 s_5_209 ok_X5_takeClosing rfl rfl (Nat.le_of_ble_eq_true rfl) (Nat.le_of_ble_eq_true rfl) (by decide) (ty_6 hS.1.1) ?_
      refine Tr.imp (Tr.deep (by decide) (sp_X5_takeClosing_6_w23 hS.1 ((St.kp hS (by decide) (by decide) (by decide)).trans en_6_2) (x14_6_6 (by omega)) 125 (by omega))) ?_
      rintro M27 _ ⟨h27, r27, rfl, lr27, ur27, x27_6_6⟩
      have hS := St.tr hS h27 (by decide) (by decide)
      refine Tr.sc [(0, r27)] rfl ?_
      refine Tr.if_ne (pc := 30) (tgt := 36) d_X5_block_30 rfl (fun c30 => ?_) (fun c30 => ?_)
      · refine Tr.iload_n (pc := 36) (i := 2) d_X5_block_36 rfl rfl ?_
        exact Tr.iret (pc := 37) d_X5_block_37 rfl ⟨hS, _, rfl, by omega, by omega, fun _ => (x27_6_6 (by omega))⟩
      · refine Tr.bipush (pc := 33) d_X5_block_33 rfl (by decide) ?_
        exact Tr.iret (pc := 35) d_X5_block_35 rfl ⟨hS, _, rfl, by omega, by omega, fun hq => absurd hq (by omega)⟩
  · refine Tr.bipush (pc := 9) d_X5_block_9 rfl (by decide) ?_
    exact Tr.iret (pc := 11) d_X5_block_11 rfl ⟨hS, _, rfl, by omega, by omega, fun hq => absurd hq (by omega)⟩

def ws_X5_yesBlock_6 : List (Int × Int) := [(6, 0), (6, 1), (6, 5), (6, 6), (35, 0), (35, 11)]
def as_X5_yesBlock_6 : List Int := [36, 37, 38, 39, 40, 41, 42, 44, 45]
def q_X5_yesBlock_6 (M0 M' : Mem) (r : Option PV) : Prop := St Tru ws_X5_yesBlock_6 as_X5_yesBlock_6 M0 M' ∧ ∃ v : Int, r = some (0, v) ∧ 0 ≤ v ∧ v ≤ 1 ∧ ((1 ≤ v ∧ v ≤ 1) → rd M' 6 6 = 0)
set_option maxRecDepth 100000 in
set_option maxHeartbeats 4000000 in
theorem sp_X5_yesBlock_6 {l : Launch} {K : EC} {M0 : Mem} {xq : Int} (hI : In Tru M0) (hE : e_all K xq) (en_6_2 : rd M0 6 2 = 2) (en_6_3 : rd M0 6 3 = 27) (en_6_4 : rd M0 6 4 = 35) (en_6_6 : rd M0 6 6 = 0) (a1 : Int) (ha1 : 0 ≤ a1 ∧ a1 ≤ 59)  : Tr l K 41 mX5_yesBlock 0 [(0, (2, 6)), (1, (0, a1))] [] M0 (q_X5_yesBlock_6 M0) := by
  have hS : St Tru ws_X5_yesBlock_6 as_X5_yesBlock_6 M0 M0 := St.rf hI
  refine Tr.aload_n (pc := 0) (i := 0) d_X5_yesBlock_0 rfl rfl ?_
  refine Tr.iload_n (pc := 1) (i := 1) d_X5_yesBlock_1 rfl rfl ?_
  refine Tr.callV (pc := 2) (as := [_]) d_X5_yesBlock_2 s_5_197 ok_X5_block rfl rfl (Nat.le_of_ble_eq_true rfl) (Nat.le_of_ble_eq_true rfl) (by decide) (ty_6 hS.1.1) ?_
  refine Tr.imp (Tr.deep (by decide) (sp_X5_block_6 hS.1 hE ((St.kp hS (by decide) (by decide) (by decide)).trans en_6_2) ((St.kp hS (by decide) (by decide) (by decide)).trans en_6_3) ((St.kp hS (by decide) (by decide) (by decide)).trans en_6_4) en_6_6 a1 (by omega))) ?_
  rintro M2 _ ⟨h2, r2, rfl, lr2, ur2, x2_6_6⟩
  have hS := St.tr hS h2 (by decide) (by decide)
  refine Tr.sc [(0, r2)] rfl ?_
  refine Tr.istore_n (pc := 5) (i := 2) (ls2 := [(2, (0, r2)), (0, (2, 6)), (1, (0, a1))]) d_X5_yesBlock_5 rfl (by decide) rfl ?_
  refine Tr.aload_n (pc := 6) (i := 0) d_X5_yesBlock_6 rfl rfl ?_
  refine Tr.getf (pc := 7) d_X5_yesBlock_7 f_5_32 (by decide) (by decide) (ty_6 hS.1.1) ?_
  refine Tr.tp 35 ((St.kp hS (by decide) (by decide) (by decide)).trans en_6_4) ?_
  refine Tr.getf (pc := 10) d_X5_yesBlock_10 f_5_200 (by decide) (by decide) (ty_35 hS.1.1) ?_
  refine Tr.tp 39 (fx_35_4 hS.1.1) ?_
  refine Tr.iload_n (pc := 13) (i := 1) d_X5_yesBlock_13 rfl rfl ?_
  refine Tr.iload_n (pc := 14) (i := 2) d_X5_yesBlock_14 rfl rfl ?_
  refine Tr.iastS (pc := 15) (P := St Tru ws_X5_yesBlock_6 as_X5_yesBlock_6 M0) d_X5_yesBlock_15 (ty_39 hS.1.1) (by omega) (by omega) (sa_39 hS (by decide) (by omega) trivial) (fun M15 hS w15 => ?_)
  refine Tr.iload_n (pc := 16) (i := 2) d_X5_yesBlock_16 rfl rfl ?_
  refine Tr.bipush (pc := 17) d_X5_yesBlock_17 rfl (by decide) ?_
  refine Tr.icmp_eq (pc := 19) (tgt := 26) d_X5_yesBlock_19 rfl (fun c19 => ?_) (fun c19 => ?_)
  · refine Tr.iconst (pc := 26) d_X5_yesBlock_26 (by decide) ?_
    exact Tr.zret (pc := 27) d_X5_yesBlock_27 rfl (by omega) ⟨hS, _, rfl, by omega, by omega, fun hq => absurd hq (by omega)⟩
  · refine Tr.iconst (pc := 22) d_X5_yesBlock_22 (by decide) ?_
    refine Tr.goto (pc := 23) (tgt := 27) d_X5_yesBlock_23 rfl ?_
    exact Tr.zret (pc := 27) d_X5_yesBlock_27 rfl (by omega) ⟨hS, _, rfl, by omega, by omega, fun _ => ((Wr.b w15 rfl).trans (x2_6_6 (by omega)))⟩

def ws_X5_noBlock_6_w7 : List (Int × Int) := [(6, 0), (6, 1), (6, 5), (6, 6), (35, 0), (35, 11)]
def as_X5_noBlock_6_w7 : List Int := [36, 37, 38, 39, 40, 41, 42, 44, 45]
def q_X5_noBlock_6_w7 (M0 M' : Mem) (r : Option PV) : Prop := St Tru ws_X5_noBlock_6_w7 as_X5_noBlock_6_w7 M0 M' ∧ ∃ v : Int, r = some (0, v) ∧ 0 ≤ v ∧ v ≤ 1 ∧ ((1 ≤ v ∧ v ≤ 1) → rd M' 6 6 = 0)
set_option maxRecDepth 100000 in
set_option maxHeartbeats 4000000 in
theorem sp_X5_noBlock_6_w7 {l : Launch} {K : EC} {M0 : Mem} {xq : Int} (hI : In Tru M0) (hE : e_all K xq) (en_6_2 : rd M0 6 2 = 2) (en_6_3 : rd M0 6 3 = 27) (en_6_4 : rd M0 6 4 = 35) (en_6_6 : rd M0 6 6 = 0) (a1 : Int) (ha1 : 0 ≤ a1 ∧ a1 ≤ 59)  : Tr l K 41 mX5_noBlock 0 [(0, (2, 6)), (1, (0, a1))] [] M0 (q_X5_noBlock_6_w7 M0) := by
  have hS : St Tru ws_X5_noBlock_6_w7 as_X5_noBlock_6_w7 M0 M0 := St.rf hI
  refine Tr.aload_n (pc := 0) (i := 0) d_X5_noBlock_0 rfl rfl ?_
  refine Tr.bipush (pc := 1) d_X5_noBlock_1 rfl (by decide) ?_
  refine Tr.callV (pc := 3) (as := [_]) d_X5_noBlock_3 s_5_71 ok_X5_isOwn rfl rfl (Nat.le_of_ble_eq_true rfl) (Nat.le_of_ble_eq_true rfl) (by decide) (ty_6 hS.1.1) ?_
  refine Tr.imp (Tr.deep (by decide) (sp_X5_isOwn_6 hS.1 ((St.kp hS (by decide) (by decide) (by decide)).trans en_6_2) 13 (by omega))) ?_
  rintro M3 _ ⟨h3, r3, rfl, lr3, ur3⟩
  have hS := St.tr hS h3 (by decide) (by decide)
  refine Tr.sc [(0, r3)] rfl ?_
  refine Tr.if_ne (pc := 6) (tgt := 11) d_X5_noBlock_6 rfl (fun c6 => ?_) (fun c6 => ?_)
  · refine Tr.aload_n (pc := 11) (i := 0) d_X5_noBlock_11 rfl rfl ?_
    refine Tr.callV (pc := 12) (as := []) d_X5_noBlock_12 s_5_74 ok_X5_goOn rfl rfl (Nat.le_of_ble_eq_true rfl) (Nat.le_of_ble_eq_true rfl) (by decide) (ty_6 hS.1.1) ?_
    refine Tr.imp (Tr.deep (by decide) (sp_X5_goOn_6 hS.1 )) ?_
    rintro M12 _ ⟨h12, r12, rfl, lr12, ur12⟩
    have hS := St.tr hS h12 (by decide) (by decide)
    refine Tr.sc [(0, r12)] rfl ?_
    refine Tr.pop (pc := 15) d_X5_noBlock_15 ne01 ?_
    refine Tr.aload_n (pc := 16) (i := 0) d_X5_noBlock_16 rfl rfl ?_
    refine Tr.iload_n (pc := 17) (i := 1) d_X5_noBlock_17 rfl rfl ?_
    refine Tr.callV (pc := 18) (as := [_]) d_X5_noBlock_18 s_5_197 ok_X5_block rfl rfl (Nat.le_of_ble_eq_true rfl) (Nat.le_of_ble_eq_true rfl) (by decide) (ty_6 hS.1.1) ?_
    refine Tr.imp (Tr.deep (by decide) (sp_X5_block_6 hS.1 hE ((St.kp hS (by decide) (by decide) (by decide)).trans en_6_2) ((St.kp hS (by decide) (by decide) (by decide)).trans en_6_3) ((St.kp hS (by decide) (by decide) (by decide)).trans en_6_4) ((St.kp h12 (by decide) (by decide) (by decide)).trans ((St.kp h3 (by decide) (by decide) (by decide)).trans en_6_6)) a1 (by omega))) ?_
    rintro M18 _ ⟨h18, r18, rfl, lr18, ur18, x18_6_6⟩
    have hS := St.tr hS h18 (by decide) (by decide)
    refine Tr.sc [(0, r18)] rfl ?_
    refine Tr.istore_n (pc := 21) (i := 2) (ls2 := [(2, (0, r18)), (0, (2, 6)), (1, (0, a1))]) d_X5_noBlock_21 rfl (by decide) rfl ?_
    refine Tr.aload_n (pc := 22) (i := 0) d_X5_noBlock_22 rfl rfl ?_
    refine Tr.getf (pc := 23) d_X5_noBlock_23 f_5_32 (by decide) (by decide) (ty_6 hS.1.1) ?_
    refine Tr.tp 35 ((St.kp hS (by decide) (by decide) (by decide)).trans en_6_4) ?_
    refine Tr.getf (pc := 26) d_X5_noBlock_26 f_5_203 (by decide) (by decide) (ty_35 hS.1.1) ?_
    refine Tr.tp 40 (fx_35_5 hS.1.1) ?_
    refine Tr.iload_n (pc := 29) (i := 1) d_X5_noBlock_29 rfl rfl ?_
    refine Tr.iload_n (pc := 30) (i := 2) d_X5_noBlock_30 rfl rfl ?_
    refine Tr.iastS (pc := 31) (P := St Tru ws_X5_noBlock_6_w7 as_X5_noBlock_6_w7 M0) d_X5_noBlock_31 (ty_40 hS.1.1) (by omega) (by omega) (sa_40 hS (by decide) (by omega) trivial) (fun M31 hS w31 => ?_)
    refine Tr.iload_n (pc := 32) (i := 2) d_X5_noBlock_32 rfl rfl ?_
    refine Tr.bipush (pc := 33) d_X5_noBlock_33 rfl (by decide) ?_
    refine Tr.icmp_eq (pc := 35) (tgt := 42) d_X5_noBlock_35 rfl (fun c35 => ?_) (fun c35 => ?_)
    · refine Tr.iconst (pc := 42) d_X5_noBlock_42 (by decide) ?_
      exact Tr.zret (pc := 43) d_X5_noBlock_43 rfl (by omega) ⟨hS, _, rfl, by omega, by omega, fun hq => absurd hq (by omega)⟩
    · refine Tr.iconst (pc := 38) d_X5_noBlock_38 (by decide) ?_
      refine Tr.goto (pc := 39) (tgt := 43) d_X5_noBlock_39 rfl ?_
      exact Tr.zret (pc := 43) d_X5_noBlock_43 rfl (by omega) ⟨hS, _, rfl, by omega, by omega, fun _ => ((Wr.b w31 rfl).trans (x18_6_6 (by omega)))⟩
  · refine Tr.iconst (pc := 9) d_X5_noBlock_9 (by decide) ?_
    exact Tr.zret (pc := 10) d_X5_noBlock_10 rfl (by omega) ⟨hS, _, rfl, by omega, by omega, fun _ => ((St.kp h3 (by decide) (by decide) (by decide)).trans en_6_6)⟩

def ws_X5_order_6 : List (Int × Int) := [(6, 0), (6, 1), (6, 5), (6, 6), (35, 0), (35, 11)]
def as_X5_order_6 : List Int := [36, 37, 38, 39, 40, 41, 42, 44, 45]
def q_X5_order_6 (M0 M' : Mem) (r : Option PV) : Prop := St Tru ws_X5_order_6 as_X5_order_6 M0 M' ∧ ∃ v : Int, r = some (0, v) ∧ 0 ≤ v ∧ v ≤ 1 ∧ ((1 ≤ v ∧ v ≤ 1) → rd M' 6 6 = 0)
set_option maxRecDepth 100000 in
set_option maxHeartbeats 4000000 in
theorem sp_X5_order_6 {l : Launch} {K : EC} {M0 : Mem} {xq : Int} (hI : In Tru M0) (hE : e_all K xq) (en_6_2 : rd M0 6 2 = 2) (en_6_3 : rd M0 6 3 = 27) (en_6_4 : rd M0 6 4 = 35) (en_6_6 : rd M0 6 6 = 0) (a1 : Int) (ha1 : 0 ≤ a1 ∧ a1 ≤ 59)  : Tr l K 42 mX5_order 0 [(0, (2, 6)), (1, (0, a1))] [] M0 (q_X5_order_6 M0) := by
  have hS : St Tru ws_X5_order_6 as_X5_order_6 M0 M0 := St.rf hI
  refine Tr.aload_n (pc := 0) (i := 0) d_X5_order_0 rfl rfl ?_
  refine Tr.getf (pc := 1) d_X5_order_1 f_5_32 (by decide) (by decide) (ty_6 hS.1.1) ?_
  refine Tr.tp 35 ((St.kp hS (by decide) (by decide) (by decide)).trans en_6_4) ?_
  refine Tr.getf (pc := 4) d_X5_order_4 f_5_169 (by decide) (by decide) (ty_35 hS.1.1) ?_
  refine Tr.tp 36 (fx_35_1 hS.1.1) ?_
  refine Tr.iload_n (pc := 7) (i := 1) d_X5_order_7 rfl rfl ?_
  refine Tr.iald (pc := 8) d_X5_order_8 (ty_36 hS.1.1) (by omega) (by omega) ?_
  refine Tr.gen (P := fun v => (-2147483648) ≤ v ∧ v ≤ 2147483647) (ar_36 hS.1.2.1 _) (fun r8 er8 br8 => ?_)
  rcases (show (r8 < 5 ∨ 11 < r8) ∨ r8 = 5 ∨ r8 = 6 ∨ r8 = 7 ∨ r8 = 8 ∨ r8 = 9 ∨ r8 = 10 ∨ r8 = 11 by omega) with c9 | c9 | c9 | c9 | c9 | c9 | c9 | c9
  · refine Tr.tswOut (pc := 9) (tgt := 198) d_X5_order_9 c9 rfl ?_
    refine Tr.aload_n (pc := 198) (i := 0) d_X5_order_198 rfl rfl ?_
    refine Tr.callV (pc := 199) (as := []) d_X5_order_199 s_5_177 ok_X5_test rfl rfl (Nat.le_of_ble_eq_true rfl) (Nat.le_of_ble_eq_true rfl) (by decide) (ty_6 hS.1.1) ?_
    refine Tr.imp (Tr.deep (by decide) (sp_X5_test_6 hS.1 hE ((St.kp hS (by decide) (by decide) (by decide)).trans en_6_2) ((St.kp hS (by decide) (by decide) (by decide)).trans en_6_3) ((St.kp hS (by decide) (by decide) (by decide)).trans en_6_4) en_6_6)) ?_
    rintro M199 _ ⟨h199, r199, rfl, lr199, ur199, x199_6_6⟩
    have hS := St.tr hS h199 (by decide) (by decide)
    refine Tr.sc [(0, r199)] rfl ?_
    refine Tr.if_eq (pc := 202) (tgt := 217) d_X5_order_202 rfl (fun c202 => ?_) (fun c202 => ?_)
    · refine Tr.iconst (pc := 217) d_X5_order_217 (by decide) ?_
      exact Tr.zret (pc := 218) d_X5_order_218 rfl (by omega) ⟨hS, _, rfl, by omega, by omega, fun hq => absurd hq (by omega)⟩
    · refine Tr.aload_n (pc := 205) (i := 0) d_X5_order_205 rfl rfl ?_
      refine Tr.iload_n (pc := 206) (i := 1) d_X5_order_206 rfl rfl ?_
      refine Tr.callV (pc := 207) (as := [_]) d_X5_order_207 s_5_180 ok_X5_yesBlock rfl rfl (Nat.le_of_ble_eq_true rfl) (Nat.le_of_ble_eq_true rfl) (by decide) (ty_6 hS.1.1) ?_
      refine Tr.imp (Tr.deep (by decide) (sp_X5_yesBlock_6 hS.1 hE ((St.kp hS (by decide) (by decide) (by decide)).trans en_6_2) ((St.kp hS (by decide) (by decide) (by decide)).trans en_6_3) ((St.kp hS (by decide) (by decide) (by decide)).trans en_6_4) (x199_6_6 (by omega)) a1 (by omega))) ?_
      rintro M207 _ ⟨h207, r207, rfl, lr207, ur207, x207_6_6⟩
      have hS := St.tr hS h207 (by decide) (by decide)
      refine Tr.sc [(0, r207)] rfl ?_
      refine Tr.if_eq (pc := 210) (tgt := 217) d_X5_order_210 rfl (fun c210 => ?_) (fun c210 => ?_)
      · refine Tr.iconst (pc := 217) d_X5_order_217 (by decide) ?_
        exact Tr.zret (pc := 218) d_X5_order_218 rfl (by omega) ⟨hS, _, rfl, by omega, by omega, fun hq => absurd hq (by omega)⟩
      · refine Tr.iconst (pc := 213) d_X5_order_213 (by decide) ?_
        refine Tr.goto (pc := 214) (tgt := 218) d_X5_order_214 rfl ?_
        exact Tr.zret (pc := 218) d_X5_order_218 rfl (by omega) ⟨hS, _, rfl, by omega, by omega, fun _ => (x207_6_6 (by omega))⟩
  · refine Tr.tp 5 c9 ?_
    refine Tr.tswIn (pc := 9) (off := 43) (tgt := 52) d_X5_order_9 (by decide) (by decide) rfl rfl ?_
    refine Tr.aload_n (pc := 52) (i := 0) d_X5_order_52 rfl rfl ?_
    refine Tr.iload_n (pc := 53) (i := 1) d_X5_order_53 rfl rfl ?_
    refine Tr.iconst (pc := 54) d_X5_order_54 (by decide) ?_
    refine Tr.callV (pc := 55) (as := [_, _]) d_X5_order_55 s_5_170 ok_X5_about rfl rfl (Nat.le_of_ble_eq_true rfl) (Nat.le_of_ble_eq_true rfl) (by decide) (ty_6 hS.1.1) ?_
    refine Tr.imp (Tr.deep (by decide) (sp_X5_about_6_v2 hS.1 hE ((St.kp hS (by decide) (by decide) (by decide)).trans en_6_2) ((St.kp hS (by decide) (by decide) (by decide)).trans en_6_3) ((St.kp hS (by decide) (by decide) (by decide)).trans en_6_4) a1 (by omega))) ?_
    rintro M55 _ ⟨h55, r55, rfl, lr55, ur55⟩
    have hS := St.tr hS h55 (by decide) (by decide)
    refine Tr.sc [(0, r55)] rfl ?_
    refine Tr.if_eq (pc := 58) (tgt := 90) d_X5_order_58 rfl (fun c58 => ?_) (fun c58 => ?_)
    · refine Tr.iconst (pc := 90) d_X5_order_90 (by decide) ?_
      exact Tr.zret (pc := 91) d_X5_order_91 rfl (by omega) ⟨hS, _, rfl, by omega, by omega, fun hq => absurd hq (by omega)⟩
    · refine Tr.aload_n (pc := 61) (i := 0) d_X5_order_61 rfl rfl ?_
      refine Tr.bipush (pc := 62) d_X5_order_62 rfl (by decide) ?_
      refine Tr.callV (pc := 64) (as := [_]) d_X5_order_64 s_5_81 ok_X5_takeSign rfl rfl (Nat.le_of_ble_eq_true rfl) (Nat.le_of_ble_eq_true rfl) (by decide) (ty_6 hS.1.1) ?_
      refine Tr.imp (Tr.deep (by decide) (sp_X5_takeSign_6_w3 hS.1 ((St.kp hS (by decide) (by decide) (by decide)).trans en_6_2) 61 (by omega))) ?_
      rintro M64 _ ⟨h64, r64, rfl, lr64, ur64⟩
      have hS := St.tr hS h64 (by decide) (by decide)
      refine Tr.sc [(0, r64)] rfl ?_
      refine Tr.if_eq (pc := 67) (tgt := 90) d_X5_order_67 rfl (fun c67 => ?_) (fun c67 => ?_)
      · refine Tr.iconst (pc := 90) d_X5_order_90 (by decide) ?_
        exact Tr.zret (pc := 91) d_X5_order_91 rfl (by omega) ⟨hS, _, rfl, by omega, by omega, fun hq => absurd hq (by omega)⟩
      · refine Tr.aload_n (pc := 70) (i := 0) d_X5_order_70 rfl rfl ?_
        refine Tr.callV (pc := 71) (as := []) d_X5_order_71 s_5_174 ok_X5_sum rfl rfl (Nat.le_of_ble_eq_true rfl) (Nat.le_of_ble_eq_true rfl) (by decide) (ty_6 hS.1.1) ?_
        refine Tr.imp (Tr.deep (by decide) (sp_X5_sum_6 hS.1 hE ((St.kp hS (by decide) (by decide) (by decide)).trans en_6_2) ((St.kp hS (by decide) (by decide) (by decide)).trans en_6_3) ((St.kp hS (by decide) (by decide) (by decide)).trans en_6_4) ((St.kp h64 (by decide) (by decide) (by decide)).trans ((St.kp h55 (by decide) (by decide) (by decide)).trans en_6_6)))) ?_
        rintro M71 _ ⟨h71, r71, rfl, lr71, ur71, x71_6_6⟩
        have hS := St.tr hS h71 (by decide) (by decide)
        refine Tr.sc [(0, r71)] rfl ?_
        refine Tr.if_eq (pc := 74) (tgt := 90) d_X5_order_74 rfl (fun c74 => ?_) (fun c74 => ?_)
        · refine Tr.iconst (pc := 90) d_X5_order_90 (by decide) ?_
          exact Tr.zret (pc := 91) d_X5_order_91 rfl (by omega) ⟨hS, _, rfl, by omega, by omega, fun hq => absurd hq (by omega)⟩
        · refine Tr.aload_n (pc := 77) (i := 0) d_X5_order_77 rfl rfl ?_
          refine Tr.bipush (pc := 78) d_X5_order_78 rfl (by decide) ?_
          refine Tr.callV (pc := 80) (as := [_]) d_X5_order_80 s_5_81 ok_X5_takeSign rfl rfl (Nat.le_of_ble_eq_true rfl) (Nat.le_of_ble_eq_true rfl) (by decide) (ty_6 hS.1.1) ?_
          refine Tr.imp (Tr.deep (by decide) (sp_X5_takeSign_6 hS.1 ((St.kp hS (by decide) (by decide) (by decide)).trans en_6_2) 59 (by omega))) ?_
          rintro M80 _ ⟨h80, r80, rfl, lr80, ur80⟩
          have hS := St.tr hS h80 (by decide) (by decide)
          refine Tr.sc [(0, r80)] rfl ?_
          refine Tr.if_eq (pc := 83) (tgt := 90) d_X5_order_83 rfl (fun c83 => ?_) (fun c83 => ?_)
          · refine Tr.iconst (pc := 90) d_X5_order_90 (by decide) ?_
            exact Tr.zret (pc := 91) d_X5_order_91 rfl (by omega) ⟨hS, _, rfl, by omega, by omega, fun hq => absurd hq (by omega)⟩
          · refine Tr.iconst (pc := 86) d_X5_order_86 (by decide) ?_
            refine Tr.goto (pc := 87) (tgt := 91) d_X5_order_87 rfl ?_
            exact Tr.zret (pc := 91) d_X5_order_91 rfl (by omega) ⟨hS, _, rfl, by omega, by omega, fun _ => ((St.kp h80 (by decide) (by decide) (by decide)).trans (x71_6_6 (by omega)))⟩
  · refine Tr.tp 6 c9 ?_
    refine Tr.tswIn (pc := 9) (off := 83) (tgt := 92) d_X5_order_9 (by decide) (by decide) rfl rfl ?_
    refine Tr.aload_n (pc := 92) (i := 0) d_X5_order_92 rfl rfl ?_
    refine Tr.iload_n (pc := 93) (i := 1) d_X5_order_93 rfl rfl ?_
    refine Tr.iconst (pc := 94) d_X5_order_94 (by decide) ?_
    refine Tr.callV (pc := 95) (as := [_, _]) d_X5_order_95 s_5_170 ok_X5_about rfl rfl (Nat.le_of_ble_eq_true rfl) (Nat.le_of_ble_eq_true rfl) (by decide) (ty_6 hS.1.1) ?_
    refine Tr.imp (Tr.deep (by decide) (sp_X5_about_6_v0 hS.1 hE ((St.kp hS (by decide) (by decide) (by decide)).trans en_6_2) ((St.kp hS (by decide) (by decide) (by decide)).trans en_6_3) ((St.kp hS (by decide) (by decide) (by decide)).trans en_6_4) a1 (by omega))) ?_
    rintro M95 _ ⟨h95, r95, rfl, lr95, ur95⟩
    have hS := St.tr hS h95 (by decide) (by decide)
    refine Tr.sc [(0, r95)] rfl ?_
    refine Tr.if_eq (pc := 98) (tgt := 121) d_X5_order_98 rfl (fun c98 => ?_) (fun c98 => ?_)
    · refine Tr.iconst (pc := 121) d_X5_order_121 (by decide) ?_
      exact Tr.zret (pc := 122) d_X5_order_122 rfl (by omega) ⟨hS, _, rfl, by omega, by omega, fun hq => absurd hq (by omega)⟩
    · refine Tr.aload_n (pc := 101) (i := 0) d_X5_order_101 rfl rfl ?_
      refine Tr.callV (pc := 102) (as := []) d_X5_order_102 s_5_174 ok_X5_sum rfl rfl (Nat.le_of_ble_eq_true rfl) (Nat.le_of_ble_eq_true rfl) (by decide) (ty_6 hS.1.1) ?_
      refine Tr.imp (Tr.deep (by decide) (sp_X5_sum_6 hS.1 hE ((St.kp hS (by decide) (by decide) (by decide)).trans en_6_2) ((St.kp hS (by decide) (by decide) (by decide)).trans en_6_3) ((St.kp hS (by decide) (by decide) (by decide)).trans en_6_4) ((St.kp h95 (by decide) (by decide) (by decide)).trans en_6_6))) ?_
      rintro M102 _ ⟨h102, r102, rfl, lr102, ur102, x102_6_6⟩
      have hS := St.tr hS h102 (by decide) (by decide)
      refine Tr.sc [(0, r102)] rfl ?_
      refine Tr.if_eq (pc := 105) (tgt := 121) d_X5_order_105 rfl (fun c105 => ?_) (fun c105 => ?_)
      · refine Tr.iconst (pc := 121) d_X5_order_121 (by decide) ?_
        exact Tr.zret (pc := 122) d_X5_order_122 rfl (by omega) ⟨hS, _, rfl, by omega, by omega, fun hq => absurd hq (by omega)⟩
      · refine Tr.aload_n (pc := 108) (i := 0) d_X5_order_108 rfl rfl ?_
        refine Tr.bipush (pc := 109) d_X5_order_109 rfl (by decide) ?_
        refine Tr.callV (pc := 111) (as := [_]) d_X5_order_111 s_5_81 ok_X5_takeSign rfl rfl (Nat.le_of_ble_eq_true rfl) (Nat.le_of_ble_eq_true rfl) (by decide) (ty_6 hS.1.1) ?_
        refine Tr.imp (Tr.deep (by decide) (sp_X5_takeSign_6 hS.1 ((St.kp hS (by decide) (by decide) (by decide)).trans en_6_2) 59 (by omega))) ?_
        rintro M111 _ ⟨h111, r111, rfl, lr111, ur111⟩
        have hS := St.tr hS h111 (by decide) (by decide)
        refine Tr.sc [(0, r111)] rfl ?_
        refine Tr.if_eq (pc := 114) (tgt := 121) d_X5_order_114 rfl (fun c114 => ?_) (fun c114 => ?_)
        · refine Tr.iconst (pc := 121) d_X5_order_121 (by decide) ?_
          exact Tr.zret (pc := 122) d_X5_order_122 rfl (by omega) ⟨hS, _, rfl, by omega, by omega, fun hq => absurd hq (by omega)⟩
        · refine Tr.iconst (pc := 117) d_X5_order_117 (by decide) ?_
          refine Tr.goto (pc := 118) (tgt := 122) d_X5_order_118 rfl ?_
          exact Tr.zret (pc := 122) d_X5_order_122 rfl (by omega) ⟨hS, _, rfl, by omega, by omega, fun _ => ((St.kp h111 (by decide) (by decide) (by decide)).trans (x102_6_6 (by omega)))⟩
  · refine Tr.tp 7 c9 ?_
    refine Tr.tswIn (pc := 9) (off := 114) (tgt := 123) d_X5_order_9 (by decide) (by decide) rfl rfl ?_
    refine Tr.aload_n (pc := 123) (i := 0) d_X5_order_123 rfl rfl ?_
    refine Tr.iload_n (pc := 124) (i := 1) d_X5_order_124 rfl rfl ?_
    refine Tr.iconst (pc := 125) d_X5_order_125 (by decide) ?_
    refine Tr.callV (pc := 126) (as := [_, _]) d_X5_order_126 s_5_170 ok_X5_about rfl rfl (Nat.le_of_ble_eq_true rfl) (Nat.le_of_ble_eq_true rfl) (by decide) (ty_6 hS.1.1) ?_
    refine Tr.imp (Tr.deep (by decide) (sp_X5_about_6_v0 hS.1 hE ((St.kp hS (by decide) (by decide) (by decide)).trans en_6_2) ((St.kp hS (by decide) (by decide) (by decide)).trans en_6_3) ((St.kp hS (by decide) (by decide) (by decide)).trans en_6_4) a1 (by omega))) ?_
    rintro M126 _ ⟨h126, r126, rfl, lr126, ur126⟩
    have hS := St.tr hS h126 (by decide) (by decide)
    refine Tr.sc [(0, r126)] rfl ?_
    refine Tr.if_eq (pc := 129) (tgt := 145) d_X5_order_129 rfl (fun c129 => ?_) (fun c129 => ?_)
    · refine Tr.iconst (pc := 145) d_X5_order_145 (by decide) ?_
      exact Tr.zret (pc := 146) d_X5_order_146 rfl (by omega) ⟨hS, _, rfl, by omega, by omega, fun hq => absurd hq (by omega)⟩
    · refine Tr.aload_n (pc := 132) (i := 0) d_X5_order_132 rfl rfl ?_
      refine Tr.bipush (pc := 133) d_X5_order_133 rfl (by decide) ?_
      refine Tr.callV (pc := 135) (as := [_]) d_X5_order_135 s_5_81 ok_X5_takeSign rfl rfl (Nat.le_of_ble_eq_true rfl) (Nat.le_of_ble_eq_true rfl) (by decide) (ty_6 hS.1.1) ?_
      refine Tr.imp (Tr.deep (by decide) (sp_X5_takeSign_6 hS.1 ((St.kp hS (by decide) (by decide) (by decide)).trans en_6_2) 59 (by omega))) ?_
      rintro M135 _ ⟨h135, r135, rfl, lr135, ur135⟩
      have hS := St.tr hS h135 (by decide) (by decide)
      refine Tr.sc [(0, r135)] rfl ?_
      refine Tr.if_eq (pc := 138) (tgt := 145) d_X5_order_138 rfl (fun c138 => ?_) (fun c138 => ?_)
      · refine Tr.iconst (pc := 145) d_X5_order_145 (by decide) ?_
        exact Tr.zret (pc := 146) d_X5_order_146 rfl (by omega) ⟨hS, _, rfl, by omega, by omega, fun hq => absurd hq (by omega)⟩
      · refine Tr.iconst (pc := 141) d_X5_order_141 (by decide) ?_
        refine Tr.goto (pc := 142) (tgt := 146) d_X5_order_142 rfl ?_
        exact Tr.zret (pc := 146) d_X5_order_146 rfl (by omega) ⟨hS, _, rfl, by omega, by omega, fun _ => ((St.kp h135 (by decide) (by decide) (by decide)).trans ((St.kp h126 (by decide) (by decide) (by decide)).trans en_6_6))⟩
  · refine Tr.tp 8 c9 ?_
    refine Tr.tswIn (pc := 9) (off := 114) (tgt := 123) d_X5_order_9 (by decide) (by decide) rfl rfl ?_
    refine Tr.aload_n (pc := 123) (i := 0) d_X5_order_123 rfl rfl ?_
    refine Tr.iload_n (pc := 124) (i := 1) d_X5_order_124 rfl rfl ?_
    refine Tr.iconst (pc := 125) d_X5_order_125 (by decide) ?_
    refine Tr.callV (pc := 126) (as := [_, _]) d_X5_order_126 s_5_170 ok_X5_about rfl rfl (Nat.le_of_ble_eq_true rfl) (Nat.le_of_ble_eq_true rfl) (by decide) (ty_6 hS.1.1) ?_
    refine Tr.imp (Tr.deep (by decide) (sp_X5_about_6_v0 hS.1 hE ((St.kp hS (by decide) (by decide) (by decide)).trans en_6_2) ((St.kp hS (by decide) (by decide) (by decide)).trans en_6_3) ((St.kp hS (by decide) (by decide) (by decide)).trans en_6_4) a1 (by omega))) ?_
    rintro M126 _ ⟨h126, r126, rfl, lr126, ur126⟩
    have hS := St.tr hS h126 (by decide) (by decide)
    refine Tr.sc [(0, r126)] rfl ?_
    refine Tr.if_eq (pc := 129) (tgt := 145) d_X5_order_129 rfl (fun c129 => ?_) (fun c129 => ?_)
    · refine Tr.iconst (pc := 145) d_X5_order_145 (by decide) ?_
      exact Tr.zret (pc := 146) d_X5_order_146 rfl (by omega) ⟨hS, _, rfl, by omega, by omega, fun hq => absurd hq (by omega)⟩
    · refine Tr.aload_n (pc := 132) (i := 0) d_X5_order_132 rfl rfl ?_
      refine Tr.bipush (pc := 133) d_X5_order_133 rfl (by decide) ?_
      refine Tr.callV (pc := 135) (as := [_]) d_X5_order_135 s_5_81 ok_X5_takeSign rfl rfl (Nat.le_of_ble_eq_true rfl) (Nat.le_of_ble_eq_true rfl) (by decide) (ty_6 hS.1.1) ?_
      refine Tr.imp (Tr.deep (by decide) (sp_X5_takeSign_6 hS.1 ((St.kp hS (by decide) (by decide) (by decide)).trans en_6_2) 59 (by omega))) ?_
      rintro M135 _ ⟨h135, r135, rfl, lr135, ur135⟩
      have hS := St.tr hS h135 (by decide) (by decide)
      refine Tr.sc [(0, r135)] rfl ?_
      refine Tr.if_eq (pc := 138) (tgt := 145) d_X5_order_138 rfl (fun c138 => ?_) (fun c138 => ?_)
      · refine Tr.iconst (pc := 145) d_X5_order_145 (by decide) ?_
        exact Tr.zret (pc := 146) d_X5_order_146 rfl (by omega) ⟨hS, _, rfl, by omega, by omega, fun hq => absurd hq (by omega)⟩
      · refine Tr.iconst (pc := 141) d_X5_order_141 (by decide) ?_
        refine Tr.goto (pc := 142) (tgt := 146) d_X5_order_142 rfl ?_
        exact Tr.zret (pc := 146) d_X5_order_146 rfl (by omega) ⟨hS, _, rfl, by omega, by omega, fun _ => ((St.kp h135 (by decide) (by decide) (by decide)).trans ((St.kp h126 (by decide) (by decide) (by decide)).trans en_6_6))⟩
  · refine Tr.tp 9 c9 ?_
    refine Tr.tswIn (pc := 9) (off := 138) (tgt := 147) d_X5_order_9 (by decide) (by decide) rfl rfl ?_
    refine Tr.aload_n (pc := 147) (i := 0) d_X5_order_147 rfl rfl ?_
    refine Tr.callV (pc := 148) (as := []) d_X5_order_148 s_5_174 ok_X5_sum rfl rfl (Nat.le_of_ble_eq_true rfl) (Nat.le_of_ble_eq_true rfl) (by decide) (ty_6 hS.1.1) ?_
    refine Tr.imp (Tr.deep (by decide) (sp_X5_sum_6 hS.1 hE ((St.kp hS (by decide) (by decide) (by decide)).trans en_6_2) ((St.kp hS (by decide) (by decide) (by decide)).trans en_6_3) ((St.kp hS (by decide) (by decide) (by decide)).trans en_6_4) en_6_6)) ?_
    rintro M148 _ ⟨h148, r148, rfl, lr148, ur148, x148_6_6⟩
    have hS := St.tr hS h148 (by decide) (by decide)
    refine Tr.sc [(0, r148)] rfl ?_
    refine Tr.if_eq (pc := 151) (tgt := 167) d_X5_order_151 rfl (fun c151 => ?_) (fun c151 => ?_)
    · refine Tr.iconst (pc := 167) d_X5_order_167 (by decide) ?_
      exact Tr.zret (pc := 168) d_X5_order_168 rfl (by omega) ⟨hS, _, rfl, by omega, by omega, fun hq => absurd hq (by omega)⟩
    · refine Tr.aload_n (pc := 154) (i := 0) d_X5_order_154 rfl rfl ?_
      refine Tr.bipush (pc := 155) d_X5_order_155 rfl (by decide) ?_
      refine Tr.callV (pc := 157) (as := [_]) d_X5_order_157 s_5_81 ok_X5_takeSign rfl rfl (Nat.le_of_ble_eq_true rfl) (Nat.le_of_ble_eq_true rfl) (by decide) (ty_6 hS.1.1) ?_
      refine Tr.imp (Tr.deep (by decide) (sp_X5_takeSign_6 hS.1 ((St.kp hS (by decide) (by decide) (by decide)).trans en_6_2) 59 (by omega))) ?_
      rintro M157 _ ⟨h157, r157, rfl, lr157, ur157⟩
      have hS := St.tr hS h157 (by decide) (by decide)
      refine Tr.sc [(0, r157)] rfl ?_
      refine Tr.if_eq (pc := 160) (tgt := 167) d_X5_order_160 rfl (fun c160 => ?_) (fun c160 => ?_)
      · refine Tr.iconst (pc := 167) d_X5_order_167 (by decide) ?_
        exact Tr.zret (pc := 168) d_X5_order_168 rfl (by omega) ⟨hS, _, rfl, by omega, by omega, fun hq => absurd hq (by omega)⟩
      · refine Tr.iconst (pc := 163) d_X5_order_163 (by decide) ?_
        refine Tr.goto (pc := 164) (tgt := 168) d_X5_order_164 rfl ?_
        exact Tr.zret (pc := 168) d_X5_order_168 rfl (by omega) ⟨hS, _, rfl, by omega, by omega, fun _ => ((St.kp h157 (by decide) (by decide) (by decide)).trans (x148_6_6 (by omega)))⟩
  · refine Tr.tp 10 c9 ?_
    refine Tr.tswIn (pc := 9) (off := 138) (tgt := 147) d_X5_order_9 (by decide) (by decide) rfl rfl ?_
    refine Tr.aload_n (pc := 147) (i := 0) d_X5_order_147 rfl rfl ?_
    refine Tr.callV (pc := 148) (as := []) d_X5_order_148 s_5_174 ok_X5_sum rfl rfl (Nat.le_of_ble_eq_true rfl) (Nat.le_of_ble_eq_true rfl) (by decide) (ty_6 hS.1.1) ?_
    refine Tr.imp (Tr.deep (by decide) (sp_X5_sum_6 hS.1 hE ((St.kp hS (by decide) (by decide) (by decide)).trans en_6_2) ((St.kp hS (by decide) (by decide) (by decide)).trans en_6_3) ((St.kp hS (by decide) (by decide) (by decide)).trans en_6_4) en_6_6)) ?_
    rintro M148 _ ⟨h148, r148, rfl, lr148, ur148, x148_6_6⟩
    have hS := St.tr hS h148 (by decide) (by decide)
    refine Tr.sc [(0, r148)] rfl ?_
    refine Tr.if_eq (pc := 151) (tgt := 167) d_X5_order_151 rfl (fun c151 => ?_) (fun c151 => ?_)
    · refine Tr.iconst (pc := 167) d_X5_order_167 (by decide) ?_
      exact Tr.zret (pc := 168) d_X5_order_168 rfl (by omega) ⟨hS, _, rfl, by omega, by omega, fun hq => absurd hq (by omega)⟩
    · refine Tr.aload_n (pc := 154) (i := 0) d_X5_order_154 rfl rfl ?_
      refine Tr.bipush (pc := 155) d_X5_order_155 rfl (by decide) ?_
      refine Tr.callV (pc := 157) (as := [_]) d_X5_order_157 s_5_81 ok_X5_takeSign rfl rfl (Nat.le_of_ble_eq_true rfl) (Nat.le_of_ble_eq_true rfl) (by decide) (ty_6 hS.1.1) ?_
      refine Tr.imp (Tr.deep (by decide) (sp_X5_takeSign_6 hS.1 ((St.kp hS (by decide) (by decide) (by decide)).trans en_6_2) 59 (by omega))) ?_
      rintro M157 _ ⟨h157, r157, rfl, lr157, ur157⟩
      have hS := St.tr hS h157 (by decide) (by decide)
      refine Tr.sc [(0, r157)] rfl ?_
      refine Tr.if_eq (pc := 160) (tgt := 167) d_X5_order_160 rfl (fun c160 => ?_) (fun c160 => ?_)
      · refine Tr.iconst (pc := 167) d_X5_order_167 (by decide) ?_
        exact Tr.zret (pc := 168) d_X5_order_168 rfl (by omega) ⟨hS, _, rfl, by omega, by omega, fun hq => absurd hq (by omega)⟩
      · refine Tr.iconst (pc := 163) d_X5_order_163 (by decide) ?_
        refine Tr.goto (pc := 164) (tgt := 168) d_X5_order_164 rfl ?_
        exact Tr.zret (pc := 168) d_X5_order_168 rfl (by omega) ⟨hS, _, rfl, by omega, by omega, fun _ => ((St.kp h157 (by decide) (by decide) (by decide)).trans (x148_6_6 (by omega)))⟩
  · refine Tr.tp 11 c9 ?_
    refine Tr.tswIn (pc := 9) (off := 160) (tgt := 169) d_X5_order_9 (by decide) (by decide) rfl rfl ?_
    refine Tr.aload_n (pc := 169) (i := 0) d_X5_order_169 rfl rfl ?_
    refine Tr.callV (pc := 170) (as := []) d_X5_order_170 s_5_177 ok_X5_test rfl rfl (Nat.le_of_ble_eq_true rfl) (Nat.le_of_ble_eq_true rfl) (by decide) (ty_6 hS.1.1) ?_
    refine Tr.imp (Tr.deep (by decide) (sp_X5_test_6 hS.1 hE ((St.kp hS (by decide) (by decide) (by decide)).trans en_6_2) ((St.kp hS (by decide) (by decide) (by decide)).trans en_6_3) ((St.kp hS (by decide) (by decide) (by decide)).trans en_6_4) en_6_6)) ?_
    rintro M170 _ ⟨h170, r170, rfl, lr170, ur170, x170_6_6⟩
    have hS := St.tr hS h170 (by decide) (by decide)
    refine Tr.sc [(0, r170)] rfl ?_
    refine Tr.if_eq (pc := 173) (tgt := 196) d_X5_order_173 rfl (fun c173 => ?_) (fun c173 => ?_)
    · refine Tr.iconst (pc := 196) d_X5_order_196 (by decide) ?_
      exact Tr.zret (pc := 197) d_X5_order_197 rfl (by omega) ⟨hS, _, rfl, by omega, by omega, fun hq => absurd hq (by omega)⟩
    · refine Tr.aload_n (pc := 176) (i := 0) d_X5_order_176 rfl rfl ?_
      refine Tr.iload_n (pc := 177) (i := 1) d_X5_order_177 rfl rfl ?_
      refine Tr.callV (pc := 178) (as := [_]) d_X5_order_178 s_5_180 ok_X5_yesBlock rfl rfl (Nat.le_of_ble_eq_true rfl) (Nat.le_of_ble_eq_true rfl) (by decide) (ty_6 hS.1.1) ?_
      refine Tr.imp (Tr.deep (by decide) (sp_X5_yesBlock_6 hS.1 hE ((St.kp hS (by decide) (by decide) (by decide)).trans en_6_2) ((St.kp hS (by decide) (by decide) (by decide)).trans en_6_3) ((St.kp hS (by decide) (by decide) (by decide)).trans en_6_4) (x170_6_6 (by omega)) a1 (by omega))) ?_
      rintro M178 _ ⟨h178, r178, rfl, lr178, ur178, x178_6_6⟩
      have hS := St.tr hS h178 (by decide) (by decide)
      refine Tr.sc [(0, r178)] rfl ?_
      refine Tr.if_eq (pc := 181) (tgt := 196) d_X5_order_181 rfl (fun c181 => ?_) (fun c181 => ?_)
      · refine Tr.iconst (pc := 196) d_X5_order_196 (by decide) ?_
        exact Tr.zret (pc := 197) d_X5_order_197 rfl (by omega) ⟨hS, _, rfl, by omega, by omega, fun hq => absurd hq (by omega)⟩
      · refine Tr.aload_n (pc := 184) (i := 0) d_X5_order_184 rfl rfl ?_
        refine Tr.iload_n (pc := 185) (i := 1) d_X5_order_185 rfl rfl ?_
        refine Tr.callV (pc := 186) (as := [_]) d_X5_order_186 s_5_183 ok_X5_noBlock rfl rfl (Nat.le_of_ble_eq_true rfl) (Nat.le_of_ble_eq_true rfl) (by decide) (ty_6 hS.1.1) ?_
        refine Tr.imp (Tr.deep (by decide) (sp_X5_noBlock_6_w7 hS.1 hE ((St.kp hS (by decide) (by decide) (by decide)).trans en_6_2) ((St.kp hS (by decide) (by decide) (by decide)).trans en_6_3) ((St.kp hS (by decide) (by decide) (by decide)).trans en_6_4) (x178_6_6 (by omega)) a1 (by omega))) ?_
        rintro M186 _ ⟨h186, r186, rfl, lr186, ur186, x186_6_6⟩
        have hS := St.tr hS h186 (by decide) (by decide)
        refine Tr.sc [(0, r186)] rfl ?_
        refine Tr.if_eq (pc := 189) (tgt := 196) d_X5_order_189 rfl (fun c189 => ?_) (fun c189 => ?_)
        · refine Tr.iconst (pc := 196) d_X5_order_196 (by decide) ?_
          exact Tr.zret (pc := 197) d_X5_order_197 rfl (by omega) ⟨hS, _, rfl, by omega, by omega, fun hq => absurd hq (by omega)⟩
        · refine Tr.iconst (pc := 192) d_X5_order_192 (by decide) ?_
          refine Tr.goto (pc := 193) (tgt := 197) d_X5_order_193 rfl ?_
          exact Tr.zret (pc := 197) d_X5_order_197 rfl (by omega) ⟨hS, _, rfl, by omega, by omega, fun _ => (x186_6_6 (by omega))⟩
end
/-! 34.19 -/
section
def ws_X5_orders_6 : List (Int × Int) := [(6, 0), (6, 1), (6, 5), (6, 6), (35, 0), (35, 11)]
def as_X5_orders_6 : List Int := [36, 37, 38, 39, 40, 41, 42, 44, 45]
def q_X5_orders_6 (M0 M' : Mem) (r : Option PV) : Prop := St Tru ws_X5_orders_6 as_X5_orders_6 M0 M' ∧ ∃ v : Int, r = some (0, v) ∧ (-2) ≤ v ∧ v ≤ 59 ∧ (((-1) ≤ v ∧ v ≤ 1000000) → rd M' 6 6 = 0)
set_option maxRecDepth 100000 in
set_option maxHeartbeats 4000000 in
theorem sp_X5_orders_6 {l : Launch} {K : EC} {M0 : Mem} {xq : Int} (hI : In Tru M0) (hE : e_all K xq) (en_6_2 : rd M0 6 2 = 2) (en_6_3 : rd M0 6 3 = 27) (en_6_4 : rd M0 6 4 = 35) (en_6_6 : rd M0 6 6 = 0) (a1 : Int) (ha1 : (-1) ≤ a1 ∧ a1 ≤ (-1))  : Tr l K 43 mX5_orders 0 [(0, (2, 6)), (1, (0, a1))] [] M0 (q_X5_orders_6 M0) := by
  have hS : St Tru ws_X5_orders_6 as_X5_orders_6 M0 M0 := St.rf hI
  refine Tr.iconst (pc := 0) d_X5_orders_0 (by decide) ?_
  refine Tr.istore_n (pc := 1) (i := 2) (ls2 := [(2, (0, (-1))), (0, (2, 6)), (1, (0, a1))]) d_X5_orders_1 rfl (by decide) rfl ?_
  refine Tr.iconst (pc := 2) d_X5_orders_2 (by decide) ?_
  refine Tr.istore_n (pc := 3) (i := 3) (ls2 := [(3, (0, (-1))), (2, (0, (-1))), (0, (2, 6)), (1, (0, a1))]) d_X5_orders_3 rfl (by decide) rfl ?_
  refine Tr.iconst (pc := 4) d_X5_orders_4 (by decide) ?_
  refine Tr.istore (pc := 5) (i := 4) (ls2 := [(4, (0, 0)), (3, (0, (-1))), (2, (0, (-1))), (0, (2, 6)), (1, (0, a1))]) d_X5_orders_5 (by decide) rfl ?_
  have J7 : ∀ (n7 : Nat) (M : Mem) (p7_2 p7_3 p7_4 : Int), St Tru ws_X5_orders_6 as_X5_orders_6 M0 M → ((-1) ≤ p7_2 ∧ p7_2 ≤ 59) → ((-1) ≤ p7_3 ∧ p7_3 ≤ 59) → (0 ≤ p7_4 ∧ p7_4 ≤ 61) → rd M 6 6 = 0 → (61 - p7_4).toNat < n7 → Tr l K 43 mX5_orders 7 [(0, (2, 6)), (1, (0, a1)), (2, (0, p7_2)), (3, (0, p7_3)), (4, (0, p7_4))] [] M (q_X5_orders_6 M0) := by
    intro n7
    induction n7 with
    | zero => intro M p7_2 p7_3 p7_4 hS bp7_2 bp7_3 bp7_4 k7_6_6 hm7; exact absurd hm7 (Nat.not_lt_zero _)
    | succ n7 J7 =>
      intro M p7_2 p7_3 p7_4 hS bp7_2 bp7_3 bp7_4 k7_6_6 hm7
      refine Tr.iload (pc := 7) (i := 4) d_X5_orders_7 rfl ?_
      refine Tr.bipush (pc := 9) d_X5_orders_9 rfl (by decide) ?_
      refine Tr.icmp_gt (pc := 11) (tgt := 111) d_X5_orders_11 rfl (fun c11 => ?_) (fun c11 => ?_)
      · refine Tr.iload_n (pc := 111) (i := 2) d_X5_orders_111 rfl rfl ?_
        exact Tr.iret (pc := 112) d_X5_orders_112 rfl ⟨hS, _, rfl, by omega, by omega, fun _ => k7_6_6⟩
      · refine Tr.aload_n (pc := 14) (i := 0) d_X5_orders_14 rfl rfl ?_
        refine Tr.callV (pc := 15) (as := []) d_X5_orders_15 s_5_154 ok_X5_isOrder rfl rfl (Nat.le_of_ble_eq_true rfl) (Nat.le_of_ble_eq_true rfl) (by decide) (ty_6 hS.1.1) ?_
        refine Tr.imp (Tr.deep (by decide) (sp_X5_isOrder_6 hS.1 ((St.kp hS (by decide) (by decide) (by decide)).trans en_6_2))) ?_
        rintro M15 _ ⟨h15, r15, rfl, lr15, ur15⟩
        have hS := St.tr hS h15 (by decide) (by decide)
        refine Tr.sc [(0, r15)] rfl ?_
        refine Tr.if_eq (pc := 18) (tgt := 111) d_X5_orders_18 rfl (fun c18 => ?_) (fun c18 => ?_)
        · refine Tr.iload_n (pc := 111) (i := 2) d_X5_orders_111 rfl rfl ?_
          exact Tr.iret (pc := 112) d_X5_orders_112 rfl ⟨hS, _, rfl, by omega, by omega, fun _ => ((St.kp h15 (by decide) (by decide) (by decide)).trans k7_6_6)⟩
        · refine Tr.aload_n (pc := 21) (i := 0) d_X5_orders_21 rfl rfl ?_
          refine Tr.getf (pc := 22) d_X5_orders_22 f_5_32 (by decide) (by decide) (ty_6 hS.1.1) ?_
          refine Tr.tp 35 ((St.kp hS (by decide) (by decide) (by decide)).trans en_6_4) ?_
          refine Tr.getf (pc := 25) d_X5_orders_25 f_5_157 (by decide) (by decide) (ty_35 hS.1.1) ?_
          refine Tr.gen (P := fun v => 0 ≤ v ∧ v ≤ 60) (ir_35_0 hS.1.2.1) (fun r25 er25 br25 => ?_)
          refine Tr.bipush (pc := 28) d_X5_orders_28 rfl (by decide) ?_
          refine Tr.icmp_lt (pc := 30) (tgt := 42) d_X5_orders_30 rfl (fun c30 => ?_) (fun c30 => ?_)
          · refine Tr.aload_n (pc := 42) (i := 0) d_X5_orders_42 rfl rfl ?_
            refine Tr.getf (pc := 43) d_X5_orders_43 f_5_32 (by decide) (by decide) (ty_6 hS.1.1) ?_
            refine Tr.tp 35 ((St.kp hS (by decide) (by decide) (by decide)).trans en_6_4) ?_
            refine Tr.aload_n (pc := 46) (i := 0) d_X5_orders_46 rfl rfl ?_
            refine Tr.getf (pc := 47) d_X5_orders_47 f_5_18 (by decide) (by decide) (ty_6 hS.1.1) ?_
            refine Tr.tp 2 ((St.kp hS (by decide) (by decide) (by decide)).trans en_6_2) ?_
            refine Tr.getf (pc := 50) d_X5_orders_50 f_5_68 (by decide) (by decide) (ty_2 hS.1.1) ?_
            refine Tr.tp 5 (fx_2_2 hS.1.1) ?_
            refine Tr.aload_n (pc := 53) (i := 0) d_X5_orders_53 rfl rfl ?_
            refine Tr.getf (pc := 54) d_X5_orders_54 f_5_36 (by decide) (by decide) (ty_6 hS.1.1) ?_
            refine Tr.gen (P := fun v => 0 ≤ v ∧ v ≤ 900) (ir_6_5 hS.1.2.1) (fun r54 er54 br54 => ?_)
            refine Tr.iald (pc := 57) d_X5_orders_57 (ty_5 hS.1.1) (by omega) (by omega) ?_
            refine Tr.gen (P := fun v => (-2147483648) ≤ v ∧ v ≤ 2147483647) (ar_5 hS.1.2.1 _) (fun r57 er57 br57 => ?_)
            refine Tr.iload_n (pc := 58) (i := 1) d_X5_orders_58 rfl rfl ?_
            refine Tr.tp (-1) (by omega) ?_
            refine Tr.callV (pc := 59) (as := [_, _]) d_X5_orders_59 s_5_160 ok_X4_open rfl rfl (Nat.le_of_ble_eq_true rfl) (Nat.le_of_ble_eq_true rfl) (by decide) (ty_35 hS.1.1) ?_
            refine Tr.imp (Tr.deep (by decide) (sp_X4_open_35 hS.1 r57 (by omega) (-1) (by omega) (by have h9 := er25; omega))) ?_
            rintro M59 _ ⟨h59, r59, rfl, lr59, ur59⟩
            have hS := St.tr hS h59 (by decide) (by decide)
            refine Tr.sc [(0, r59)] rfl ?_
            refine Tr.istore (pc := 62) (i := 5) (ls2 := [(5, (0, r59)), (0, (2, 6)), (1, (0, a1)), (2, (0, p7_2)), (3, (0, p7_3)), (4, (0, p7_4))]) d_X5_orders_62 (by decide) rfl ?_
            refine Tr.iload_n (pc := 64) (i := 3) d_X5_orders_64 rfl rfl ?_
            have J85 : ∀ (M : Mem) (p85_2 : Int), St Tru ws_X5_orders_6 as_X5_orders_6 M0 M → ((-1) ≤ p85_2 ∧ p85_2 ≤ 59) → rd M 5 r54 = r57 → rd M 6 5 = r54 → rd M 6 6 = 0 → Tr l K 43 mX5_orders 85 [(0, (2, 6)), (1, (0, a1)), (2, (0, p85_2)), (4, (0, p7_4)), (5, (0, r59))] [] M (q_X5_orders_6 M0) := by
              intro M p85_2 hS bp85_2 k85_5_r5410 k85_6_5 k85_6_6
              refine Tr.iload (pc := 85) (i := 5) d_X5_orders_85 rfl ?_
              refine Tr.istore_n (pc := 87) (i := 3) (ls2 := [(3, (0, r59)), (0, (2, 6)), (1, (0, a1)), (2, (0, p85_2)), (4, (0, p7_4)), (5, (0, r59))]) d_X5_orders_87 rfl (by decide) rfl ?_
              refine Tr.aload_n (pc := 88) (i := 0) d_X5_orders_88 rfl rfl ?_
              refine Tr.callV (pc := 89) (as := []) d_X5_orders_89 s_5_74 ok_X5_goOn rfl rfl (Nat.le_of_ble_eq_true rfl) (Nat.le_of_ble_eq_true rfl) (by decide) (ty_6 hS.1.1) ?_
              refine Tr.imp (Tr.deep (by decide) (sp_X5_goOn_6 hS.1 )) ?_
              rintro M89 _ ⟨h89, r89, rfl, lr89, ur89⟩
              have hS := St.tr hS h89 (by decide) (by decide)
              refine Tr.sc [(0, r89)] rfl ?_
              refine Tr.pop (pc := 92) d_X5_orders_92 ne01 ?_
              refine Tr.aload_n (pc := 93) (i := 0) d_X5_orders_93 rfl rfl ?_
              refine Tr.iload (pc := 94) (i := 5) d_X5_orders_94 rfl ?_
              refine Tr.callV (pc := 96) (as := [_]) d_X5_orders_96 s_5_166 ok_X5_order rfl rfl (Nat.le_of_ble_eq_true rfl) (Nat.le_of_ble_eq_true rfl) (by decide) (ty_6 hS.1.1) ?_
              refine Tr.imp (Tr.deep (by decide) (sp_X5_order_6 hS.1 hE ((St.kp hS (by decide) (by decide) (by decide)).trans en_6_2) ((St.kp hS (by decide) (by decide) (by decide)).trans en_6_3) ((St.kp hS (by decide) (by decide) (by decide)).trans en_6_4) ((St.kp h89 (by decide) (by decide) (by decide)).trans k85_6_6) r59 (by omega))) ?_
              rintro M96 _ ⟨h96, r96, rfl, lr96, ur96, x96_6_6⟩
              have hS := St.tr hS h96 (by decide) (by decide)
              refine Tr.sc [(0, r96)] rfl ?_
              refine Tr.if_ne (pc := 99) (tgt := 105) d_X5_orders_99 rfl (fun c99 => ?_) (fun c99 => ?_)
              · refine Tr.iincV (pc := 105) (n2 := (p7_4 + 1)) (ls2 := [(4, (0, (p7_4 + 1))), (3, (0, r59)), (0, (2, 6)), (1, (0, a1)), (2, (0, p85_2)), (5, (0, r59))]) d_X5_orders_105 rfl (by decide) ((w32_id (by omega)).trans (by omega)) rfl ?_
                refine Tr.goto (pc := 108) (tgt := 7) d_X5_orders_108 rfl ?_
                refine Tr.pick [2, 3, 4, 1, 0] (ls2 := [(0, (2, 6)), (1, (0, a1)), (2, (0, p85_2)), (3, (0, r59)), (4, (0, (p7_4 + 1)))]) rfl ?_
                exact J7 _ _ _ _ hS (by omega) (by omega) (by omega) (x96_6_6 (by omega)) (by omega)
              · refine Tr.bipush (pc := 102) d_X5_orders_102 rfl (by decide) ?_
                exact Tr.iret (pc := 104) d_X5_orders_104 rfl ⟨hS, _, rfl, by omega, by omega, fun hq => absurd hq (by omega)⟩
            refine Tr.if_ge (pc := 65) (tgt := 74) d_X5_orders_65 rfl (fun c65 => ?_) (fun c65 => ?_)
            · refine Tr.aload_n (pc := 74) (i := 0) d_X5_orders_74 rfl rfl ?_
              refine Tr.getf (pc := 75) d_X5_orders_75 f_5_32 (by decide) (by decide) (ty_6 hS.1.1) ?_
              refine Tr.tp 35 ((St.kp hS (by decide) (by decide) (by decide)).trans en_6_4) ?_
              refine Tr.getf (pc := 78) d_X5_orders_78 f_5_163 (by decide) (by decide) (ty_35 hS.1.1) ?_
              refine Tr.tp 41 (fx_35_6 hS.1.1) ?_
              refine Tr.iload_n (pc := 81) (i := 3) d_X5_orders_81 rfl rfl ?_
              refine Tr.iload (pc := 82) (i := 5) d_X5_orders_82 rfl ?_
              refine Tr.iastS (pc := 84) (P := St Tru ws_X5_orders_6 as_X5_orders_6 M0) d_X5_orders_84 (ty_41 hS.1.1) (by omega) (by omega) (sa_41 hS (by decide) (by omega) trivial) (fun M84 hS w84 => ?_)
              refine Tr.pick [1, 2, 3, 5, 0] (ls2 := [(0, (2, 6)), (1, (0, a1)), (2, (0, p7_2)), (4, (0, p7_4)), (5, (0, r59))]) rfl ?_
              exact J85 _ _ hS (by omega) ((Wr.b w84 rfl).trans ((St.ka h59 (by decide) (by decide) (by decide)).trans er57)) ((Wr.b w84 rfl).trans ((St.kp h59 (by decide) (by decide) (by decide)).trans er54)) ((Wr.b w84 rfl).trans ((St.kp h59 (by decide) (by decide) (by decide)).trans ((St.kp h15 (by decide) (by decide) (by decide)).trans k7_6_6)))
            · refine Tr.iload (pc := 68) (i := 5) d_X5_orders_68 rfl ?_
              refine Tr.istore_n (pc := 70) (i := 2) (ls2 := [(2, (0, r59)), (5, (0, r59)), (0, (2, 6)), (1, (0, a1)), (3, (0, p7_3)), (4, (0, p7_4))]) d_X5_orders_70 rfl (by decide) rfl ?_
              refine Tr.goto (pc := 71) (tgt := 85) d_X5_orders_71 rfl ?_
              refine Tr.pick [2, 3, 0, 5, 1] (ls2 := [(0, (2, 6)), (1, (0, a1)), (2, (0, r59)), (4, (0, p7_4)), (5, (0, r59))]) rfl ?_
              exact J85 _ _ hS (by omega) ((St.ka h59 (by decide) (by decide) (by decide)).trans er57) ((St.kp h59 (by decide) (by decide) (by decide)).trans er54) ((St.kp h59 (by decide) (by decide) (by decide)).trans ((St.kp h15 (by decide) (by decide) (by decide)).trans k7_6_6))
          · refine Tr.aload_n (pc := 33) (i := 0) d_X5_orders_33 rfl rfl ?_
            refine Tr.iconst (pc := 34) d_X5_orders_34 (by decide) ?_
            refine Tr.callV (pc := 35) (as := [_]) d_X5_orders_35 s_5_56 ok_X5_refuse rfl rfl (Nat.le_of_ble_eq_true rfl) (Nat.le_of_ble_eq_true rfl) (by decide) (ty_6 hS.1.1) ?_
            refine Tr.imp (Tr.deep (by decide) (sp_X5_refuse_6_w2 hS.1 ((St.kp hS (by decide) (by decide) (by decide)).trans en_6_2) 5 (by omega))) ?_
            rintro M35 _ ⟨h35, r35, rfl, lr35, ur35⟩
            have hS := St.tr hS h35 (by decide) (by decide)
            refine Tr.sc [(0, r35)] rfl ?_
            refine Tr.pop (pc := 38) d_X5_orders_38 ne01 ?_
            refine Tr.bipush (pc := 39) d_X5_orders_39 rfl (by decide) ?_
            exact Tr.iret (pc := 41) d_X5_orders_41 rfl ⟨hS, _, rfl, by omega, by omega, fun hq => absurd hq (by omega)⟩
  refine Tr.pick [3, 4, 2, 1, 0] (ls2 := [(0, (2, 6)), (1, (0, a1)), (2, (0, (-1))), (3, (0, (-1))), (4, (0, 0))]) rfl ?_
  exact J7 _ _ _ _ _ hS (by omega) (by omega) (by omega) en_6_6 (Nat.lt_succ_self _)

def ws_X5_read_6_2_27 : List (Int × Int) := [(6, 0), (6, 1), (6, 2), (6, 3), (6, 4), (6, 5), (6, 6), (27, 0), (27, 1), (27, 2), (27, 3), (28, 0), (28, 1), (28, 2), (35, 0), (35, 11)]
def as_X5_read_6_2_27 : List Int := [28, 29, 30, 31, 32, 33, 34, 36, 37, 38, 39, 40, 41, 42, 43, 44, 45]
def q_X5_read_6_2_27 (M0 M' : Mem) (r : Option PV) : Prop := St Tru ws_X5_read_6_2_27 as_X5_read_6_2_27 M0 M' ∧ rd M' 6 2 = 2 ∧ rd M' 6 3 = 27 ∧ rd M' 6 4 = 35 ∧ ∃ v : Int, r = some (0, v) ∧ 0 ≤ v ∧ v ≤ 1 ∧ (v = 1 → Yn35 M')
set_option maxRecDepth 100000 in
set_option maxHeartbeats 4000000 in
theorem sp_X5_read_6_2_27 {l : Launch} {K : EC} {M0 : Mem} {xq : Int} (hI : In Tru M0) (hE : e_all K xq)    : Tr l K 44 mX5_read 0 [(0, (2, 6)), (1, (2, 2)), (2, (2, 27))] [] M0 (q_X5_read_6_2_27 M0) := by
  have hS : St Tru ws_X5_read_6_2_27 as_X5_read_6_2_27 M0 M0 := St.rf hI
  refine Tr.aload_n (pc := 0) (i := 0) d_X5_read_0 rfl rfl ?_
  refine Tr.aload_n (pc := 1) (i := 1) d_X5_read_1 rfl rfl ?_
  refine Tr.putfS (pc := 2) (P := St Tru ws_X5_read_6_2_27 as_X5_read_6_2_27 M0) d_X5_read_2 f_5_18 (by decide) (by decide) (ty_6 hS.1.1) (st_6_2 hS (by decide) (by omega) trivial) (fun M2 hS w2 => ?_)
  refine Tr.aload_n (pc := 5) (i := 0) d_X5_read_5 rfl rfl ?_
  refine Tr.aload_n (pc := 6) (i := 2) d_X5_read_6 rfl rfl ?_
  refine Tr.putfS (pc := 7) (P := St Tru ws_X5_read_6_2_27 as_X5_read_6_2_27 M0) d_X5_read_7 f_5_22 (by decide) (by decide) (ty_6 hS.1.1) (st_6_3 hS (by decide) (by omega) trivial) (fun M7 hS w7 => ?_)
  refine Tr.aload_n (pc := 10) (i := 0) d_X5_read_10 rfl rfl ?_
  refine Tr.aload_n (pc := 11) (i := 2) d_X5_read_11 rfl rfl ?_
  refine Tr.getf (pc := 12) d_X5_read_12 f_5_26 (by decide) (by decide) (ty_27 hS.1.1) ?_
  refine Tr.tp 35 (fx_27_11 hS.1.1) ?_
  refine Tr.putfS (pc := 15) (P := St Tru ws_X5_read_6_2_27 as_X5_read_6_2_27 M0) d_X5_read_15 f_5_32 (by decide) (by decide) (ty_6 hS.1.1) (st_6_4 hS (by decide) (by omega) trivial) (fun M15 hS w15 => ?_)
  refine Tr.aload_n (pc := 18) (i := 0) d_X5_read_18 rfl rfl ?_
  refine Tr.getf (pc := 19) d_X5_read_19 f_5_22 (by decide) (by decide) (ty_6 hS.1.1) ?_
  refine Tr.tp 27 ((Wr.b w15 rfl).trans w7.1) ?_
  refine Tr.callV (pc := 22) (as := []) d_X5_read_22 s_5_33 ok_X3_clear rfl rfl (Nat.le_of_ble_eq_true rfl) (Nat.le_of_ble_eq_true rfl) (by decide) (ty_27 hS.1.1) ?_
  refine Tr.imp (Tr.deep (by decide) (sp_X3_clear_27 hS.1 )) ?_
  rintro M22 _ ⟨h22, rfl⟩
  have hS := St.tr hS h22 (by decide) (by decide)
  refine Tr.sc [] rfl ?_
  refine Tr.aload_n (pc := 25) (i := 0) d_X5_read_25 rfl rfl ?_
  refine Tr.iconst (pc := 26) d_X5_read_26 (by decide) ?_
  refine Tr.putfS (pc := 27) (P := St Tru ws_X5_read_6_2_27 as_X5_read_6_2_27 M0) d_X5_read_27 f_5_36 (by decide) (by decide) (ty_6 hS.1.1) (st_6_5 hS (by decide) (by omega) trivial) (fun M27 hS w27 => ?_)
  refine Tr.aload_n (pc := 30) (i := 0) d_X5_read_30 rfl rfl ?_
  refine Tr.iconst (pc := 31) d_X5_read_31 (by decide) ?_
  refine Tr.putfS (pc := 32) (P := St Tru ws_X5_read_6_2_27 as_X5_read_6_2_27 M0) d_X5_read_32 f_5_39 (by decide) (by decide) (ty_6 hS.1.1) (st_6_6 hS (by decide) (by omega) trivial) (fun M32 hS w32 => ?_)
  refine Tr.aload_n (pc := 35) (i := 0) d_X5_read_35 rfl rfl ?_
  refine Tr.iconst (pc := 36) d_X5_read_36 (by decide) ?_
  refine Tr.putfS (pc := 37) (P := St Tru ws_X5_read_6_2_27 as_X5_read_6_2_27 M0) d_X5_read_37 f_5_9 (by decide) (by decide) (ty_6 hS.1.1) (st_6_0 hS (by decide) (by omega) trivial) (fun M37 hS w37 => ?_)
  refine Tr.aload_n (pc := 40) (i := 0) d_X5_read_40 rfl rfl ?_
  refine Tr.iconst (pc := 41) d_X5_read_41 (by decide) ?_
  refine Tr.putfS (pc := 42) (P := St Tru ws_X5_read_6_2_27 as_X5_read_6_2_27 M0) d_X5_read_42 f_5_15 (by decide) (by decide) (ty_6 hS.1.1) (st_6_1 hS (by decide) (by omega) trivial) (fun M42 hS w42 => ?_)
  refine Tr.aload_n (pc := 45) (i := 0) d_X5_read_45 rfl rfl ?_
  refine Tr.callV (pc := 46) (as := []) d_X5_read_46 s_5_42 ok_X5_declarations rfl rfl (Nat.le_of_ble_eq_true rfl) (Nat.le_of_ble_eq_true rfl) (by decide) (ty_6 hS.1.1) ?_
  refine Tr.imp (Tr.deep (by decide) (sp_X5_declarations_6 hS.1 hE ((Wr.b w42 rfl).trans ((Wr.b w37 rfl).trans ((Wr.b w32 rfl).trans ((Wr.b w27 rfl).trans ((St.kp h22 (by decide) (by decide) (by decide)).trans ((Wr.b w15 rfl).trans ((Wr.b w7 rfl).trans w2.1))))))) ((Wr.b w42 rfl).trans ((Wr.b w37 rfl).trans ((Wr.b w32 rfl).trans ((Wr.b w27 rfl).trans ((St.kp h22 (by decide) (by decide) (by decide)).trans ((Wr.b w15 rfl).trans w7.1)))))))) ?_
  rintro M46 _ ⟨h46, r46, rfl, lr46, ur46⟩
  have hS := St.tr hS h46 (by decide) (by decide)
  refine Tr.sc [(0, r46)] rfl ?_
  refine Tr.if_eq (pc := 49) (tgt := 62) d_X5_read_49 rfl (fun c49 => ?_) (fun c49 => ?_)
  · refine Tr.iconst (pc := 62) d_X5_read_62 (by decide) ?_
    exact Tr.zret (pc := 63) d_X5_read_63 rfl (by omega) ⟨hS, ((St.kp h46 (by decide) (by decide) (by decide)).trans ((Wr.b w42 rfl).trans ((Wr.b w37 rfl).trans ((Wr.b w32 rfl).trans ((Wr.b w27 rfl).trans ((St.kp h22 (by decide) (by decide) (by decide)).trans ((Wr.b w15 rfl).trans ((Wr.b w7 rfl).trans w2.1)))))))), ((St.kp h46 (by decide) (by decide) (by decide)).trans ((Wr.b w42 rfl).trans ((Wr.b w37 rfl).trans ((Wr.b w32 rfl).trans ((Wr.b w27 rfl).trans ((St.kp h22 (by decide) (by decide) (by decide)).trans ((Wr.b w15 rfl).trans w7.1))))))), ((St.kp h46 (by decide) (by decide) (by decide)).trans ((Wr.b w42 rfl).trans ((Wr.b w37 rfl).trans ((Wr.b w32 rfl).trans ((Wr.b w27 rfl).trans ((St.kp h22 (by decide) (by decide) (by decide)).trans w15.1)))))), _, rfl, by omega, by omega, (fun hv => absurd hv (by omega))⟩
  · refine Tr.aload_n (pc := 52) (i := 0) d_X5_read_52 rfl rfl ?_
    refine Tr.iconst (pc := 53) d_X5_read_53 (by decide) ?_
    refine Tr.callV (pc := 54) (as := [_]) d_X5_read_54 s_5_46 ok_X5_orders rfl rfl (Nat.le_of_ble_eq_true rfl) (Nat.le_of_ble_eq_true rfl) (by decide) (ty_6 hS.1.1) ?_
    refine Tr.imp (Tr.deep (by decide) (sp_X5_orders_6 hS.1 hE ((St.kp h46 (by decide) (by decide) (by decide)).trans ((Wr.b w42 rfl).trans ((Wr.b w37 rfl).trans ((Wr.b w32 rfl).trans ((Wr.b w27 rfl).trans ((St.kp h22 (by decide) (by decide) (by decide)).trans ((Wr.b w15 rfl).trans ((Wr.b w7 rfl).trans w2.1)))))))) ((St.kp h46 (by decide) (by decide) (by decide)).trans ((Wr.b w42 rfl).trans ((Wr.b w37 rfl).trans ((Wr.b w32 rfl).trans ((Wr.b w27 rfl).trans ((St.kp h22 (by decide) (by decide) (by decide)).trans ((Wr.b w15 rfl).trans w7.1))))))) ((St.kp h46 (by decide) (by decide) (by decide)).trans ((Wr.b w42 rfl).trans ((Wr.b w37 rfl).trans ((Wr.b w32 rfl).trans ((Wr.b w27 rfl).trans ((St.kp h22 (by decide) (by decide) (by decide)).trans w15.1)))))) ((St.kp h46 (by decide) (by decide) (by decide)).trans ((Wr.b w42 rfl).trans ((Wr.b w37 rfl).trans w32.1))) (-1) (by omega))) ?_
    rintro M54 _ ⟨h54, r54, rfl, lr54, ur54, x54_6_6⟩
    have hS := St.tr hS h54 (by decide) (by decide)
    refine Tr.sc [(0, r54)] rfl ?_
    refine Tr.bipush (pc := 57) d_X5_read_57 rfl (by decide) ?_
    refine Tr.icmp_ne (pc := 59) (tgt := 64) d_X5_read_59 rfl (fun c59 => ?_) (fun c59 => ?_)
    · refine Tr.aload_n (pc := 64) (i := 0) d_X5_read_64 rfl rfl ?_
      refine Tr.getf (pc := 65) d_X5_read_65 f_5_18 (by decide) (by decide) (ty_6 hS.1.1) ?_
      refine Tr.tp 2 ((St.kp h54 (by decide) (by decide) (by decide)).trans ((St.kp h46 (by decide) (by decide) (by decide)).trans ((Wr.b w42 rfl).trans ((Wr.b w37 rfl).trans ((Wr.b w32 rfl).trans ((Wr.b w27 rfl).trans ((St.kp h22 (by decide) (by decide) (by decide)).trans ((Wr.b w15 rfl).trans ((Wr.b w7 rfl).trans w2.1))))))))) ?_
      refine Tr.getf (pc := 68) d_X5_read_68 f_5_50 (by decide) (by decide) (ty_2 hS.1.1) ?_
      refine Tr.tp 3 (fx_2_0 hS.1.1) ?_
      refine Tr.aload_n (pc := 71) (i := 0) d_X5_read_71 rfl rfl ?_
      refine Tr.getf (pc := 72) d_X5_read_72 f_5_36 (by decide) (by decide) (ty_6 hS.1.1) ?_
      refine Tr.gen (P := fun v => 0 ≤ v ∧ v ≤ 900) (ir_6_5 hS.1.2.1) (fun r72 er72 br72 => ?_)
      refine Tr.iald (pc := 75) d_X5_read_75 (ty_3 hS.1.1) (by omega) (by omega) ?_
      refine Tr.gen (P := fun v => (-2147483648) ≤ v ∧ v ≤ 2147483647) (ar_3 hS.1.2.1 _) (fun r75 er75 br75 => ?_)
      refine Tr.if_eq (pc := 76) (tgt := 85) d_X5_read_76 rfl (fun c76 => ?_) (fun c76 => ?_)
      · refine Tr.aload_n (pc := 85) (i := 0) d_X5_read_85 rfl rfl ?_
        refine Tr.getf (pc := 86) d_X5_read_86 f_5_32 (by decide) (by decide) (ty_6 hS.1.1) ?_
        refine Tr.tp 35 ((St.kp h54 (by decide) (by decide) (by decide)).trans ((St.kp h46 (by decide) (by decide) (by decide)).trans ((Wr.b w42 rfl).trans ((Wr.b w37 rfl).trans ((Wr.b w32 rfl).trans ((Wr.b w27 rfl).trans ((St.kp h22 (by decide) (by decide) (by decide)).trans w15.1))))))) ?_
        refine Tr.callV (pc := 89) (as := []) d_X5_read_89 s_5_60 ok_X4_link rfl rfl (Nat.le_of_ble_eq_true rfl) (Nat.le_of_ble_eq_true rfl) (by decide) (ty_35 hS.1.1) ?_
        refine Tr.imp (Tr.deep (by decide) (sp_X4_link_35 hS.1 )) ?_
        rintro M89 _ ⟨h89, rfl, f89_Y35⟩
        have hS := St.tr hS h89 (by decide) (by decide)
        refine Tr.sc [] rfl ?_
        refine Tr.iconst (pc := 92) d_X5_read_92 (by decide) ?_
        exact Tr.zret (pc := 93) d_X5_read_93 rfl (by omega) ⟨hS, ((St.kp h89 (by decide) (by decide) (by decide)).trans ((St.kp h54 (by decide) (by decide) (by decide)).trans ((St.kp h46 (by decide) (by decide) (by decide)).trans ((Wr.b w42 rfl).trans ((Wr.b w37 rfl).trans ((Wr.b w32 rfl).trans ((Wr.b w27 rfl).trans ((St.kp h22 (by decide) (by decide) (by decide)).trans ((Wr.b w15 rfl).trans ((Wr.b w7 rfl).trans w2.1)))))))))), ((St.kp h89 (by decide) (by decide) (by decide)).trans ((St.kp h54 (by decide) (by decide) (by decide)).trans ((St.kp h46 (by decide) (by decide) (by decide)).trans ((Wr.b w42 rfl).trans ((Wr.b w37 rfl).trans ((Wr.b w32 rfl).trans ((Wr.b w27 rfl).trans ((St.kp h22 (by decide) (by decide) (by decide)).trans ((Wr.b w15 rfl).trans w7.1))))))))), ((St.kp h89 (by decide) (by decide) (by decide)).trans ((St.kp h54 (by decide) (by decide) (by decide)).trans ((St.kp h46 (by decide) (by decide) (by decide)).trans ((Wr.b w42 rfl).trans ((Wr.b w37 rfl).trans ((Wr.b w32 rfl).trans ((Wr.b w27 rfl).trans ((St.kp h22 (by decide) (by decide) (by decide)).trans w15.1)))))))), _, rfl, by omega, by omega, (fun _ => f89_Y35)⟩
      · refine Tr.aload_n (pc := 79) (i := 0) d_X5_read_79 rfl rfl ?_
        refine Tr.iconst (pc := 80) d_X5_read_80 (by decide) ?_
        refine Tr.callV (pc := 81) (as := [_]) d_X5_read_81 s_5_56 ok_X5_refuse rfl rfl (Nat.le_of_ble_eq_true rfl) (Nat.le_of_ble_eq_true rfl) (by decide) (ty_6 hS.1.1) ?_
        refine Tr.imp (Tr.deep (by decide) (sp_X5_refuse_6_w1 hS.1 ((St.kp h54 (by decide) (by decide) (by decide)).trans ((St.kp h46 (by decide) (by decide) (by decide)).trans ((Wr.b w42 rfl).trans ((Wr.b w37 rfl).trans ((Wr.b w32 rfl).trans ((Wr.b w27 rfl).trans ((St.kp h22 (by decide) (by decide) (by decide)).trans ((Wr.b w15 rfl).trans ((Wr.b w7 rfl).trans w2.1))))))))) 1 (by omega))) ?_
        rintro M81 _ ⟨h81, r81, rfl, lr81, ur81⟩
        have hS := St.tr hS h81 (by decide) (by decide)
        refine Tr.sc [(0, r81)] rfl ?_
        exact Tr.zret (pc := 84) d_X5_read_84 rfl (by omega) ⟨hS, ((St.kp h81 (by decide) (by decide) (by decide)).trans ((St.kp h54 (by decide) (by decide) (by decide)).trans ((St.kp h46 (by decide) (by decide) (by decide)).trans ((Wr.b w42 rfl).trans ((Wr.b w37 rfl).trans ((Wr.b w32 rfl).trans ((Wr.b w27 rfl).trans ((St.kp h22 (by decide) (by decide) (by decide)).trans ((Wr.b w15 rfl).trans ((Wr.b w7 rfl).trans w2.1)))))))))), ((St.kp h81 (by decide) (by decide) (by decide)).trans ((St.kp h54 (by decide) (by decide) (by decide)).trans ((St.kp h46 (by decide) (by decide) (by decide)).trans ((Wr.b w42 rfl).trans ((Wr.b w37 rfl).trans ((Wr.b w32 rfl).trans ((Wr.b w27 rfl).trans ((St.kp h22 (by decide) (by decide) (by decide)).trans ((Wr.b w15 rfl).trans w7.1))))))))), ((St.kp h81 (by decide) (by decide) (by decide)).trans ((St.kp h54 (by decide) (by decide) (by decide)).trans ((St.kp h46 (by decide) (by decide) (by decide)).trans ((Wr.b w42 rfl).trans ((Wr.b w37 rfl).trans ((Wr.b w32 rfl).trans ((Wr.b w27 rfl).trans ((St.kp h22 (by decide) (by decide) (by decide)).trans w15.1)))))))), _, rfl, by omega, by omega, (fun hv => absurd hv (by omega))⟩
    · refine Tr.iconst (pc := 62) d_X5_read_62 (by decide) ?_
      exact Tr.zret (pc := 63) d_X5_read_63 rfl (by omega) ⟨hS, ((St.kp h54 (by decide) (by decide) (by decide)).trans ((St.kp h46 (by decide) (by decide) (by decide)).trans ((Wr.b w42 rfl).trans ((Wr.b w37 rfl).trans ((Wr.b w32 rfl).trans ((Wr.b w27 rfl).trans ((St.kp h22 (by decide) (by decide) (by decide)).trans ((Wr.b w15 rfl).trans ((Wr.b w7 rfl).trans w2.1))))))))), ((St.kp h54 (by decide) (by decide) (by decide)).trans ((St.kp h46 (by decide) (by decide) (by decide)).trans ((Wr.b w42 rfl).trans ((Wr.b w37 rfl).trans ((Wr.b w32 rfl).trans ((Wr.b w27 rfl).trans ((St.kp h22 (by decide) (by decide) (by decide)).trans ((Wr.b w15 rfl).trans w7.1)))))))), ((St.kp h54 (by decide) (by decide) (by decide)).trans ((St.kp h46 (by decide) (by decide) (by decide)).trans ((Wr.b w42 rfl).trans ((Wr.b w37 rfl).trans ((Wr.b w32 rfl).trans ((Wr.b w27 rfl).trans ((St.kp h22 (by decide) (by decide) (by decide)).trans w15.1))))))), _, rfl, by omega, by omega, (fun hv => absurd hv (by omega))⟩

def ws_X11_text_0 : List (Int × Int) := [(0, 1), (0, 4), (0, 5), (0, 9), (2, 3), (2, 4), (2, 5), (6, 0), (6, 1), (6, 2), (6, 3), (6, 4), (6, 5), (6, 6), (27, 0), (27, 1), (27, 2), (27, 3), (28, 0), (28, 1), (28, 2), (35, 0), (35, 11), (103, 0), (107, 0), (107, 1)]
def as_X11_text_0 : List Int := [3, 4, 5, 28, 29, 30, 31, 32, 33, 34, 36, 37, 38, 39, 40, 41, 42, 43, 44, 45, 47]
def q_X11_text_0 (M0 M' : Mem) (r : Option PV) : Prop := St Tru ws_X11_text_0 as_X11_text_0 M0 M' ∧ rd M' 2 4 = 1 ∧ rd M' 6 2 = 2 ∧ rd M' 6 3 = 27 ∧ rd M' 6 4 = 35 ∧ ∃ v : Int, r = some (0, v) ∧ (-1) ≤ v ∧ v ≤ 60 ∧ (rd M' 0 1 = 0) ∧ ((v = -1 ∧ rd M' 0 4 = 7 ∧ rd M' 0 5 = 27 ∧ rd M' 0 9 = rd M0 0 9) ∨ (0 ≤ v ∧ rd M' 0 4 = 27 ∧ rd M' 0 5 = 7 ∧ rd M' 0 9 = 0)) ∧ (0 ≤ v → Yn35 M')
set_option maxRecDepth 100000 in
set_option maxHeartbeats 4000000 in
theorem sp_X11_text_0 {l : Launch} {K : EC} {M0 : Mem} {xq : Int} (hI : In Tru M0) (hE : e_all K xq) (en_0_4 : rd M0 0 4 = 7) (en_0_5 : rd M0 0 5 = 27)   : Tr l K 45 mX11_text 0 [(0, (2, 0))] [] M0 (q_X11_text_0 M0) := by
  have hS : St Tru ws_X11_text_0 as_X11_text_0 M0 M0 := St.rf hI
  obtain ⟨g0_1, eg0_1⟩ : ∃ v, rd M0 0 1 = v := ⟨_, rfl⟩
  have bg0_1 : 0 ≤ g0_1 ∧ g0_1 ≤ 900 := by rw [← eg0_1]; exact ir_0_1 hI.2.1
  obtain ⟨g0_9, eg0_9⟩ : ∃ v, rd M0 0 9 = v := ⟨_, rfl⟩
  have bg0_9 : 0 ≤ g0_9 ∧ g0_9 ≤ 1 := by rw [← eg0_9]; exact ir_0_9 hI.2.1
  refine Tr.aload_n (pc := 0) (i := 0) d_X11_text_0 rfl rfl ?_
  refine Tr.getf (pc := 1) d_X11_text_1 f_11_16 (by decide) (by decide) (ty_0 hS.1.1) ?_
  refine Tr.tp 2 (fx_0_2 hS.1.1) ?_
  refine Tr.aload_n (pc := 4) (i := 0) d_X11_text_4 rfl rfl ?_
  refine Tr.getf (pc := 5) d_X11_text_5 f_11_9 (by decide) (by decide) (ty_0 hS.1.1) ?_
  refine Tr.tp 1 (fx_0_0 hS.1.1) ?_
  refine Tr.aload_n (pc := 8) (i := 0) d_X11_text_8 rfl rfl ?_
  refine Tr.getf (pc := 9) d_X11_text_9 f_11_84 (by decide) (by decide) (ty_0 hS.1.1) ?_
  refine Tr.tp g0_1 eg0_1 ?_
  refine Tr.callV (pc := 12) (as := [_, _]) d_X11_text_12 s_11_92 ok_X7_takeApart rfl rfl (Nat.le_of_ble_eq_true rfl) (Nat.le_of_ble_eq_true rfl) (by decide) (ty_2 hS.1.1) ?_
  refine Tr.imp (Tr.deep (by decide) (sp_X7_takeApart_2_1 hS.1 hE g0_1 (by omega))) ?_
  rintro M12 _ ⟨h12, o12_2_4, rfl⟩
  have hS := St.tr hS h12 (by decide) (by decide)
  refine Tr.sc [] rfl ?_
  refine Tr.aload_n (pc := 15) (i := 0) d_X11_text_15 rfl rfl ?_
  refine Tr.iconst (pc := 16) d_X11_text_16 (by decide) ?_
  refine Tr.putfS (pc := 17) (P := St Tru ws_X11_text_0 as_X11_text_0 M0) d_X11_text_17 f_11_84 (by decide) (by decide) (ty_0 hS.1.1) (st_0_1 hS (by decide) (by omega) trivial) (fun M17 hS w17 => ?_)
  refine Tr.aload_n (pc := 20) (i := 0) d_X11_text_20 rfl rfl ?_
  refine Tr.getf (pc := 21) d_X11_text_21 f_11_23 (by decide) (by decide) (ty_0 hS.1.1) ?_
  refine Tr.tp 6 (fx_0_3 hS.1.1) ?_
  refine Tr.aload_n (pc := 24) (i := 0) d_X11_text_24 rfl rfl ?_
  refine Tr.getf (pc := 25) d_X11_text_25 f_11_16 (by decide) (by decide) (ty_0 hS.1.1) ?_
  refine Tr.tp 2 (fx_0_2 hS.1.1) ?_
  refine Tr.aload_n (pc := 28) (i := 0) d_X11_text_28 rfl rfl ?_
  refine Tr.getf (pc := 29) d_X11_text_29 f_11_34 (by decide) (by decide) (ty_0 hS.1.1) ?_
  refine Tr.tp 27 ((Wr.b w17 rfl).trans ((St.kp h12 (by decide) (by decide) (by decide)).trans en_0_5)) ?_
  refine Tr.callV (pc := 32) (as := [_, _]) d_X11_text_32 s_11_96 ok_X5_read rfl rfl (Nat.le_of_ble_eq_true rfl) (Nat.le_of_ble_eq_true rfl) (by decide) (ty_6 hS.1.1) ?_
  refine Tr.imp (Tr.deep (by decide) (sp_X5_read_6_2_27 hS.1 hE )) ?_
  rintro M32 _ ⟨h32, o32_6_2, o32_6_3, o32_6_4, r32, rfl, lr32, ur32, f32_Y35⟩
  have hS := St.tr hS h32 (by decide) (by decide)
  refine Tr.sc [(0, r32)] rfl ?_
  refine Tr.if_ne (pc := 35) (tgt := 40) d_X11_text_35 rfl (fun c35 => ?_) (fun c35 => ?_)
  · refine Tr.aload_n (pc := 40) (i := 0) d_X11_text_40 rfl rfl ?_
    refine Tr.getf (pc := 41) d_X11_text_41 f_11_30 (by decide) (by decide) (ty_0 hS.1.1) ?_
    refine Tr.tp 7 ((St.kp h32 (by decide) (by decide) (by decide)).trans ((Wr.b w17 rfl).trans ((St.kp h12 (by decide) (by decide) (by decide)).trans en_0_4))) ?_
    refine Tr.astore_n (pc := 44) (i := 1) (ls2 := [(1, (2, 7)), (0, (2, 0))]) d_X11_text_44 rfl (by decide) rfl ?_
    refine Tr.aload_n (pc := 45) (i := 0) d_X11_text_45 rfl rfl ?_
    refine Tr.aload_n (pc := 46) (i := 0) d_X11_text_46 rfl rfl ?_
    refine Tr.getf (pc := 47) d_X11_text_47 f_11_34 (by decide) (by decide) (ty_0 hS.1.1) ?_
    refine Tr.tp 27 ((St.kp h32 (by decide) (by decide) (by decide)).trans ((Wr.b w17 rfl).trans ((St.kp h12 (by decide) (by decide) (by decide)).trans en_0_5))) ?_
    refine Tr.putfS (pc := 50) (P := St Tru ws_X11_text_0 as_X11_text_0 M0) d_X11_text_50 f_11_30 (by decide) (by decide) (ty_0 hS.1.1) (st_0_4 hS (by decide) (by omega) trivial) (fun M50 hS w50 => ?_)
    refine Tr.aload_n (pc := 53) (i := 0) d_X11_text_53 rfl rfl ?_
    refine Tr.aload_n (pc := 54) (i := 1) d_X11_text_54 rfl rfl ?_
    refine Tr.putfS (pc := 55) (P := St Tru ws_X11_text_0 as_X11_text_0 M0) d_X11_text_55 f_11_34 (by decide) (by decide) (ty_0 hS.1.1) (st_0_5 hS (by decide) (by omega) trivial) (fun M55 hS w55 => ?_)
    refine Tr.aload_n (pc := 58) (i := 0) d_X11_text_58 rfl rfl ?_
    refine Tr.getf (pc := 59) d_X11_text_59 f_11_30 (by decide) (by decide) (ty_0 hS.1.1) ?_
    refine Tr.tp 27 ((Wr.b w55 rfl).trans w50.1) ?_
    refine Tr.getf (pc := 62) d_X11_text_62 f_11_100 (by decide) (by decide) (ty_27 hS.1.1) ?_
    refine Tr.tp 32 (fx_27_8 hS.1.1) ?_
    refine Tr.iconst (pc := 65) d_X11_text_65 (by decide) ?_
    refine Tr.aload_n (pc := 66) (i := 0) d_X11_text_66 rfl rfl ?_
    refine Tr.getf (pc := 67) d_X11_text_67 f_11_37 (by decide) (by decide) (ty_0 hS.1.1) ?_
    refine Tr.tp 47 (fx_0_6 hS.1.1) ?_
    refine Tr.iconst (pc := 70) d_X11_text_70 (by decide) ?_
    refine Tr.iconst (pc := 71) d_X11_text_71 (by decide) ?_
    refine Tr.acopyS (pc := 72) (x := 32) (y := 47) (P := St Tru ws_X11_text_0 as_X11_text_0 M0) d_X11_text_72 ac_11_103 acw.1 acw.2.1 acw.2.2 (ty_32 hS.1.1) (ty_47 hS.1.1) (by omega) (by omega) (by omega) (by omega) (by omega) (Nat.le_of_ble_eq_true rfl) (sw_47 hS (by decide) rfl rfl rfl (fun z i hz => by rw [rd_cpy, if_neg (fun c => hz c.1)]) (fun i => by rw [rd_cpy]; split; exact And.intro (by have := ar_32 hS.1.2.1 (0 + (i - 0)); omega) (by have := ar_32 hS.1.2.1 (0 + (i - 0)); omega); exact ar_47 hS.1.2.1 i) trivial) (fun M72 hS w72 => ?_)
    refine Tr.aload_n (pc := 75) (i := 0) d_X11_text_75 rfl rfl ?_
    refine Tr.iconst (pc := 76) d_X11_text_76 (by decide) ?_
    refine Tr.putzS (pc := 77) (P := St Tru ws_X11_text_0 as_X11_text_0 M0) d_X11_text_77 f_11_109 (by decide) (ty_0 hS.1.1) (by omega) (st_0_9 hS (by decide) (by omega) trivial) (fun M77 hS w77 => ?_)
    refine Tr.aload_n (pc := 80) (i := 0) d_X11_text_80 rfl rfl ?_
    refine Tr.getf (pc := 81) d_X11_text_81 f_11_63 (by decide) (by decide) (ty_0 hS.1.1) ?_
    refine Tr.tp 103 (fx_0_11 hS.1.1) ?_
    refine Tr.callV (pc := 84) (as := []) d_X11_text_84 s_11_113 ok_X10_clear rfl rfl (Nat.le_of_ble_eq_true rfl) (Nat.le_of_ble_eq_true rfl) (by decide) (ty_103 hS.1.1) ?_
    refine Tr.imp (Tr.deep (by decide) (sp_X10_clear_103 hS.1 )) ?_
    rintro M84 _ ⟨h84, rfl⟩
    have hS := St.tr hS h84 (by decide) (by decide)
    refine Tr.sc [] rfl ?_
    refine Tr.aload_n (pc := 87) (i := 0) d_X11_text_87 rfl rfl ?_
    refine Tr.getf (pc := 88) d_X11_text_88 f_11_70 (by decide) (by decide) (ty_0 hS.1.1) ?_
    refine Tr.tp 107 (fx_0_12 hS.1.1) ?_
    refine Tr.callV (pc := 91) (as := []) d_X11_text_91 s_11_114 ok_X2_clear rfl rfl (Nat.le_of_ble_eq_true rfl) (Nat.le_of_ble_eq_true rfl) (by decide) (ty_107 hS.1.1) ?_
    refine Tr.imp (Tr.deep (by decide) (sp_X2_clear_107 hS.1 )) ?_
    rintro M91 _ ⟨h91, rfl⟩
    have hS := St.tr hS h91 (by decide) (by decide)
    refine Tr.sc [] rfl ?_
    refine Tr.aload_n (pc := 94) (i := 0) d_X11_text_94 rfl rfl ?_
    refine Tr.getf (pc := 95) d_X11_text_95 f_11_30 (by decide) (by decide) (ty_0 hS.1.1) ?_
    refine Tr.tp 27 ((St.kp h91 (by decide) (by decide) (by decide)).trans ((St.kp h84 (by decide) (by decide) (by decide)).trans ((Wr.b w77 rfl).trans ((Wa.b w72 rfl).trans ((Wr.b w55 rfl).trans w50.1))))) ?_
    refine Tr.getf (pc := 98) d_X11_text_98 f_11_115 (by decide) (by decide) (ty_27 hS.1.1) ?_
    refine Tr.tp 35 (fx_27_11 hS.1.1) ?_
    refine Tr.getf (pc := 101) d_X11_text_101 f_11_119 (by decide) (by decide) (ty_35 hS.1.1) ?_
    refine Tr.gen (P := fun v => 0 ≤ v ∧ v ≤ 60) (ir_35_0 hS.1.2.1) (fun r101 er101 br101 => ?_)
    have kr_0_1 : rd M91 0 1 = 0 := ((St.kp h91 (by decide) (by decide) (by decide)).trans ((St.kp h84 (by decide) (by decide) (by decide)).trans ((Wr.b w77 rfl).trans ((Wa.b w72 rfl).trans ((Wr.b w55 rfl).trans ((Wr.b w50 rfl).trans ((St.kp h32 (by decide) (by decide) (by decide)).trans w17.1)))))))
    have kr_0_4 : rd M91 0 4 = 27 := ((St.kp h91 (by decide) (by decide) (by decide)).trans ((St.kp h84 (by decide) (by decide) (by decide)).trans ((Wr.b w77 rfl).trans ((Wa.b w72 rfl).trans ((Wr.b w55 rfl).trans w50.1)))))
    have kr_0_5 : rd M91 0 5 = 7 := ((St.kp h91 (by decide) (by decide) (by decide)).trans ((St.kp h84 (by decide) (by decide) (by decide)).trans ((Wr.b w77 rfl).trans ((Wa.b w72 rfl).trans w55.1))))
    have kr_0_9 : rd M91 0 9 = 0 := ((St.kp h91 (by decide) (by decide) (by decide)).trans ((St.kp h84 (by decide) (by decide) (by decide)).trans w77.1))
    exact Tr.iret (pc := 104) d_X11_text_104 rfl ⟨hS, ((St.kp h91 (by decide) (by decide) (by decide)).trans ((St.kp h84 (by decide) (by decide) (by decide)).trans ((Wr.b w77 rfl).trans ((Wa.b w72 rfl).trans ((Wr.b w55 rfl).trans ((Wr.b w50 rfl).trans ((St.kp h32 (by decide) (by decide) (by decide)).trans ((Wr.b w17 rfl).trans o12_2_4)))))))), ((St.kp h91 (by decide) (by decide) (by decide)).trans ((St.kp h84 (by decide) (by decide) (by decide)).trans ((Wr.b w77 rfl).trans ((Wa.b w72 rfl).trans ((Wr.b w55 rfl).trans ((Wr.b w50 rfl).trans o32_6_2)))))), ((St.kp h91 (by decide) (by decide) (by decide)).trans ((St.kp h84 (by decide) (by decide) (by decide)).trans ((Wr.b w77 rfl).trans ((Wa.b w72 rfl).trans ((Wr.b w55 rfl).trans ((Wr.b w50 rfl).trans o32_6_3)))))), ((St.kp h91 (by decide) (by decide) (by decide)).trans ((St.kp h84 (by decide) (by decide) (by decide)).trans ((Wr.b w77 rfl).trans ((Wa.b w72 rfl).trans ((Wr.b w55 rfl).trans ((Wr.b w50 rfl).trans o32_6_4)))))), _, rfl, by omega, by omega, by omega, by omega, (fun _ => (Yn35.of (f32_Y35 (by omega)) (fun j => ((St.ka h91 (by decide) (by decide) (by decide)).trans ((St.ka h84 (by decide) (by decide) (by decide)).trans ((Wr.b w77 rfl).trans ((Wa.b w72 rfl).trans ((Wr.b w55 rfl).trans ((Wr.b w50 rfl).trans rfl))))))) (fun j => ((St.ka h91 (by decide) (by decide) (by decide)).trans ((St.ka h84 (by decide) (by decide) (by decide)).trans ((Wr.b w77 rfl).trans ((Wa.b w72 rfl).trans ((Wr.b w55 rfl).trans ((Wr.b w50 rfl).trans rfl))))))) ((St.kp h91 (by decide) (by decide) (by decide)).trans ((St.kp h84 (by decide) (by decide) (by decide)).trans ((Wr.b w77 rfl).trans ((Wa.b w72 rfl).trans ((Wr.b w55 rfl).trans ((Wr.b w50 rfl).trans rfl))))))))⟩
  · refine Tr.iconst (pc := 38) d_X11_text_38 (by decide) ?_
    have kr_0_1 : rd M32 0 1 = 0 := ((St.kp h32 (by decide) (by decide) (by decide)).trans w17.1)
    have kr_0_4 : rd M32 0 4 = 7 := ((St.kp h32 (by decide) (by decide) (by decide)).trans ((Wr.b w17 rfl).trans ((St.kp h12 (by decide) (by decide) (by decide)).trans en_0_4)))
    have kr_0_5 : rd M32 0 5 = 27 := ((St.kp h32 (by decide) (by decide) (by decide)).trans ((Wr.b w17 rfl).trans ((St.kp h12 (by decide) (by decide) (by decide)).trans en_0_5)))
    have kr_0_9 : rd M32 0 9 = g0_9 := ((St.kp h32 (by decide) (by decide) (by decide)).trans ((Wr.b w17 rfl).trans ((St.kp h12 (by decide) (by decide) (by decide)).trans eg0_9)))
    exact Tr.iret (pc := 39) d_X11_text_39 rfl ⟨hS, ((St.kp h32 (by decide) (by decide) (by decide)).trans ((Wr.b w17 rfl).trans o12_2_4)), o32_6_2, o32_6_3, o32_6_4, _, rfl, by omega, by omega, by omega, by omega, (fun hv => absurd hv (by omega))⟩
end
/-! 35.00 -/
section
def mX12_feed : MD := (12, yX12_feed, cX12_feed, 6, some .int)
theorem d_X12_feed_0 : decode mX12_feed.2.2.1 0 = .ok (.aload_n 0, 1) := by decide +kernel
theorem d_X12_feed_1 : decode mX12_feed.2.2.1 1 = .ok (.getfield 13, 3) := by decide +kernel
theorem d_X12_feed_4 : decode mX12_feed.2.2.1 4 = .ok (.bipush 20, 2) := by decide +kernel
theorem d_X12_feed_6 : decode mX12_feed.2.2.1 6 = .ok (.iadd, 1) := by decide +kernel
theorem d_X12_feed_7 : decode mX12_feed.2.2.1 7 = .ok (.sipush 900, 3) := by decide +kernel
theorem d_X12_feed_10 : decode mX12_feed.2.2.1 10 = .ok (.if_icmp .le 5, 3) := by decide +kernel
theorem d_X12_feed_15 : decode mX12_feed.2.2.1 15 = .ok (.aload_n 0, 1) := by decide +kernel
theorem d_X12_feed_16 : decode mX12_feed.2.2.1 16 = .ok (.iload_n 1, 1) := by decide +kernel
theorem d_X12_feed_17 : decode mX12_feed.2.2.1 17 = .ok (.invokevirtual 378, 3) := by decide +kernel
def mX12_put : MD := (12, yX12_put, cX12_put, 3, none)
theorem sel_X12_put : Cond.instanceMethod mX12_put.2.1 ∈ tblG ∧ Cond.selects mX12_put.2.1.cls mX12_put.2.1 mX12_put.2.1 ∈ tblG := ⟨tblG_in (inT8 (List.mem_of_getElem? (i := 82) rfl)) rfl, tblG_in (inP5 (q := (mX12_put.2.1, 121)) (List.mem_of_getElem? (i := 8) rfl)) rfl⟩
theorem s_12_378 : e_siteV 12 378 mX12_put 12 := ⟨tblG_in (inT8 (List.mem_of_getElem? (i := 80) rfl)) rfl, sel_X12_put.1, sel_X12_put.2, rfl⟩
theorem d_X12_put_0 : decode mX12_put.2.2.1 0 = .ok (.bipush 24, 2) := by decide +kernel
theorem d_X12_put_2 : decode mX12_put.2.2.1 2 = .ok (.istore_n 2, 1) := by decide +kernel
theorem d_X12_put_3 : decode mX12_put.2.2.1 3 = .ok (.iload_n 2, 1) := by decide +kernel
theorem d_X12_put_4 : decode mX12_put.2.2.1 4 = .ok (.ifCond .lt 35, 3) := by decide +kernel
theorem d_X12_put_7 : decode mX12_put.2.2.1 7 = .ok (.aload_n 0, 1) := by decide +kernel
theorem d_X12_put_8 : decode mX12_put.2.2.1 8 = .ok (.getfield 7, 3) := by decide +kernel
theorem d_X12_put_11 : decode mX12_put.2.2.1 11 = .ok (.aload_n 0, 1) := by decide +kernel
theorem d_X12_put_12 : decode mX12_put.2.2.1 12 = .ok (.getfield 13, 3) := by decide +kernel
theorem d_X12_put_15 : decode mX12_put.2.2.1 15 = .ok (.iload_n 1, 1) := by decide +kernel
theorem d_X12_put_16 : decode mX12_put.2.2.1 16 = .ok (.iload_n 2, 1) := by decide +kernel
theorem d_X12_put_17 : decode mX12_put.2.2.1 17 = .ok (.ishr, 1) := by decide +kernel
theorem d_X12_put_18 : decode mX12_put.2.2.1 18 = .ok (.sipush 255, 3) := by decide +kernel
theorem d_X12_put_21 : decode mX12_put.2.2.1 21 = .ok (.iand, 1) := by decide +kernel
theorem d_X12_put_22 : decode mX12_put.2.2.1 22 = .ok (.iastore, 1) := by decide +kernel
theorem d_X12_put_23 : decode mX12_put.2.2.1 23 = .ok (.aload_n 0, 1) := by decide +kernel
theorem d_X12_put_24 : decode mX12_put.2.2.1 24 = .ok (.dup, 1) := by decide +kernel
theorem d_X12_put_25 : decode mX12_put.2.2.1 25 = .ok (.getfield 13, 3) := by decide +kernel
theorem d_X12_put_28 : decode mX12_put.2.2.1 28 = .ok (.iconst 1, 1) := by decide +kernel
theorem d_X12_put_29 : decode mX12_put.2.2.1 29 = .ok (.iadd, 1) := by decide +kernel
theorem d_X12_put_30 : decode mX12_put.2.2.1 30 = .ok (.putfield 13, 3) := by decide +kernel
theorem d_X12_put_33 : decode mX12_put.2.2.1 33 = .ok (.iinc 2 (-8), 3) := by decide +kernel
theorem d_X12_put_36 : decode mX12_put.2.2.1 36 = .ok (.goto (-33), 3) := by decide +kernel
theorem d_X12_put_39 : decode mX12_put.2.2.1 39 = .ok (.return_, 1) := by decide +kernel
theorem ok_X12_put : e_m mX12_put 1 := ⟨tblG_in (inT8 (List.mem_of_getElem? (i := 83) rfl)) rfl, plainFor_of_name (by decide), rfl, ini_12, by decide +kernel, by decide⟩
theorem d_X12_feed_20 : decode mX12_feed.2.2.1 20 = .ok (.aload_n 0, 1) := by decide +kernel
theorem d_X12_feed_21 : decode mX12_feed.2.2.1 21 = .ok (.iload_n 2, 1) := by decide +kernel
theorem d_X12_feed_22 : decode mX12_feed.2.2.1 22 = .ok (.invokevirtual 378, 3) := by decide +kernel
theorem d_X12_feed_25 : decode mX12_feed.2.2.1 25 = .ok (.aload_n 0, 1) := by decide +kernel
theorem d_X12_feed_26 : decode mX12_feed.2.2.1 26 = .ok (.iload_n 3, 1) := by decide +kernel
theorem d_X12_feed_27 : decode mX12_feed.2.2.1 27 = .ok (.invokevirtual 378, 3) := by decide +kernel
theorem d_X12_feed_30 : decode mX12_feed.2.2.1 30 = .ok (.aload_n 0, 1) := by decide +kernel
theorem d_X12_feed_31 : decode mX12_feed.2.2.1 31 = .ok (.iload 4, 2) := by decide +kernel
theorem d_X12_feed_33 : decode mX12_feed.2.2.1 33 = .ok (.invokevirtual 378, 3) := by decide +kernel
theorem d_X12_feed_36 : decode mX12_feed.2.2.1 36 = .ok (.aload_n 0, 1) := by decide +kernel
theorem d_X12_feed_37 : decode mX12_feed.2.2.1 37 = .ok (.iload 5, 2) := by decide +kernel
theorem d_X12_feed_39 : decode mX12_feed.2.2.1 39 = .ok (.invokevirtual 378, 3) := by decide +kernel
theorem d_X12_feed_42 : decode mX12_feed.2.2.1 42 = .ok (.aload_n 0, 1) := by decide +kernel
theorem d_X12_feed_43 : decode mX12_feed.2.2.1 43 = .ok (.getfield 13, 3) := by decide +kernel
theorem d_X12_feed_46 : decode mX12_feed.2.2.1 46 = .ok (.ireturn, 1) := by decide +kernel
theorem d_X12_feed_13 : decode mX12_feed.2.2.1 13 = .ok (.iconst (-1), 1) := by decide +kernel
theorem d_X12_feed_14 : decode mX12_feed.2.2.1 14 = .ok (.ireturn, 1) := by decide +kernel
def mX12_end : MD := (12, yX12_end, cX12_end, 2, some .boolean)
theorem d_X12_end_0 : decode mX12_end.2.2.1 0 = .ok (.iload_n 1, 1) := by decide +kernel
theorem d_X12_end_1 : decode mX12_end.2.2.1 1 = .ok (.ifCond .lt 11, 3) := by decide +kernel
theorem d_X12_end_12 : decode mX12_end.2.2.1 12 = .ok (.iconst 0, 1) := by decide +kernel
theorem d_X12_end_13 : decode mX12_end.2.2.1 13 = .ok (.ireturn, 1) := by decide +kernel
theorem d_X12_end_4 : decode mX12_end.2.2.1 4 = .ok (.iload_n 1, 1) := by decide +kernel
theorem d_X12_end_5 : decode mX12_end.2.2.1 5 = .ok (.aload_n 0, 1) := by decide +kernel
theorem d_X12_end_6 : decode mX12_end.2.2.1 6 = .ok (.getfield 13, 3) := by decide +kernel
theorem d_X12_end_9 : decode mX12_end.2.2.1 9 = .ok (.if_icmp .le 5, 3) := by decide +kernel
theorem d_X12_end_14 : decode mX12_end.2.2.1 14 = .ok (.aload_n 0, 1) := by decide +kernel
theorem d_X12_end_15 : decode mX12_end.2.2.1 15 = .ok (.iload_n 1, 1) := by decide +kernel
theorem d_X12_end_16 : decode mX12_end.2.2.1 16 = .ok (.putfield 13, 3) := by decide +kernel
theorem d_X12_end_19 : decode mX12_end.2.2.1 19 = .ok (.iconst 1, 1) := by decide +kernel
theorem d_X12_end_20 : decode mX12_end.2.2.1 20 = .ok (.ireturn, 1) := by decide +kernel
def mX12_fault : MD := (12, yX12_fault, cX12_fault, 2, some .int)
theorem d_X12_fault_0 : decode mX12_fault.2.2.1 0 = .ok (.iload_n 1, 1) := by decide +kernel
theorem d_X12_fault_1 : decode mX12_fault.2.2.1 1 = .ok (.ifCond .ne 10, 3) := by decide +kernel
theorem d_X12_fault_11 : decode mX12_fault.2.2.1 11 = .ok (.iload_n 1, 1) := by decide +kernel
theorem d_X12_fault_12 : decode mX12_fault.2.2.1 12 = .ok (.iconst 1, 1) := by decide +kernel
theorem d_X12_fault_13 : decode mX12_fault.2.2.1 13 = .ok (.if_icmp .ne 10, 3) := by decide +kernel
theorem d_X12_fault_23 : decode mX12_fault.2.2.1 23 = .ok (.iconst (-1), 1) := by decide +kernel
theorem d_X12_fault_24 : decode mX12_fault.2.2.1 24 = .ok (.ireturn, 1) := by decide +kernel
theorem d_X12_fault_16 : decode mX12_fault.2.2.1 16 = .ok (.aload_n 0, 1) := by decide +kernel
theorem d_X12_fault_17 : decode mX12_fault.2.2.1 17 = .ok (.getfield 45, 3) := by decide +kernel
theorem d_X12_fault_20 : decode mX12_fault.2.2.1 20 = .ok (.goto 4, 3) := by decide +kernel
theorem d_X12_fault_4 : decode mX12_fault.2.2.1 4 = .ok (.aload_n 0, 1) := by decide +kernel
theorem d_X12_fault_5 : decode mX12_fault.2.2.1 5 = .ok (.getfield 42, 3) := by decide +kernel
theorem d_X12_fault_8 : decode mX12_fault.2.2.1 8 = .ok (.goto 16, 3) := by decide +kernel
def mX12_has : MD := (12, yX12_has, cX12_has, 2, some .int)
theorem d_X12_has_0 : decode mX12_has.2.2.1 0 = .ok (.iload_n 1, 1) := by decide +kernel
theorem d_X12_has_1 : decode mX12_has.2.2.1 1 = .ok (.tableswitch 89 0 5 #[39, 49, 59, 69, 79, 84], 39) := by decide +kernel
theorem d_X12_has_90 : decode mX12_has.2.2.1 90 = .ok (.iconst (-1), 1) := by decide +kernel
theorem d_X12_has_91 : decode mX12_has.2.2.1 91 = .ok (.ireturn, 1) := by decide +kernel
theorem d_X12_has_85 : decode mX12_has.2.2.1 85 = .ok (.aload_n 0, 1) := by decide +kernel
theorem d_X12_has_86 : decode mX12_has.2.2.1 86 = .ok (.getfield 354, 3) := by decide +kernel
theorem d_X12_has_89 : decode mX12_has.2.2.1 89 = .ok (.ireturn, 1) := by decide +kernel
theorem d_X12_has_80 : decode mX12_has.2.2.1 80 = .ok (.aload_n 0, 1) := by decide +kernel
theorem d_X12_has_81 : decode mX12_has.2.2.1 81 = .ok (.getfield 333, 3) := by decide +kernel
theorem d_X12_has_84 : decode mX12_has.2.2.1 84 = .ok (.ireturn, 1) := by decide +kernel
theorem d_X12_has_70 : decode mX12_has.2.2.1 70 = .ok (.aload_n 0, 1) := by decide +kernel
theorem d_X12_has_71 : decode mX12_has.2.2.1 71 = .ok (.getfield 72, 3) := by decide +kernel
theorem d_X12_has_74 : decode mX12_has.2.2.1 74 = .ok (.aload_n 0, 1) := by decide +kernel
theorem d_X12_has_75 : decode mX12_has.2.2.1 75 = .ok (.getfield 48, 3) := by decide +kernel
theorem d_X12_has_78 : decode mX12_has.2.2.1 78 = .ok (.iaload, 1) := by decide +kernel
theorem d_X12_has_79 : decode mX12_has.2.2.1 79 = .ok (.ireturn, 1) := by decide +kernel
theorem d_X12_has_60 : decode mX12_has.2.2.1 60 = .ok (.aload_n 0, 1) := by decide +kernel
theorem d_X12_has_61 : decode mX12_has.2.2.1 61 = .ok (.getfield 69, 3) := by decide +kernel
theorem d_X12_has_64 : decode mX12_has.2.2.1 64 = .ok (.aload_n 0, 1) := by decide +kernel
theorem d_X12_has_65 : decode mX12_has.2.2.1 65 = .ok (.getfield 48, 3) := by decide +kernel
theorem d_X12_has_68 : decode mX12_has.2.2.1 68 = .ok (.iaload, 1) := by decide +kernel
theorem d_X12_has_69 : decode mX12_has.2.2.1 69 = .ok (.ireturn, 1) := by decide +kernel
theorem d_X12_has_50 : decode mX12_has.2.2.1 50 = .ok (.aload_n 0, 1) := by decide +kernel
theorem d_X12_has_51 : decode mX12_has.2.2.1 51 = .ok (.getfield 66, 3) := by decide +kernel
theorem d_X12_has_54 : decode mX12_has.2.2.1 54 = .ok (.aload_n 0, 1) := by decide +kernel
theorem d_X12_has_55 : decode mX12_has.2.2.1 55 = .ok (.getfield 48, 3) := by decide +kernel
theorem d_X12_has_58 : decode mX12_has.2.2.1 58 = .ok (.iaload, 1) := by decide +kernel
theorem d_X12_has_59 : decode mX12_has.2.2.1 59 = .ok (.ireturn, 1) := by decide +kernel
theorem d_X12_has_40 : decode mX12_has.2.2.1 40 = .ok (.aload_n 0, 1) := by decide +kernel
theorem d_X12_has_41 : decode mX12_has.2.2.1 41 = .ok (.getfield 63, 3) := by decide +kernel
theorem d_X12_has_44 : decode mX12_has.2.2.1 44 = .ok (.aload_n 0, 1) := by decide +kernel
theorem d_X12_has_45 : decode mX12_has.2.2.1 45 = .ok (.getfield 48, 3) := by decide +kernel
theorem d_X12_has_48 : decode mX12_has.2.2.1 48 = .ok (.iaload, 1) := by decide +kernel
theorem d_X12_has_49 : decode mX12_has.2.2.1 49 = .ok (.ireturn, 1) := by decide +kernel
def mX12_letter : MD := (12, yX12_letter, cX12_letter, 4, some .int)
theorem d_X12_letter_0 : decode mX12_letter.2.2.1 0 = .ok (.iload_n 1, 1) := by decide +kernel
theorem d_X12_letter_1 : decode mX12_letter.2.2.1 1 = .ok (.ifCond .ne 30, 3) := by decide +kernel
theorem d_X12_letter_4 : decode mX12_letter.2.2.1 4 = .ok (.aload_n 0, 1) := by decide +kernel
theorem d_X12_letter_5 : decode mX12_letter.2.2.1 5 = .ok (.iload_n 2, 1) := by decide +kernel
theorem d_X12_letter_6 : decode mX12_letter.2.2.1 6 = .ok (.invokevirtual 555, 3) := by decide +kernel
def mX12_isPart : MD := (12, yX12_isPart, cX12_isPart, 2, some .boolean)
theorem sel_X12_isPart : Cond.instanceMethod mX12_isPart.2.1 ∈ tblG ∧ Cond.selects mX12_isPart.2.1.cls mX12_isPart.2.1 mX12_isPart.2.1 ∈ tblG := ⟨tblG_in (inT9 (List.mem_of_getElem? (i := 32) rfl)) rfl, tblG_in (inP7 (q := (mX12_isPart.2.1, 121)) (List.mem_of_getElem? (i := 8) rfl)) rfl⟩
theorem s_12_555 : e_siteV 12 555 mX12_isPart 12 := ⟨tblG_in (inT9 (List.mem_of_getElem? (i := 30) rfl)) rfl, sel_X12_isPart.1, sel_X12_isPart.2, rfl⟩
theorem d_X12_isPart_0 : decode mX12_isPart.2.2.1 0 = .ok (.iload_n 1, 1) := by decide +kernel
theorem d_X12_isPart_1 : decode mX12_isPart.2.2.1 1 = .ok (.iconst 0, 1) := by decide +kernel
theorem d_X12_isPart_2 : decode mX12_isPart.2.2.1 2 = .ok (.aload_n 0, 1) := by decide +kernel
theorem d_X12_isPart_3 : decode mX12_isPart.2.2.1 3 = .ok (.getfield 63, 3) := by decide +kernel
theorem d_X12_isPart_6 : decode mX12_isPart.2.2.1 6 = .ok (.aload_n 0, 1) := by decide +kernel
theorem d_X12_isPart_7 : decode mX12_isPart.2.2.1 7 = .ok (.getfield 48, 3) := by decide +kernel
theorem d_X12_isPart_10 : decode mX12_isPart.2.2.1 10 = .ok (.iaload, 1) := by decide +kernel
theorem d_X12_isPart_11 : decode mX12_isPart.2.2.1 11 = .ok (.iconst 1, 1) := by decide +kernel
theorem d_X12_isPart_12 : decode mX12_isPart.2.2.1 12 = .ok (.isub, 1) := by decide +kernel
theorem d_X12_isPart_13 : decode mX12_isPart.2.2.1 13 = .ok (.invokestatic 467, 3) := by decide +kernel
def mX12_is : MD := (12, yX12_is, cX12_is, 3, some .boolean)
theorem s_12_467 : e_siteS 12 467 mX12_is := ⟨tblG_in (inT8 (List.mem_of_getElem? (i := 119) rfl)) rfl, tblG_in (inT8 (List.mem_of_getElem? (i := 120) rfl)) rfl⟩
theorem d_X12_is_0 : decode mX12_is.2.2.1 0 = .ok (.iload_n 0, 1) := by decide +kernel
theorem d_X12_is_1 : decode mX12_is.2.2.1 1 = .ok (.iload_n 1, 1) := by decide +kernel
theorem d_X12_is_2 : decode mX12_is.2.2.1 2 = .ok (.if_icmp .lt 12, 3) := by decide +kernel
theorem d_X12_is_14 : decode mX12_is.2.2.1 14 = .ok (.iconst 0, 1) := by decide +kernel
theorem d_X12_is_15 : decode mX12_is.2.2.1 15 = .ok (.ireturn, 1) := by decide +kernel
theorem d_X12_is_5 : decode mX12_is.2.2.1 5 = .ok (.iload_n 0, 1) := by decide +kernel
theorem d_X12_is_6 : decode mX12_is.2.2.1 6 = .ok (.iload_n 2, 1) := by decide +kernel
theorem d_X12_is_7 : decode mX12_is.2.2.1 7 = .ok (.if_icmp .gt 7, 3) := by decide +kernel
theorem d_X12_is_10 : decode mX12_is.2.2.1 10 = .ok (.iconst 1, 1) := by decide +kernel
theorem d_X12_is_11 : decode mX12_is.2.2.1 11 = .ok (.goto 4, 3) := by decide +kernel
theorem ok_X12_is : e_m mX12_is 3 := ⟨tblG_in (inT8 (List.mem_of_getElem? (i := 121) rfl)) rfl, plainFor_of_name (by decide), rfl, ini_12, by decide +kernel, by decide⟩
theorem d_X12_isPart_16 : decode mX12_isPart.2.2.1 16 = .ok (.ireturn, 1) := by decide +kernel
theorem ok_X12_isPart : e_m mX12_isPart 1 := ⟨tblG_in (inT9 (List.mem_of_getElem? (i := 33) rfl)) rfl, plainFor_of_name (by decide), rfl, ini_12, by decide +kernel, by decide⟩
theorem d_X12_letter_9 : decode mX12_letter.2.2.1 9 = .ok (.ifCond .eq 22, 3) := by decide +kernel
theorem d_X12_letter_12 : decode mX12_letter.2.2.1 12 = .ok (.aload_n 0, 1) := by decide +kernel
theorem d_X12_letter_13 : decode mX12_letter.2.2.1 13 = .ok (.getfield 75, 3) := by decide +kernel
theorem d_X12_letter_16 : decode mX12_letter.2.2.1 16 = .ok (.bipush 6, 2) := by decide +kernel
theorem d_X12_letter_18 : decode mX12_letter.2.2.1 18 = .ok (.aload_n 0, 1) := by decide +kernel
theorem d_X12_letter_19 : decode mX12_letter.2.2.1 19 = .ok (.getfield 48, 3) := by decide +kernel
theorem d_X12_letter_22 : decode mX12_letter.2.2.1 22 = .ok (.imul, 1) := by decide +kernel
theorem d_X12_letter_23 : decode mX12_letter.2.2.1 23 = .ok (.iload_n 2, 1) := by decide +kernel
theorem d_X12_letter_24 : decode mX12_letter.2.2.1 24 = .ok (.iadd, 1) := by decide +kernel
theorem d_X12_letter_25 : decode mX12_letter.2.2.1 25 = .ok (.laload, 1) := by decide +kernel
theorem d_X12_letter_26 : decode mX12_letter.2.2.1 26 = .ok (.iload_n 3, 1) := by decide +kernel
theorem d_X12_letter_27 : decode mX12_letter.2.2.1 27 = .ok (.invokestatic 558, 3) := by decide +kernel
def mX12_letterOf : MD := (12, yX12_letterOf, cX12_letterOf, 6, some .int)
theorem s_12_558 : e_siteS 12 558 mX12_letterOf := ⟨tblG_in (inT9 (List.mem_of_getElem? (i := 34) rfl)) rfl, tblG_in (inT9 (List.mem_of_getElem? (i := 35) rfl)) rfl⟩
theorem d_X12_letterOf_0 : decode mX12_letterOf.2.2.1 0 = .ok (.iconst 0, 1) := by decide +kernel
theorem d_X12_letterOf_1 : decode mX12_letterOf.2.2.1 1 = .ok (.istore_n 3, 1) := by decide +kernel
theorem d_X12_letterOf_2 : decode mX12_letterOf.2.2.1 2 = .ok (.lload_n 0, 1) := by decide +kernel
theorem d_X12_letterOf_3 : decode mX12_letterOf.2.2.1 3 = .ok (.lstore 4, 2) := by decide +kernel
theorem d_X12_letterOf_5 : decode mX12_letterOf.2.2.1 5 = .ok (.lload 4, 2) := by decide +kernel
theorem d_X12_letterOf_7 : decode mX12_letterOf.2.2.1 7 = .ok (.lconst 0, 1) := by decide +kernel
theorem d_X12_letterOf_8 : decode mX12_letterOf.2.2.1 8 = .ok (.lcmp, 1) := by decide +kernel
theorem d_X12_letterOf_9 : decode mX12_letterOf.2.2.1 9 = .ok (.ifCond .eq 16, 3) := by decide +kernel
theorem d_X12_letterOf_25 : decode mX12_letterOf.2.2.1 25 = .ok (.iload_n 2, 1) := by decide +kernel
theorem d_X12_letterOf_26 : decode mX12_letterOf.2.2.1 26 = .ok (.ifCond .lt 8, 3) := by decide +kernel
theorem d_X12_letterOf_34 : decode mX12_letterOf.2.2.1 34 = .ok (.iconst (-1), 1) := by decide +kernel
theorem d_X12_letterOf_35 : decode mX12_letterOf.2.2.1 35 = .ok (.goto 18, 3) := by decide +kernel
theorem d_X12_letterOf_53 : decode mX12_letterOf.2.2.1 53 = .ok (.ireturn, 1) := by decide +kernel
theorem d_X12_letterOf_29 : decode mX12_letterOf.2.2.1 29 = .ok (.iload_n 2, 1) := by decide +kernel
theorem d_X12_letterOf_30 : decode mX12_letterOf.2.2.1 30 = .ok (.iload_n 3, 1) := by decide +kernel
theorem d_X12_letterOf_31 : decode mX12_letterOf.2.2.1 31 = .ok (.if_icmp .lt 7, 3) := by decide +kernel
theorem d_X12_letterOf_12 : decode mX12_letterOf.2.2.1 12 = .ok (.iinc 3 1, 3) := by decide +kernel
theorem d_X12_letterOf_15 : decode mX12_letterOf.2.2.1 15 = .ok (.lload 4, 2) := by decide +kernel
theorem d_X12_letterOf_17 : decode mX12_letterOf.2.2.1 17 = .ok (.bipush 8, 2) := by decide +kernel
theorem d_X12_letterOf_19 : decode mX12_letterOf.2.2.1 19 = .ok (.lushr, 1) := by decide +kernel
theorem d_X12_letterOf_20 : decode mX12_letterOf.2.2.1 20 = .ok (.lstore 4, 2) := by decide +kernel
theorem d_X12_letterOf_22 : decode mX12_letterOf.2.2.1 22 = .ok (.goto (-17), 3) := by decide +kernel
theorem d_X12_letterOf_38 : decode mX12_letterOf.2.2.1 38 = .ok (.lload_n 0, 1) := by decide +kernel
theorem d_X12_letterOf_39 : decode mX12_letterOf.2.2.1 39 = .ok (.bipush 8, 2) := by decide +kernel
theorem d_X12_letterOf_41 : decode mX12_letterOf.2.2.1 41 = .ok (.iload_n 3, 1) := by decide +kernel
theorem d_X12_letterOf_42 : decode mX12_letterOf.2.2.1 42 = .ok (.iconst 1, 1) := by decide +kernel
theorem d_X12_letterOf_43 : decode mX12_letterOf.2.2.1 43 = .ok (.isub, 1) := by decide +kernel
theorem d_X12_letterOf_44 : decode mX12_letterOf.2.2.1 44 = .ok (.iload_n 2, 1) := by decide +kernel
theorem d_X12_letterOf_45 : decode mX12_letterOf.2.2.1 45 = .ok (.isub, 1) := by decide +kernel
theorem d_X12_letterOf_46 : decode mX12_letterOf.2.2.1 46 = .ok (.imul, 1) := by decide +kernel
theorem d_X12_letterOf_47 : decode mX12_letterOf.2.2.1 47 = .ok (.lushr, 1) := by decide +kernel
theorem d_X12_letterOf_48 : decode mX12_letterOf.2.2.1 48 = .ok (.ldc2_w 553, 3) := by decide +kernel
theorem kl_12_553 : Jvm.Cond.constantLong (e_cn 12) 553 (Int64.ofInt 255) ∈ tblG := tblG_in (inT9 (List.mem_of_getElem? (i := 37) rfl)) rfl
theorem d_X12_letterOf_51 : decode mX12_letterOf.2.2.1 51 = .ok (.land, 1) := by decide +kernel
theorem d_X12_letterOf_52 : decode mX12_letterOf.2.2.1 52 = .ok (.l2i, 1) := by decide +kernel
theorem ok_X12_letterOf : e_m mX12_letterOf 2 := ⟨tblG_in (inT9 (List.mem_of_getElem? (i := 36) rfl)) rfl, plainFor_of_name (by decide), rfl, ini_12, by decide +kernel, by decide⟩
theorem d_X12_letter_30 : decode mX12_letter.2.2.1 30 = .ok (.ireturn, 1) := by decide +kernel
theorem d_X12_letter_31 : decode mX12_letter.2.2.1 31 = .ok (.iload_n 1, 1) := by decide +kernel
theorem d_X12_letter_32 : decode mX12_letter.2.2.1 32 = .ok (.iconst 1, 1) := by decide +kernel
theorem d_X12_letter_33 : decode mX12_letter.2.2.1 33 = .ok (.if_icmp .ne 29, 3) := by decide +kernel
theorem d_X12_letter_36 : decode mX12_letter.2.2.1 36 = .ok (.aload_n 0, 1) := by decide +kernel
theorem d_X12_letter_37 : decode mX12_letter.2.2.1 37 = .ok (.iload_n 2, 1) := by decide +kernel
theorem d_X12_letter_38 : decode mX12_letter.2.2.1 38 = .ok (.invokevirtual 562, 3) := by decide +kernel
def mX12_isInput : MD := (12, yX12_isInput, cX12_isInput, 2, some .boolean)
theorem sel_X12_isInput : Cond.instanceMethod mX12_isInput.2.1 ∈ tblG ∧ Cond.selects mX12_isInput.2.1.cls mX12_isInput.2.1 mX12_isInput.2.1 ∈ tblG := ⟨tblG_in (inT9 (List.mem_of_getElem? (i := 40) rfl)) rfl, tblG_in (inP7 (q := (mX12_isInput.2.1, 121)) (List.mem_of_getElem? (i := 9) rfl)) rfl⟩
theorem s_12_562 : e_siteV 12 562 mX12_isInput 12 := ⟨tblG_in (inT9 (List.mem_of_getElem? (i := 38) rfl)) rfl, sel_X12_isInput.1, sel_X12_isInput.2, rfl⟩
theorem d_X12_isInput_0 : decode mX12_isInput.2.2.1 0 = .ok (.iload_n 1, 1) := by decide +kernel
theorem d_X12_isInput_1 : decode mX12_isInput.2.2.1 1 = .ok (.iconst 0, 1) := by decide +kernel
theorem d_X12_isInput_2 : decode mX12_isInput.2.2.1 2 = .ok (.aload_n 0, 1) := by decide +kernel
theorem d_X12_isInput_3 : decode mX12_isInput.2.2.1 3 = .ok (.getfield 66, 3) := by decide +kernel
theorem d_X12_isInput_6 : decode mX12_isInput.2.2.1 6 = .ok (.aload_n 0, 1) := by decide +kernel
theorem d_X12_isInput_7 : decode mX12_isInput.2.2.1 7 = .ok (.getfield 48, 3) := by decide +kernel
theorem d_X12_isInput_10 : decode mX12_isInput.2.2.1 10 = .ok (.iaload, 1) := by decide +kernel
theorem d_X12_isInput_11 : decode mX12_isInput.2.2.1 11 = .ok (.iconst 1, 1) := by decide +kernel
theorem d_X12_isInput_12 : decode mX12_isInput.2.2.1 12 = .ok (.isub, 1) := by decide +kernel
theorem d_X12_isInput_13 : decode mX12_isInput.2.2.1 13 = .ok (.invokestatic 467, 3) := by decide +kernel
theorem d_X12_isInput_16 : decode mX12_isInput.2.2.1 16 = .ok (.ireturn, 1) := by decide +kernel
theorem ok_X12_isInput : e_m mX12_isInput 1 := ⟨tblG_in (inT9 (List.mem_of_getElem? (i := 41) rfl)) rfl, plainFor_of_name (by decide), rfl, ini_12, by decide +kernel, by decide⟩
theorem d_X12_letter_41 : decode mX12_letter.2.2.1 41 = .ok (.ifCond .eq 21, 3) := by decide +kernel
theorem d_X12_letter_44 : decode mX12_letter.2.2.1 44 = .ok (.aload_n 0, 1) := by decide +kernel
theorem d_X12_letter_45 : decode mX12_letter.2.2.1 45 = .ok (.getfield 82, 3) := by decide +kernel
theorem d_X12_letter_48 : decode mX12_letter.2.2.1 48 = .ok (.iconst 3, 1) := by decide +kernel
theorem d_X12_letter_49 : decode mX12_letter.2.2.1 49 = .ok (.aload_n 0, 1) := by decide +kernel
theorem d_X12_letter_50 : decode mX12_letter.2.2.1 50 = .ok (.getfield 48, 3) := by decide +kernel
theorem d_X12_letter_53 : decode mX12_letter.2.2.1 53 = .ok (.imul, 1) := by decide +kernel
end
/-! 35.01 -/
section
theorem d_X12_letter_54 : decode mX12_letter.2.2.1 54 = .ok (.iload_n 2, 1) := by decide +kernel
theorem d_X12_letter_55 : decode mX12_letter.2.2.1 55 = .ok (.iadd, 1) := by decide +kernel
theorem d_X12_letter_56 : decode mX12_letter.2.2.1 56 = .ok (.laload, 1) := by decide +kernel
theorem d_X12_letter_57 : decode mX12_letter.2.2.1 57 = .ok (.iload_n 3, 1) := by decide +kernel
theorem d_X12_letter_58 : decode mX12_letter.2.2.1 58 = .ok (.invokestatic 558, 3) := by decide +kernel
theorem d_X12_letter_61 : decode mX12_letter.2.2.1 61 = .ok (.ireturn, 1) := by decide +kernel
theorem d_X12_letter_62 : decode mX12_letter.2.2.1 62 = .ok (.iload_n 1, 1) := by decide +kernel
theorem d_X12_letter_63 : decode mX12_letter.2.2.1 63 = .ok (.iconst 2, 1) := by decide +kernel
theorem d_X12_letter_64 : decode mX12_letter.2.2.1 64 = .ok (.if_icmp .ne 41, 3) := by decide +kernel
theorem d_X12_letter_105 : decode mX12_letter.2.2.1 105 = .ok (.iconst (-1), 1) := by decide +kernel
theorem d_X12_letter_106 : decode mX12_letter.2.2.1 106 = .ok (.ireturn, 1) := by decide +kernel
theorem d_X12_letter_67 : decode mX12_letter.2.2.1 67 = .ok (.iload_n 2, 1) := by decide +kernel
theorem d_X12_letter_68 : decode mX12_letter.2.2.1 68 = .ok (.iconst 0, 1) := by decide +kernel
theorem d_X12_letter_69 : decode mX12_letter.2.2.1 69 = .ok (.aload_n 0, 1) := by decide +kernel
theorem d_X12_letter_70 : decode mX12_letter.2.2.1 70 = .ok (.getfield 69, 3) := by decide +kernel
theorem d_X12_letter_73 : decode mX12_letter.2.2.1 73 = .ok (.aload_n 0, 1) := by decide +kernel
theorem d_X12_letter_74 : decode mX12_letter.2.2.1 74 = .ok (.getfield 48, 3) := by decide +kernel
theorem d_X12_letter_77 : decode mX12_letter.2.2.1 77 = .ok (.iaload, 1) := by decide +kernel
theorem d_X12_letter_78 : decode mX12_letter.2.2.1 78 = .ok (.iconst 1, 1) := by decide +kernel
theorem d_X12_letter_79 : decode mX12_letter.2.2.1 79 = .ok (.isub, 1) := by decide +kernel
theorem d_X12_letter_80 : decode mX12_letter.2.2.1 80 = .ok (.invokestatic 467, 3) := by decide +kernel
theorem d_X12_letter_83 : decode mX12_letter.2.2.1 83 = .ok (.ifCond .eq 22, 3) := by decide +kernel
theorem d_X12_letter_86 : decode mX12_letter.2.2.1 86 = .ok (.aload_n 0, 1) := by decide +kernel
theorem d_X12_letter_87 : decode mX12_letter.2.2.1 87 = .ok (.getfield 91, 3) := by decide +kernel
theorem d_X12_letter_90 : decode mX12_letter.2.2.1 90 = .ok (.bipush 6, 2) := by decide +kernel
theorem d_X12_letter_92 : decode mX12_letter.2.2.1 92 = .ok (.aload_n 0, 1) := by decide +kernel
theorem d_X12_letter_93 : decode mX12_letter.2.2.1 93 = .ok (.getfield 48, 3) := by decide +kernel
theorem d_X12_letter_96 : decode mX12_letter.2.2.1 96 = .ok (.imul, 1) := by decide +kernel
theorem d_X12_letter_97 : decode mX12_letter.2.2.1 97 = .ok (.iload_n 2, 1) := by decide +kernel
theorem d_X12_letter_98 : decode mX12_letter.2.2.1 98 = .ok (.iadd, 1) := by decide +kernel
theorem d_X12_letter_99 : decode mX12_letter.2.2.1 99 = .ok (.laload, 1) := by decide +kernel
theorem d_X12_letter_100 : decode mX12_letter.2.2.1 100 = .ok (.iload_n 3, 1) := by decide +kernel
theorem d_X12_letter_101 : decode mX12_letter.2.2.1 101 = .ok (.invokestatic 558, 3) := by decide +kernel
theorem d_X12_letter_104 : decode mX12_letter.2.2.1 104 = .ok (.ireturn, 1) := by decide +kernel
def mX12_put_ : MD := (12, yX12_put_, cX12_put_, 3, some .boolean)
theorem d_X12_put__0 : decode mX12_put_.2.2.1 0 = .ok (.aload_n 0, 1) := by decide +kernel
theorem d_X12_put__1 : decode mX12_put_.2.2.1 1 = .ok (.iload_n 1, 1) := by decide +kernel
theorem d_X12_put__2 : decode mX12_put_.2.2.1 2 = .ok (.invokevirtual 562, 3) := by decide +kernel
theorem d_X12_put__5 : decode mX12_put_.2.2.1 5 = .ok (.ifCond .eq 36, 3) := by decide +kernel
theorem d_X12_put__41 : decode mX12_put_.2.2.1 41 = .ok (.iconst 0, 1) := by decide +kernel
theorem d_X12_put__42 : decode mX12_put_.2.2.1 42 = .ok (.ireturn, 1) := by decide +kernel
theorem d_X12_put__8 : decode mX12_put_.2.2.1 8 = .ok (.iload_n 2, 1) := by decide +kernel
theorem d_X12_put__9 : decode mX12_put_.2.2.1 9 = .ok (.aload_n 0, 1) := by decide +kernel
theorem d_X12_put__10 : decode mX12_put_.2.2.1 10 = .ok (.getfield 85, 3) := by decide +kernel
theorem d_X12_put__13 : decode mX12_put_.2.2.1 13 = .ok (.iconst 3, 1) := by decide +kernel
theorem d_X12_put__14 : decode mX12_put_.2.2.1 14 = .ok (.aload_n 0, 1) := by decide +kernel
theorem d_X12_put__15 : decode mX12_put_.2.2.1 15 = .ok (.getfield 48, 3) := by decide +kernel
theorem d_X12_put__18 : decode mX12_put_.2.2.1 18 = .ok (.imul, 1) := by decide +kernel
theorem d_X12_put__19 : decode mX12_put_.2.2.1 19 = .ok (.iload_n 1, 1) := by decide +kernel
theorem d_X12_put__20 : decode mX12_put_.2.2.1 20 = .ok (.iadd, 1) := by decide +kernel
theorem d_X12_put__21 : decode mX12_put_.2.2.1 21 = .ok (.iaload, 1) := by decide +kernel
theorem d_X12_put__22 : decode mX12_put_.2.2.1 22 = .ok (.aload_n 0, 1) := by decide +kernel
theorem d_X12_put__23 : decode mX12_put_.2.2.1 23 = .ok (.getfield 88, 3) := by decide +kernel
theorem d_X12_put__26 : decode mX12_put_.2.2.1 26 = .ok (.iconst 3, 1) := by decide +kernel
theorem d_X12_put__27 : decode mX12_put_.2.2.1 27 = .ok (.aload_n 0, 1) := by decide +kernel
theorem d_X12_put__28 : decode mX12_put_.2.2.1 28 = .ok (.getfield 48, 3) := by decide +kernel
theorem d_X12_put__31 : decode mX12_put_.2.2.1 31 = .ok (.imul, 1) := by decide +kernel
theorem d_X12_put__32 : decode mX12_put_.2.2.1 32 = .ok (.iload_n 1, 1) := by decide +kernel
theorem d_X12_put__33 : decode mX12_put_.2.2.1 33 = .ok (.iadd, 1) := by decide +kernel
theorem d_X12_put__34 : decode mX12_put_.2.2.1 34 = .ok (.iaload, 1) := by decide +kernel
theorem d_X12_put__35 : decode mX12_put_.2.2.1 35 = .ok (.invokestatic 467, 3) := by decide +kernel
theorem d_X12_put__38 : decode mX12_put_.2.2.1 38 = .ok (.ifCond .ne 5, 3) := by decide +kernel
theorem d_X12_put__43 : decode mX12_put_.2.2.1 43 = .ok (.aload_n 0, 1) := by decide +kernel
theorem d_X12_put__44 : decode mX12_put_.2.2.1 44 = .ok (.getfield 168, 3) := by decide +kernel
theorem d_X12_put__47 : decode mX12_put_.2.2.1 47 = .ok (.iload_n 1, 1) := by decide +kernel
theorem d_X12_put__48 : decode mX12_put_.2.2.1 48 = .ok (.iload_n 2, 1) := by decide +kernel
theorem d_X12_put__49 : decode mX12_put_.2.2.1 49 = .ok (.iastore, 1) := by decide +kernel
theorem d_X12_put__50 : decode mX12_put_.2.2.1 50 = .ok (.iconst 1, 1) := by decide +kernel
theorem d_X12_put__51 : decode mX12_put_.2.2.1 51 = .ok (.ireturn, 1) := by decide +kernel
def mX12_ran : MD := (12, yX12_ran, cX12_ran, 2, some .int)
theorem d_X12_ran_0 : decode mX12_ran.2.2.1 0 = .ok (.aload_n 0, 1) := by decide +kernel
theorem d_X12_ran_1 : decode mX12_ran.2.2.1 1 = .ok (.getfield 270, 3) := by decide +kernel
theorem d_X12_ran_4 : decode mX12_ran.2.2.1 4 = .ok (.ifCond .ne 5, 3) := by decide +kernel
theorem d_X12_ran_9 : decode mX12_ran.2.2.1 9 = .ok (.iload_n 1, 1) := by decide +kernel
theorem d_X12_ran_10 : decode mX12_ran.2.2.1 10 = .ok (.tableswitch 69 0 5 #[38, 43, 49, 54, 59, 64], 38) := by decide +kernel
theorem d_X12_ran_79 : decode mX12_ran.2.2.1 79 = .ok (.iconst (-1), 1) := by decide +kernel
theorem d_X12_ran_80 : decode mX12_ran.2.2.1 80 = .ok (.ireturn, 1) := by decide +kernel
theorem d_X12_ran_74 : decode mX12_ran.2.2.1 74 = .ok (.aload_n 0, 1) := by decide +kernel
theorem d_X12_ran_75 : decode mX12_ran.2.2.1 75 = .ok (.getfield 288, 3) := by decide +kernel
theorem d_X12_ran_78 : decode mX12_ran.2.2.1 78 = .ok (.ireturn, 1) := by decide +kernel
theorem d_X12_ran_69 : decode mX12_ran.2.2.1 69 = .ok (.aload_n 0, 1) := by decide +kernel
theorem d_X12_ran_70 : decode mX12_ran.2.2.1 70 = .ok (.getfield 285, 3) := by decide +kernel
theorem d_X12_ran_73 : decode mX12_ran.2.2.1 73 = .ok (.ireturn, 1) := by decide +kernel
theorem d_X12_ran_64 : decode mX12_ran.2.2.1 64 = .ok (.aload_n 0, 1) := by decide +kernel
theorem d_X12_ran_65 : decode mX12_ran.2.2.1 65 = .ok (.getfield 282, 3) := by decide +kernel
theorem d_X12_ran_68 : decode mX12_ran.2.2.1 68 = .ok (.ireturn, 1) := by decide +kernel
theorem d_X12_ran_59 : decode mX12_ran.2.2.1 59 = .ok (.aload_n 0, 1) := by decide +kernel
theorem d_X12_ran_60 : decode mX12_ran.2.2.1 60 = .ok (.getfield 279, 3) := by decide +kernel
theorem d_X12_ran_63 : decode mX12_ran.2.2.1 63 = .ok (.ireturn, 1) := by decide +kernel
theorem d_X12_ran_53 : decode mX12_ran.2.2.1 53 = .ok (.aload_n 0, 1) := by decide +kernel
theorem d_X12_ran_54 : decode mX12_ran.2.2.1 54 = .ok (.getfield 276, 3) := by decide +kernel
theorem d_X12_ran_57 : decode mX12_ran.2.2.1 57 = .ok (.l2i, 1) := by decide +kernel
theorem d_X12_ran_58 : decode mX12_ran.2.2.1 58 = .ok (.ireturn, 1) := by decide +kernel
theorem d_X12_ran_48 : decode mX12_ran.2.2.1 48 = .ok (.aload_n 0, 1) := by decide +kernel
theorem d_X12_ran_49 : decode mX12_ran.2.2.1 49 = .ok (.getfield 273, 3) := by decide +kernel
theorem d_X12_ran_52 : decode mX12_ran.2.2.1 52 = .ok (.ireturn, 1) := by decide +kernel
theorem d_X12_ran_7 : decode mX12_ran.2.2.1 7 = .ok (.iconst (-1), 1) := by decide +kernel
theorem d_X12_ran_8 : decode mX12_ran.2.2.1 8 = .ok (.ireturn, 1) := by decide +kernel
def mX12_value : MD := (12, yX12_value, cX12_value, 2, some .int)
theorem d_X12_value_0 : decode mX12_value.2.2.1 0 = .ok (.aload_n 0, 1) := by decide +kernel
theorem d_X12_value_1 : decode mX12_value.2.2.1 1 = .ok (.getfield 270, 3) := by decide +kernel
theorem d_X12_value_4 : decode mX12_value.2.2.1 4 = .ok (.ifCond .eq 31, 3) := by decide +kernel
theorem d_X12_value_35 : decode mX12_value.2.2.1 35 = .ok (.ldc_w 640, 3) := by decide +kernel
theorem k_12_640 : Jvm.Cond.constant (e_cn 12) 640 (Int32.ofInt (-2000000000)) ∈ tblG := tblG_in (inT9 (List.mem_of_getElem? (i := 141) rfl)) rfl
theorem d_X12_value_38 : decode mX12_value.2.2.1 38 = .ok (.ireturn, 1) := by decide +kernel
theorem d_X12_value_7 : decode mX12_value.2.2.1 7 = .ok (.iload_n 1, 1) := by decide +kernel
theorem d_X12_value_8 : decode mX12_value.2.2.1 8 = .ok (.iconst 0, 1) := by decide +kernel
theorem d_X12_value_9 : decode mX12_value.2.2.1 9 = .ok (.aload_n 0, 1) := by decide +kernel
theorem d_X12_value_10 : decode mX12_value.2.2.1 10 = .ok (.getfield 69, 3) := by decide +kernel
theorem d_X12_value_13 : decode mX12_value.2.2.1 13 = .ok (.aload_n 0, 1) := by decide +kernel
theorem d_X12_value_14 : decode mX12_value.2.2.1 14 = .ok (.getfield 48, 3) := by decide +kernel
theorem d_X12_value_17 : decode mX12_value.2.2.1 17 = .ok (.iaload, 1) := by decide +kernel
theorem d_X12_value_18 : decode mX12_value.2.2.1 18 = .ok (.iconst 1, 1) := by decide +kernel
theorem d_X12_value_19 : decode mX12_value.2.2.1 19 = .ok (.isub, 1) := by decide +kernel
theorem d_X12_value_20 : decode mX12_value.2.2.1 20 = .ok (.invokestatic 467, 3) := by decide +kernel
theorem d_X12_value_23 : decode mX12_value.2.2.1 23 = .ok (.ifCond .eq 12, 3) := by decide +kernel
theorem d_X12_value_26 : decode mX12_value.2.2.1 26 = .ok (.aload_n 0, 1) := by decide +kernel
theorem d_X12_value_27 : decode mX12_value.2.2.1 27 = .ok (.getfield 291, 3) := by decide +kernel
theorem d_X12_value_30 : decode mX12_value.2.2.1 30 = .ok (.iload_n 1, 1) := by decide +kernel
theorem d_X12_value_31 : decode mX12_value.2.2.1 31 = .ok (.iaload, 1) := by decide +kernel
theorem d_X12_value_32 : decode mX12_value.2.2.1 32 = .ok (.goto 6, 3) := by decide +kernel
def mX12_spent : MD := (12, yX12_spent, cX12_spent, 3, some .int)
theorem d_X12_spent_0 : decode mX12_spent.2.2.1 0 = .ok (.aload_n 0, 1) := by decide +kernel
theorem d_X12_spent_1 : decode mX12_spent.2.2.1 1 = .ok (.getfield 270, 3) := by decide +kernel
theorem d_X12_spent_4 : decode mX12_spent.2.2.1 4 = .ok (.ifCond .eq 33, 3) := by decide +kernel
theorem d_X12_spent_37 : decode mX12_spent.2.2.1 37 = .ok (.iconst (-1), 1) := by decide +kernel
theorem d_X12_spent_38 : decode mX12_spent.2.2.1 38 = .ok (.ireturn, 1) := by decide +kernel
theorem d_X12_spent_7 : decode mX12_spent.2.2.1 7 = .ok (.aload_n 0, 1) := by decide +kernel
theorem d_X12_spent_8 : decode mX12_spent.2.2.1 8 = .ok (.iload_n 1, 1) := by decide +kernel
theorem d_X12_spent_9 : decode mX12_spent.2.2.1 9 = .ok (.invokevirtual 555, 3) := by decide +kernel
theorem d_X12_spent_12 : decode mX12_spent.2.2.1 12 = .ok (.ifCond .eq 25, 3) := by decide +kernel
theorem d_X12_spent_15 : decode mX12_spent.2.2.1 15 = .ok (.iload_n 2, 1) := by decide +kernel
theorem d_X12_spent_16 : decode mX12_spent.2.2.1 16 = .ok (.iconst 0, 1) := by decide +kernel
theorem d_X12_spent_17 : decode mX12_spent.2.2.1 17 = .ok (.iconst 3, 1) := by decide +kernel
theorem d_X12_spent_18 : decode mX12_spent.2.2.1 18 = .ok (.invokestatic 467, 3) := by decide +kernel
theorem d_X12_spent_21 : decode mX12_spent.2.2.1 21 = .ok (.ifCond .eq 16, 3) := by decide +kernel
theorem d_X12_spent_24 : decode mX12_spent.2.2.1 24 = .ok (.aload_n 0, 1) := by decide +kernel
theorem d_X12_spent_25 : decode mX12_spent.2.2.1 25 = .ok (.getfield 294, 3) := by decide +kernel
theorem d_X12_spent_28 : decode mX12_spent.2.2.1 28 = .ok (.iconst 4, 1) := by decide +kernel
theorem d_X12_spent_29 : decode mX12_spent.2.2.1 29 = .ok (.iload_n 1, 1) := by decide +kernel
theorem d_X12_spent_30 : decode mX12_spent.2.2.1 30 = .ok (.imul, 1) := by decide +kernel
theorem d_X12_spent_31 : decode mX12_spent.2.2.1 31 = .ok (.iload_n 2, 1) := by decide +kernel
theorem d_X12_spent_32 : decode mX12_spent.2.2.1 32 = .ok (.iadd, 1) := by decide +kernel
theorem d_X12_spent_33 : decode mX12_spent.2.2.1 33 = .ok (.iaload, 1) := by decide +kernel
theorem d_X12_spent_34 : decode mX12_spent.2.2.1 34 = .ok (.goto 4, 3) := by decide +kernel
def mX12_pays : MD := (12, yX12_pays, cX12_pays, 8, some .int)
theorem d_X12_pays_0 : decode mX12_pays.2.2.1 0 = .ok (.aload_n 0, 1) := by decide +kernel
theorem d_X12_pays_1 : decode mX12_pays.2.2.1 1 = .ok (.getfield 270, 3) := by decide +kernel
theorem d_X12_pays_4 : decode mX12_pays.2.2.1 4 = .ok (.ifCond .eq 25, 3) := by decide +kernel
theorem d_X12_pays_29 : decode mX12_pays.2.2.1 29 = .ok (.iconst (-1), 1) := by decide +kernel
theorem d_X12_pays_30 : decode mX12_pays.2.2.1 30 = .ok (.ireturn, 1) := by decide +kernel
theorem d_X12_pays_7 : decode mX12_pays.2.2.1 7 = .ok (.iload_n 2, 1) := by decide +kernel
theorem d_X12_pays_8 : decode mX12_pays.2.2.1 8 = .ok (.iconst 0, 1) := by decide +kernel
theorem d_X12_pays_9 : decode mX12_pays.2.2.1 9 = .ok (.iconst 1, 1) := by decide +kernel
theorem d_X12_pays_10 : decode mX12_pays.2.2.1 10 = .ok (.invokestatic 467, 3) := by decide +kernel
theorem d_X12_pays_13 : decode mX12_pays.2.2.1 13 = .ok (.ifCond .eq 16, 3) := by decide +kernel
theorem d_X12_pays_16 : decode mX12_pays.2.2.1 16 = .ok (.iload_n 1, 1) := by decide +kernel
theorem d_X12_pays_17 : decode mX12_pays.2.2.1 17 = .ok (.iconst (-1), 1) := by decide +kernel
theorem d_X12_pays_18 : decode mX12_pays.2.2.1 18 = .ok (.if_icmp .eq 13, 3) := by decide +kernel
theorem d_X12_pays_21 : decode mX12_pays.2.2.1 21 = .ok (.aload_n 0, 1) := by decide +kernel
theorem d_X12_pays_22 : decode mX12_pays.2.2.1 22 = .ok (.iload_n 1, 1) := by decide +kernel
theorem d_X12_pays_23 : decode mX12_pays.2.2.1 23 = .ok (.invokevirtual 656, 3) := by decide +kernel
def mX12_isLine : MD := (12, yX12_isLine, cX12_isLine, 2, some .boolean)
theorem sel_X12_isLine : Cond.instanceMethod mX12_isLine.2.1 ∈ tblG ∧ Cond.selects mX12_isLine.2.1.cls mX12_isLine.2.1 mX12_isLine.2.1 ∈ tblG := ⟨tblG_in (inT9 (List.mem_of_getElem? (i := 180) rfl)) rfl, tblG_in (inP8 (q := (mX12_isLine.2.1, 121)) (List.mem_of_getElem? (i := 15) rfl)) rfl⟩
theorem s_12_656 : e_siteV 12 656 mX12_isLine 12 := ⟨tblG_in (inT9 (List.mem_of_getElem? (i := 178) rfl)) rfl, sel_X12_isLine.1, sel_X12_isLine.2, rfl⟩
theorem d_X12_isLine_0 : decode mX12_isLine.2.2.1 0 = .ok (.iload_n 1, 1) := by decide +kernel
theorem d_X12_isLine_1 : decode mX12_isLine.2.2.1 1 = .ok (.iconst 0, 1) := by decide +kernel
theorem d_X12_isLine_2 : decode mX12_isLine.2.2.1 2 = .ok (.aload_n 0, 1) := by decide +kernel
theorem d_X12_isLine_3 : decode mX12_isLine.2.2.1 3 = .ok (.getfield 72, 3) := by decide +kernel
theorem d_X12_isLine_6 : decode mX12_isLine.2.2.1 6 = .ok (.aload_n 0, 1) := by decide +kernel
theorem d_X12_isLine_7 : decode mX12_isLine.2.2.1 7 = .ok (.getfield 48, 3) := by decide +kernel
theorem d_X12_isLine_10 : decode mX12_isLine.2.2.1 10 = .ok (.iaload, 1) := by decide +kernel
theorem d_X12_isLine_11 : decode mX12_isLine.2.2.1 11 = .ok (.iconst 1, 1) := by decide +kernel
theorem d_X12_isLine_12 : decode mX12_isLine.2.2.1 12 = .ok (.isub, 1) := by decide +kernel
theorem d_X12_isLine_13 : decode mX12_isLine.2.2.1 13 = .ok (.invokestatic 467, 3) := by decide +kernel
theorem d_X12_isLine_16 : decode mX12_isLine.2.2.1 16 = .ok (.ireturn, 1) := by decide +kernel
theorem ok_X12_isLine : e_m mX12_isLine 1 := ⟨tblG_in (inT9 (List.mem_of_getElem? (i := 181) rfl)) rfl, plainFor_of_name (by decide), rfl, ini_12, by decide +kernel, by decide⟩
theorem d_X12_pays_26 : decode mX12_pays.2.2.1 26 = .ok (.ifCond .ne 5, 3) := by decide +kernel
theorem d_X12_pays_31 : decode mX12_pays.2.2.1 31 = .ok (.lconst 0, 1) := by decide +kernel
theorem d_X12_pays_32 : decode mX12_pays.2.2.1 32 = .ok (.lstore_n 3, 1) := by decide +kernel
theorem d_X12_pays_33 : decode mX12_pays.2.2.1 33 = .ok (.iconst 0, 1) := by decide +kernel
theorem d_X12_pays_34 : decode mX12_pays.2.2.1 34 = .ok (.istore 5, 2) := by decide +kernel
theorem d_X12_pays_36 : decode mX12_pays.2.2.1 36 = .ok (.iload 5, 2) := by decide +kernel
theorem d_X12_pays_38 : decode mX12_pays.2.2.1 38 = .ok (.aload_n 0, 1) := by decide +kernel
theorem d_X12_pays_39 : decode mX12_pays.2.2.1 39 = .ok (.getfield 273, 3) := by decide +kernel
theorem d_X12_pays_42 : decode mX12_pays.2.2.1 42 = .ok (.if_icmp .ge 143, 3) := by decide +kernel
theorem d_X12_pays_185 : decode mX12_pays.2.2.1 185 = .ok (.iconst 0, 1) := by decide +kernel
theorem d_X12_pays_186 : decode mX12_pays.2.2.1 186 = .ok (.istore 5, 2) := by decide +kernel
theorem d_X12_pays_45 : decode mX12_pays.2.2.1 45 = .ok (.iload_n 1, 1) := by decide +kernel
theorem d_X12_pays_46 : decode mX12_pays.2.2.1 46 = .ok (.iconst (-1), 1) := by decide +kernel
theorem d_X12_pays_47 : decode mX12_pays.2.2.1 47 = .ok (.if_icmp .eq 27, 3) := by decide +kernel
theorem d_X12_pays_50 : decode mX12_pays.2.2.1 50 = .ok (.aload_n 0, 1) := by decide +kernel
theorem d_X12_pays_51 : decode mX12_pays.2.2.1 51 = .ok (.getfield 228, 3) := by decide +kernel
theorem d_X12_pays_54 : decode mX12_pays.2.2.1 54 = .ok (.iload 5, 2) := by decide +kernel
theorem d_X12_pays_56 : decode mX12_pays.2.2.1 56 = .ok (.iaload, 1) := by decide +kernel
theorem d_X12_pays_57 : decode mX12_pays.2.2.1 57 = .ok (.iload_n 1, 1) := by decide +kernel
theorem d_X12_pays_58 : decode mX12_pays.2.2.1 58 = .ok (.if_icmp .ne 16, 3) := by decide +kernel
theorem d_X12_pays_61 : decode mX12_pays.2.2.1 61 = .ok (.lload_n 3, 1) := by decide +kernel
theorem d_X12_pays_62 : decode mX12_pays.2.2.1 62 = .ok (.aload_n 0, 1) := by decide +kernel
theorem d_X12_pays_63 : decode mX12_pays.2.2.1 63 = .ok (.getfield 51, 3) := by decide +kernel
theorem d_X12_pays_66 : decode mX12_pays.2.2.1 66 = .ok (.aload_n 0, 1) := by decide +kernel
theorem d_X12_pays_67 : decode mX12_pays.2.2.1 67 = .ok (.getfield 48, 3) := by decide +kernel
theorem d_X12_pays_70 : decode mX12_pays.2.2.1 70 = .ok (.iaload, 1) := by decide +kernel
theorem d_X12_pays_71 : decode mX12_pays.2.2.1 71 = .ok (.i2l, 1) := by decide +kernel
theorem d_X12_pays_72 : decode mX12_pays.2.2.1 72 = .ok (.ladd, 1) := by decide +kernel
theorem d_X12_pays_73 : decode mX12_pays.2.2.1 73 = .ok (.lstore_n 3, 1) := by decide +kernel
theorem d_X12_pays_188 : decode mX12_pays.2.2.1 188 = .ok (.iload 5, 2) := by decide +kernel
theorem d_X12_pays_190 : decode mX12_pays.2.2.1 190 = .ok (.aload_n 0, 1) := by decide +kernel
theorem d_X12_pays_191 : decode mX12_pays.2.2.1 191 = .ok (.getfield 63, 3) := by decide +kernel
theorem d_X12_pays_194 : decode mX12_pays.2.2.1 194 = .ok (.aload_n 0, 1) := by decide +kernel
theorem d_X12_pays_195 : decode mX12_pays.2.2.1 195 = .ok (.getfield 48, 3) := by decide +kernel
theorem d_X12_pays_198 : decode mX12_pays.2.2.1 198 = .ok (.iaload, 1) := by decide +kernel
theorem d_X12_pays_199 : decode mX12_pays.2.2.1 199 = .ok (.if_icmp .ge 29, 3) := by decide +kernel
theorem d_X12_pays_228 : decode mX12_pays.2.2.1 228 = .ok (.lload_n 3, 1) := by decide +kernel
theorem d_X12_pays_229 : decode mX12_pays.2.2.1 229 = .ok (.l2i, 1) := by decide +kernel
theorem d_X12_pays_230 : decode mX12_pays.2.2.1 230 = .ok (.ireturn, 1) := by decide +kernel
theorem d_X12_pays_202 : decode mX12_pays.2.2.1 202 = .ok (.iload_n 1, 1) := by decide +kernel
theorem d_X12_pays_203 : decode mX12_pays.2.2.1 203 = .ok (.iconst (-1), 1) := by decide +kernel
theorem d_X12_pays_204 : decode mX12_pays.2.2.1 204 = .ok (.if_icmp .eq 24, 3) := by decide +kernel
theorem d_X12_pays_207 : decode mX12_pays.2.2.1 207 = .ok (.iload_n 2, 1) := by decide +kernel
theorem d_X12_pays_208 : decode mX12_pays.2.2.1 208 = .ok (.iconst 1, 1) := by decide +kernel
theorem d_X12_pays_209 : decode mX12_pays.2.2.1 209 = .ok (.if_icmp .ne 19, 3) := by decide +kernel
theorem d_X12_pays_212 : decode mX12_pays.2.2.1 212 = .ok (.lload_n 3, 1) := by decide +kernel
theorem d_X12_pays_213 : decode mX12_pays.2.2.1 213 = .ok (.aload_n 0, 1) := by decide +kernel
theorem d_X12_pays_214 : decode mX12_pays.2.2.1 214 = .ok (.iload 5, 2) := by decide +kernel
theorem d_X12_pays_216 : decode mX12_pays.2.2.1 216 = .ok (.iload_n 1, 1) := by decide +kernel
theorem d_X12_pays_217 : decode mX12_pays.2.2.1 217 = .ok (.invokevirtual 659, 3) := by decide +kernel
def mX12_sharesOf : MD := (12, yX12_sharesOf, cX12_sharesOf, 12, some .long)
theorem sel_X12_sharesOf : Cond.instanceMethod mX12_sharesOf.2.1 ∈ tblG ∧ Cond.selects mX12_sharesOf.2.1.cls mX12_sharesOf.2.1 mX12_sharesOf.2.1 ∈ tblG := ⟨tblG_in (inT9 (List.mem_of_getElem? (i := 184) rfl)) rfl, tblG_in (inP9 (q := (mX12_sharesOf.2.1, 121)) (List.mem_of_getElem? (i := 0) rfl)) rfl⟩
theorem s_12_659 : e_siteV 12 659 mX12_sharesOf 12 := ⟨tblG_in (inT9 (List.mem_of_getElem? (i := 182) rfl)) rfl, sel_X12_sharesOf.1, sel_X12_sharesOf.2, rfl⟩
end
