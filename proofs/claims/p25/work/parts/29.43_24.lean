/-! 43.24 -/
section
def ws_X5_fact_6_w9 : List (Int × Int) := [(6, 0), (6, 1), (6, 5), (6, 6), (15, 11)]
def as_X5_fact_6_w9 : List Int := [24, 25]
def q_X5_fact_6_w9 (M0 M' : Mem) (r : Option PV) : Prop := St Tru ws_X5_fact_6_w9 as_X5_fact_6_w9 M0 M' ∧ ∃ v : Int, r = some (0, v) ∧ 0 ≤ v ∧ v ≤ 1 ∧ ((1 ≤ v ∧ v ≤ 1) → rd M' 6 6 = 0)
set_option maxRecDepth 100000 in
set_option maxHeartbeats 4000000 in
theorem sp_X5_fact_6_w9 {l : Launch} {K : EC} {M0 : Mem} {xq : Int} (hI : In Tru M0) (hE : e_all K xq) (en_6_2 : rd M0 6 2 = 2) (en_6_3 : rd M0 6 3 = 7) (en_6_4 : rd M0 6 4 = 15) (en_6_6 : rd M0 6 6 = 0)   : Tr l K 39 mX5_fact 0 [(0, (2, 6))] [] M0 (q_X5_fact_6_w9 M0) := by
  have hS : St Tru ws_X5_fact_6_w9 as_X5_fact_6_w9 M0 M0 := St.rf hI
  refine Tr.iconst (pc := 0) d_X5_fact_0 (by decide) ?_
  refine Tr.istore_n (pc := 1) (i := 1) (ls2 := [(1, (0, 0)), (0, (2, 6))]) d_X5_fact_1 rfl (by decide) rfl ?_
  refine Tr.iconst (pc := 2) d_X5_fact_2 (by decide) ?_
  refine Tr.istore_n (pc := 3) (i := 2) (ls2 := [(2, (0, 0)), (1, (0, 0)), (0, (2, 6))]) d_X5_fact_3 rfl (by decide) rfl ?_
  have J4 : ∀ (n4 : Nat) (M : Mem) (p4_1 p4_2 : Int), St Tru ws_X5_fact_6_w9 as_X5_fact_6_w9 M0 M → (0 ≤ p4_1 ∧ p4_1 ≤ 1) → (0 ≤ p4_2 ∧ p4_2 ≤ 900) → rd M 6 6 = 0 → (900 - p4_2).toNat < n4 → Tr l K 39 mX5_fact 4 [(0, (2, 6)), (1, (0, p4_1)), (2, (0, p4_2))] [] M (q_X5_fact_6_w9 M0) := by
    intro n4
    induction n4 with
    | zero => intro M p4_1 p4_2 hS bp4_1 bp4_2 k4_6_6 hm4; exact absurd hm4 (Nat.not_lt_zero _)
    | succ n4 J4 =>
      intro M p4_1 p4_2 hS bp4_1 bp4_2 k4_6_6 hm4
      refine Tr.iload_n (pc := 4) (i := 2) d_X5_fact_4 rfl rfl ?_
      refine Tr.sipush (pc := 5) d_X5_fact_5 rfl (by decide) ?_
      have J41 : ∀ (M : Mem), St Tru ws_X5_fact_6_w9 as_X5_fact_6_w9 M0 M → rd M 6 6 = 0 → Tr l K 39 mX5_fact 41 [(0, (2, 6)), (1, (0, p4_1))] [] M (q_X5_fact_6_w9 M0) := by
        intro M  hS  k41_6_6
        refine Tr.aload_n (pc := 41) (i := 0) d_X5_fact_41 rfl rfl ?_
        refine Tr.callV (pc := 42) (as := []) d_X5_fact_42 s_5_221 ok_X5_plainFact rfl rfl (Nat.le_of_ble_eq_true rfl) (Nat.le_of_ble_eq_true rfl) (by decide) (ty_6 hS.1.1) ?_
        refine Tr.imp (Tr.deep (by decide) (sp_X5_plainFact_6_w9 hS.1 hE ((St.kp hS (by decide) (by decide) (by decide)).trans en_6_2) ((St.kp hS (by decide) (by decide) (by decide)).trans en_6_3) ((St.kp hS (by decide) (by decide) (by decide)).trans en_6_4) k41_6_6)) ?_
        rintro M42 _ ⟨h42, r42, rfl, lr42, ur42, x42_6_6⟩
        have hS := St.tr hS h42 (by decide) (by decide)
        refine Tr.sc [(0, r42)] rfl ?_
        refine Tr.istore_n (pc := 45) (i := 2) (ls2 := [(2, (0, r42)), (0, (2, 6)), (1, (0, p4_1))]) d_X5_fact_45 rfl (by decide) rfl ?_
        refine Tr.iload_n (pc := 46) (i := 1) d_X5_fact_46 rfl rfl ?_
        refine Tr.if_eq (pc := 47) (tgt := 59) d_X5_fact_47 rfl (fun c47 => ?_) (fun c47 => ?_)
        · refine Tr.iload_n (pc := 59) (i := 2) d_X5_fact_59 rfl rfl ?_
          exact Tr.zret (pc := 60) d_X5_fact_60 rfl (by omega) ⟨hS, _, rfl, by omega, by omega, fun hq => (x42_6_6 (by omega))⟩
        · refine Tr.aload_n (pc := 50) (i := 0) d_X5_fact_50 rfl rfl ?_
          refine Tr.getf (pc := 51) d_X5_fact_51 f_5_32 (by decide) (by decide) (ty_6 hS.1.1) ?_
          refine Tr.tp 15 ((St.kp hS (by decide) (by decide) (by decide)).trans en_6_4) ?_
          refine Tr.iconst (pc := 54) d_X5_fact_54 (by decide) ?_
          refine Tr.iconst (pc := 55) d_X5_fact_55 (by decide) ?_
          refine Tr.callV (pc := 56) (as := [_, _]) d_X5_fact_56 s_5_215 ok_X4_emit rfl rfl (Nat.le_of_ble_eq_true rfl) (Nat.le_of_ble_eq_true rfl) (by decide) (ty_15 hS.1.1) ?_
          refine Tr.imp (Tr.deep (by decide) (sp_X4_emit_15_w7 hS.1.wk 5 (by omega) 0 (by omega) (by omega))) ?_
          rintro M56 _ ⟨h56, rfl⟩
          have hS := St.tr hS h56 (by decide) (by decide)
          refine Tr.sc [] rfl ?_
          refine Tr.iload_n (pc := 59) (i := 2) d_X5_fact_59 rfl rfl ?_
          exact Tr.zret (pc := 60) d_X5_fact_60 rfl (by omega) ⟨hS, _, rfl, by omega, by omega, fun hq => ((St.kp h56 (by decide) (by decide) (by decide)).trans (x42_6_6 (by omega)))⟩
      refine Tr.icmp_ge (pc := 8) (tgt := 41) d_X5_fact_8 rfl (fun c8 => ?_) (fun c8 => ?_)
      · refine Tr.pick [0, 1] (ls2 := [(0, (2, 6)), (1, (0, p4_1))]) rfl ?_
        exact J41 _ hS k4_6_6
      · refine Tr.aload_n (pc := 11) (i := 0) d_X5_fact_11 rfl rfl ?_
        refine Tr.bipush (pc := 12) d_X5_fact_12 rfl (by decide) ?_
        refine Tr.callV (pc := 14) (as := [_]) d_X5_fact_14 s_5_71 ok_X5_isOwn rfl rfl (Nat.le_of_ble_eq_true rfl) (Nat.le_of_ble_eq_true rfl) (by decide) (ty_6 hS.1.1) ?_
        refine Tr.imp (Tr.deep (by decide) (sp_X5_isOwn_6_w4 hS.1 ((St.kp hS (by decide) (by decide) (by decide)).trans en_6_2) 21 (by omega))) ?_
        rintro M14 _ ⟨h14, r14, rfl, lr14, ur14⟩
        have hS := St.tr hS h14 (by decide) (by decide)
        refine Tr.sc [(0, r14)] rfl ?_
        refine Tr.if_eq (pc := 17) (tgt := 41) d_X5_fact_17 rfl (fun c17 => ?_) (fun c17 => ?_)
        · refine Tr.pick [0, 1] (ls2 := [(0, (2, 6)), (1, (0, p4_1))]) rfl ?_
          exact J41 _ hS ((St.kp h14 (by decide) (by decide) (by decide)).trans k4_6_6)
        · refine Tr.aload_n (pc := 20) (i := 0) d_X5_fact_20 rfl rfl ?_
          refine Tr.callV (pc := 21) (as := []) d_X5_fact_21 s_5_74 ok_X5_goOn rfl rfl (Nat.le_of_ble_eq_true rfl) (Nat.le_of_ble_eq_true rfl) (by decide) (ty_6 hS.1.1) ?_
          refine Tr.imp (Tr.deep (by decide) (sp_X5_goOn_6 hS.1 )) ?_
          rintro M21 _ ⟨h21, r21, rfl, lr21, ur21⟩
          have hS := St.tr hS h21 (by decide) (by decide)
          refine Tr.sc [(0, r21)] rfl ?_
          refine Tr.pop (pc := 24) d_X5_fact_24 ne01 ?_
          refine Tr.iload_n (pc := 25) (i := 1) d_X5_fact_25 rfl rfl ?_
          have J34 : ∀ (M : Mem) (q34_0 : Int), St Tru ws_X5_fact_6_w9 as_X5_fact_6_w9 M0 M → (0 ≤ q34_0 ∧ q34_0 ≤ 1) → rd M 6 6 = 0 → Tr l K 39 mX5_fact 34 [(0, (2, 6)), (2, (0, p4_2))] [(0, q34_0)] M (q_X5_fact_6_w9 M0) := by
            intro M q34_0 hS bq34_0 k34_6_6
            refine Tr.istore_n (pc := 34) (i := 1) (ls2 := [(1, (0, q34_0)), (0, (2, 6)), (2, (0, p4_2))]) d_X5_fact_34 rfl (by decide) rfl ?_
            refine Tr.iincV (pc := 35) (n2 := (p4_2 + 1)) (ls2 := [(2, (0, (p4_2 + 1))), (1, (0, q34_0)), (0, (2, 6))]) d_X5_fact_35 rfl (by decide) ((w32_id (by omega)).trans (by omega)) rfl ?_
            refine Tr.goto (pc := 38) (tgt := 4) d_X5_fact_38 rfl ?_
            refine Tr.pick [2, 1, 0] (ls2 := [(0, (2, 6)), (1, (0, q34_0)), (2, (0, (p4_2 + 1)))]) rfl ?_
            exact J4 _ _ _ hS (by omega) (by omega) k34_6_6 (by omega)
          refine Tr.if_ne (pc := 26) (tgt := 33) d_X5_fact_26 rfl (fun c26 => ?_) (fun c26 => ?_)
          · refine Tr.iconst (pc := 33) d_X5_fact_33 (by decide) ?_
            refine Tr.pick [0, 2] (ls2 := [(0, (2, 6)), (2, (0, p4_2))]) rfl ?_
            exact J34 _ _ hS (by omega) ((St.kp h21 (by decide) (by decide) (by decide)).trans ((St.kp h14 (by decide) (by decide) (by decide)).trans k4_6_6))
          · refine Tr.iconst (pc := 29) d_X5_fact_29 (by decide) ?_
            refine Tr.goto (pc := 30) (tgt := 34) d_X5_fact_30 rfl ?_
            refine Tr.pick [0, 2] (ls2 := [(0, (2, 6)), (2, (0, p4_2))]) rfl ?_
            exact J34 _ _ hS (by omega) ((St.kp h21 (by decide) (by decide) (by decide)).trans ((St.kp h14 (by decide) (by decide) (by decide)).trans k4_6_6))
  refine Tr.pick [2, 1, 0] (ls2 := [(0, (2, 6)), (1, (0, 0)), (2, (0, 0))]) rfl ?_
  exact J4 _ _ _ _ hS (by omega) (by omega) en_6_6 (Nat.lt_succ_self _)

def ws_X5_both_6_w9 : List (Int × Int) := [(6, 0), (6, 1), (6, 5), (6, 6), (15, 11)]
def as_X5_both_6_w9 : List Int := [24, 25]
def q_X5_both_6_w9 (M0 M' : Mem) (r : Option PV) : Prop := St Tru ws_X5_both_6_w9 as_X5_both_6_w9 M0 M' ∧ ∃ v : Int, r = some (0, v) ∧ 0 ≤ v ∧ v ≤ 1 ∧ ((1 ≤ v ∧ v ≤ 1) → rd M' 6 6 = 0)
set_option maxRecDepth 100000 in
set_option maxHeartbeats 4000000 in
theorem sp_X5_both_6_w9 {l : Launch} {K : EC} {M0 : Mem} {xq : Int} (hI : In Tru M0) (hE : e_all K xq) (en_6_2 : rd M0 6 2 = 2) (en_6_3 : rd M0 6 3 = 7) (en_6_4 : rd M0 6 4 = 15) (en_6_6 : rd M0 6 6 = 0)   : Tr l K 40 mX5_both 0 [(0, (2, 6))] [] M0 (q_X5_both_6_w9 M0) := by
  have hS : St Tru ws_X5_both_6_w9 as_X5_both_6_w9 M0 M0 := St.rf hI
  refine Tr.aload_n (pc := 0) (i := 0) d_X5_both_0 rfl rfl ?_
  refine Tr.callV (pc := 1) (as := []) d_X5_both_1 s_5_218 ok_X5_fact rfl rfl (Nat.le_of_ble_eq_true rfl) (Nat.le_of_ble_eq_true rfl) (by decide) (ty_6 hS.1.1) ?_
  refine Tr.imp (Tr.deep (by decide) (sp_X5_fact_6_w9 hS.1 hE ((St.kp hS (by decide) (by decide) (by decide)).trans en_6_2) ((St.kp hS (by decide) (by decide) (by decide)).trans en_6_3) ((St.kp hS (by decide) (by decide) (by decide)).trans en_6_4) en_6_6)) ?_
  rintro M1 _ ⟨h1, r1, rfl, lr1, ur1, x1_6_6⟩
  have hS := St.tr hS h1 (by decide) (by decide)
  refine Tr.sc [(0, r1)] rfl ?_
  refine Tr.istore_n (pc := 4) (i := 1) (ls2 := [(1, (0, r1)), (0, (2, 6))]) d_X5_both_4 rfl (by decide) rfl ?_
  refine Tr.iconst (pc := 5) d_X5_both_5 (by decide) ?_
  refine Tr.istore_n (pc := 6) (i := 2) (ls2 := [(2, (0, 0)), (1, (0, r1)), (0, (2, 6))]) d_X5_both_6 rfl (by decide) rfl ?_
  have J7 : ∀ (n7 : Nat) (M : Mem) (p7_1 p7_2 : Int), St Tru ws_X5_both_6_w9 as_X5_both_6_w9 M0 M → (0 ≤ p7_1 ∧ p7_1 ≤ 1) → (0 ≤ p7_2 ∧ p7_2 ≤ 900) → (p7_1 = 1 → rd M 6 6 = 0) → (900 - p7_2).toNat < n7 → Tr l K 40 mX5_both 7 [(0, (2, 6)), (1, (0, p7_1)), (2, (0, p7_2))] [] M (q_X5_both_6_w9 M0) := by
    intro n7
    induction n7 with
    | zero => intro M p7_1 p7_2 hS bp7_1 bp7_2  y7_p7_1_6_60 hm7; exact absurd hm7 (Nat.not_lt_zero _)
    | succ n7 J7 =>
      intro M p7_1 p7_2 hS bp7_1 bp7_2  y7_p7_1_6_60 hm7
      have y7_p7_1_6_6 : 1 ≤ p7_1 ∧ p7_1 ≤ 1 → rd M 6 6 = 0 := fun hq => y7_p7_1_6_60 (by omega)
      refine Tr.iload_n (pc := 7) (i := 2) d_X5_both_7 rfl rfl ?_
      refine Tr.sipush (pc := 8) d_X5_both_8 rfl (by decide) ?_
      refine Tr.icmp_ge (pc := 11) (tgt := 53) d_X5_both_11 rfl (fun c11 => ?_) (fun c11 => ?_)
      · refine Tr.iload_n (pc := 53) (i := 1) d_X5_both_53 rfl rfl ?_
        exact Tr.zret (pc := 54) d_X5_both_54 rfl (by omega) ⟨hS, _, rfl, by omega, by omega, fun hq => (y7_p7_1_6_6 (by omega))⟩
      · refine Tr.iload_n (pc := 14) (i := 1) d_X5_both_14 rfl rfl ?_
        refine Tr.if_eq (pc := 15) (tgt := 53) d_X5_both_15 rfl (fun c15 => ?_) (fun c15 => ?_)
        · refine Tr.iload_n (pc := 53) (i := 1) d_X5_both_53 rfl rfl ?_
          exact Tr.zret (pc := 54) d_X5_both_54 rfl (by omega) ⟨hS, _, rfl, by omega, by omega, fun hq => absurd hq (by omega)⟩
        · refine Tr.aload_n (pc := 18) (i := 0) d_X5_both_18 rfl rfl ?_
          refine Tr.bipush (pc := 19) d_X5_both_19 rfl (by decide) ?_
          refine Tr.callV (pc := 21) (as := [_]) d_X5_both_21 s_5_71 ok_X5_isOwn rfl rfl (Nat.le_of_ble_eq_true rfl) (Nat.le_of_ble_eq_true rfl) (by decide) (ty_6 hS.1.1) ?_
          refine Tr.imp (Tr.deep (by decide) (sp_X5_isOwn_6_w3 hS.1 ((St.kp hS (by decide) (by decide) (by decide)).trans en_6_2) 20 (by omega))) ?_
          rintro M21 _ ⟨h21, r21, rfl, lr21, ur21⟩
          have hS := St.tr hS h21 (by decide) (by decide)
          refine Tr.sc [(0, r21)] rfl ?_
          refine Tr.if_eq (pc := 24) (tgt := 53) d_X5_both_24 rfl (fun c24 => ?_) (fun c24 => ?_)
          · refine Tr.iload_n (pc := 53) (i := 1) d_X5_both_53 rfl rfl ?_
            exact Tr.zret (pc := 54) d_X5_both_54 rfl (by omega) ⟨hS, _, rfl, by omega, by omega, fun _ => ((St.kp h21 (by decide) (by decide) (by decide)).trans (y7_p7_1_6_6 (by omega)))⟩
          · refine Tr.aload_n (pc := 27) (i := 0) d_X5_both_27 rfl rfl ?_
            refine Tr.callV (pc := 28) (as := []) d_X5_both_28 s_5_74 ok_X5_goOn rfl rfl (Nat.le_of_ble_eq_true rfl) (Nat.le_of_ble_eq_true rfl) (by decide) (ty_6 hS.1.1) ?_
            refine Tr.imp (Tr.deep (by decide) (sp_X5_goOn_6 hS.1 )) ?_
            rintro M28 _ ⟨h28, r28, rfl, lr28, ur28⟩
            have hS := St.tr hS h28 (by decide) (by decide)
            refine Tr.sc [(0, r28)] rfl ?_
            refine Tr.pop (pc := 31) d_X5_both_31 ne01 ?_
            refine Tr.aload_n (pc := 32) (i := 0) d_X5_both_32 rfl rfl ?_
            refine Tr.callV (pc := 33) (as := []) d_X5_both_33 s_5_218 ok_X5_fact rfl rfl (Nat.le_of_ble_eq_true rfl) (Nat.le_of_ble_eq_true rfl) (by decide) (ty_6 hS.1.1) ?_
            refine Tr.imp (Tr.deep (by decide) (sp_X5_fact_6_w9 hS.1 hE ((St.kp hS (by decide) (by decide) (by decide)).trans en_6_2) ((St.kp hS (by decide) (by decide) (by decide)).trans en_6_3) ((St.kp hS (by decide) (by decide) (by decide)).trans en_6_4) ((St.kp h28 (by decide) (by decide) (by decide)).trans ((St.kp h21 (by decide) (by decide) (by decide)).trans (y7_p7_1_6_6 (by omega)))))) ?_
            rintro M33 _ ⟨h33, r33, rfl, lr33, ur33, x33_6_6⟩
            have hS := St.tr hS h33 (by decide) (by decide)
            refine Tr.sc [(0, r33)] rfl ?_
            refine Tr.istore_n (pc := 36) (i := 1) (ls2 := [(1, (0, r33)), (0, (2, 6)), (2, (0, p7_2))]) d_X5_both_36 rfl (by decide) rfl ?_
            refine Tr.aload_n (pc := 37) (i := 0) d_X5_both_37 rfl rfl ?_
            refine Tr.getf (pc := 38) d_X5_both_38 f_5_32 (by decide) (by decide) (ty_6 hS.1.1) ?_
            refine Tr.tp 15 ((St.kp hS (by decide) (by decide) (by decide)).trans en_6_4) ?_
            refine Tr.bipush (pc := 41) d_X5_both_41 rfl (by decide) ?_
            refine Tr.iconst (pc := 43) d_X5_both_43 (by decide) ?_
            refine Tr.callV (pc := 44) (as := [_, _]) d_X5_both_44 s_5_215 ok_X4_emit rfl rfl (Nat.le_of_ble_eq_true rfl) (Nat.le_of_ble_eq_true rfl) (by decide) (ty_15 hS.1.1) ?_
            refine Tr.imp (Tr.deep (by decide) (sp_X4_emit_15_w9 hS.1.wk 16 (by omega) 0 (by omega) (by omega))) ?_
            rintro M44 _ ⟨h44, rfl⟩
            have hS := St.tr hS h44 (by decide) (by decide)
            refine Tr.sc [] rfl ?_
            refine Tr.iincV (pc := 47) (n2 := (p7_2 + 1)) (ls2 := [(2, (0, (p7_2 + 1))), (1, (0, r33)), (0, (2, 6))]) d_X5_both_47 rfl (by decide) ((w32_id (by omega)).trans (by omega)) rfl ?_
            refine Tr.goto (pc := 50) (tgt := 7) d_X5_both_50 rfl ?_
            refine Tr.pick [2, 1, 0] (ls2 := [(0, (2, 6)), (1, (0, r33)), (2, (0, (p7_2 + 1)))]) rfl ?_
            exact J7 _ _ _ hS (by omega) (by omega) (fun hq => ((St.kp h44 (by decide) (by decide) (by decide)).trans (x33_6_6 (by omega)))) (by omega)
  refine Tr.pick [2, 1, 0] (ls2 := [(0, (2, 6)), (1, (0, r1)), (2, (0, 0))]) rfl ?_
  exact J7 _ _ _ _ hS (by omega) (by omega) (fun hq => (x1_6_6 (by omega))) (Nat.lt_succ_self _)

def ws_X5_test_6_w9 : List (Int × Int) := [(6, 0), (6, 1), (6, 5), (6, 6), (15, 11)]
def as_X5_test_6_w9 : List Int := [24, 25]
def q_X5_test_6_w9 (M0 M' : Mem) (r : Option PV) : Prop := St Tru ws_X5_test_6_w9 as_X5_test_6_w9 M0 M' ∧ ∃ v : Int, r = some (0, v) ∧ 0 ≤ v ∧ v ≤ 1 ∧ ((1 ≤ v ∧ v ≤ 1) → rd M' 6 6 = 0)
set_option maxRecDepth 100000 in
set_option maxHeartbeats 4000000 in
theorem sp_X5_test_6_w9 {l : Launch} {K : EC} {M0 : Mem} {xq : Int} (hI : In Tru M0) (hE : e_all K xq) (en_6_2 : rd M0 6 2 = 2) (en_6_3 : rd M0 6 3 = 7) (en_6_4 : rd M0 6 4 = 15) (en_6_6 : rd M0 6 6 = 0)   : Tr l K 41 mX5_test 0 [(0, (2, 6))] [] M0 (q_X5_test_6_w9 M0) := by
  have hS : St Tru ws_X5_test_6_w9 as_X5_test_6_w9 M0 M0 := St.rf hI
  refine Tr.aload_n (pc := 0) (i := 0) d_X5_test_0 rfl rfl ?_
  refine Tr.callV (pc := 1) (as := []) d_X5_test_1 s_5_212 ok_X5_both rfl rfl (Nat.le_of_ble_eq_true rfl) (Nat.le_of_ble_eq_true rfl) (by decide) (ty_6 hS.1.1) ?_
  refine Tr.imp (Tr.deep (by decide) (sp_X5_both_6_w9 hS.1 hE ((St.kp hS (by decide) (by decide) (by decide)).trans en_6_2) ((St.kp hS (by decide) (by decide) (by decide)).trans en_6_3) ((St.kp hS (by decide) (by decide) (by decide)).trans en_6_4) en_6_6)) ?_
  rintro M1 _ ⟨h1, r1, rfl, lr1, ur1, x1_6_6⟩
  have hS := St.tr hS h1 (by decide) (by decide)
  refine Tr.sc [(0, r1)] rfl ?_
  refine Tr.istore_n (pc := 4) (i := 1) (ls2 := [(1, (0, r1)), (0, (2, 6))]) d_X5_test_4 rfl (by decide) rfl ?_
  refine Tr.iconst (pc := 5) d_X5_test_5 (by decide) ?_
  refine Tr.istore_n (pc := 6) (i := 2) (ls2 := [(2, (0, 0)), (1, (0, r1)), (0, (2, 6))]) d_X5_test_6 rfl (by decide) rfl ?_
  have J7 : ∀ (n7 : Nat) (M : Mem) (p7_1 p7_2 : Int), St Tru ws_X5_test_6_w9 as_X5_test_6_w9 M0 M → (0 ≤ p7_1 ∧ p7_1 ≤ 1) → (0 ≤ p7_2 ∧ p7_2 ≤ 900) → (p7_1 = 1 → rd M 6 6 = 0) → (900 - p7_2).toNat < n7 → Tr l K 41 mX5_test 7 [(0, (2, 6)), (1, (0, p7_1)), (2, (0, p7_2))] [] M (q_X5_test_6_w9 M0) := by
    intro n7
    induction n7 with
    | zero => intro M p7_1 p7_2 hS bp7_1 bp7_2  y7_p7_1_6_60 hm7; exact absurd hm7 (Nat.not_lt_zero _)
    | succ n7 J7 =>
      intro M p7_1 p7_2 hS bp7_1 bp7_2  y7_p7_1_6_60 hm7
      have y7_p7_1_6_6 : 1 ≤ p7_1 ∧ p7_1 ≤ 1 → rd M 6 6 = 0 := fun hq => y7_p7_1_6_60 (by omega)
      refine Tr.iload_n (pc := 7) (i := 2) d_X5_test_7 rfl rfl ?_
      refine Tr.sipush (pc := 8) d_X5_test_8 rfl (by decide) ?_
      refine Tr.icmp_ge (pc := 11) (tgt := 53) d_X5_test_11 rfl (fun c11 => ?_) (fun c11 => ?_)
      · refine Tr.iload_n (pc := 53) (i := 1) d_X5_test_53 rfl rfl ?_
        exact Tr.zret (pc := 54) d_X5_test_54 rfl (by omega) ⟨hS, _, rfl, by omega, by omega, fun hq => (y7_p7_1_6_6 (by omega))⟩
      · refine Tr.iload_n (pc := 14) (i := 1) d_X5_test_14 rfl rfl ?_
        refine Tr.if_eq (pc := 15) (tgt := 53) d_X5_test_15 rfl (fun c15 => ?_) (fun c15 => ?_)
        · refine Tr.iload_n (pc := 53) (i := 1) d_X5_test_53 rfl rfl ?_
          exact Tr.zret (pc := 54) d_X5_test_54 rfl (by omega) ⟨hS, _, rfl, by omega, by omega, fun hq => absurd hq (by omega)⟩
        · refine Tr.aload_n (pc := 18) (i := 0) d_X5_test_18 rfl rfl ?_
          refine Tr.bipush (pc := 19) d_X5_test_19 rfl (by decide) ?_
          refine Tr.callV (pc := 21) (as := [_]) d_X5_test_21 s_5_71 ok_X5_isOwn rfl rfl (Nat.le_of_ble_eq_true rfl) (Nat.le_of_ble_eq_true rfl) (by decide) (ty_6 hS.1.1) ?_
          refine Tr.imp (Tr.deep (by decide) (sp_X5_isOwn_6_w3 hS.1 ((St.kp hS (by decide) (by decide) (by decide)).trans en_6_2) 19 (by omega))) ?_
          rintro M21 _ ⟨h21, r21, rfl, lr21, ur21⟩
          have hS := St.tr hS h21 (by decide) (by decide)
          refine Tr.sc [(0, r21)] rfl ?_
          refine Tr.if_eq (pc := 24) (tgt := 53) d_X5_test_24 rfl (fun c24 => ?_) (fun c24 => ?_)
          · refine Tr.iload_n (pc := 53) (i := 1) d_X5_test_53 rfl rfl ?_
            exact Tr.zret (pc := 54) d_X5_test_54 rfl (by omega) ⟨hS, _, rfl, by omega, by omega, fun _ => ((St.kp h21 (by decide) (by decide) (by decide)).trans (y7_p7_1_6_6 (by omega)))⟩
          · refine Tr.aload_n (pc := 27) (i := 0) d_X5_test_27 rfl rfl ?_
            refine Tr.callV (pc := 28) (as := []) d_X5_test_28 s_5_74 ok_X5_goOn rfl rfl (Nat.le_of_ble_eq_true rfl) (Nat.le_of_ble_eq_true rfl) (by decide) (ty_6 hS.1.1) ?_
            refine Tr.imp (Tr.deep (by decide) (sp_X5_goOn_6 hS.1 )) ?_
            rintro M28 _ ⟨h28, r28, rfl, lr28, ur28⟩
            have hS := St.tr hS h28 (by decide) (by decide)
            refine Tr.sc [(0, r28)] rfl ?_
            refine Tr.pop (pc := 31) d_X5_test_31 ne01 ?_
            refine Tr.aload_n (pc := 32) (i := 0) d_X5_test_32 rfl rfl ?_
            refine Tr.callV (pc := 33) (as := []) d_X5_test_33 s_5_212 ok_X5_both rfl rfl (Nat.le_of_ble_eq_true rfl) (Nat.le_of_ble_eq_true rfl) (by decide) (ty_6 hS.1.1) ?_
            refine Tr.imp (Tr.deep (by decide) (sp_X5_both_6_w9 hS.1 hE ((St.kp hS (by decide) (by decide) (by decide)).trans en_6_2) ((St.kp hS (by decide) (by decide) (by decide)).trans en_6_3) ((St.kp hS (by decide) (by decide) (by decide)).trans en_6_4) ((St.kp h28 (by decide) (by decide) (by decide)).trans ((St.kp h21 (by decide) (by decide) (by decide)).trans (y7_p7_1_6_6 (by omega)))))) ?_
            rintro M33 _ ⟨h33, r33, rfl, lr33, ur33, x33_6_6⟩
            have hS := St.tr hS h33 (by decide) (by decide)
            refine Tr.sc [(0, r33)] rfl ?_
            refine Tr.istore_n (pc := 36) (i := 1) (ls2 := [(1, (0, r33)), (0, (2, 6)), (2, (0, p7_2))]) d_X5_test_36 rfl (by decide) rfl ?_
            refine Tr.aload_n (pc := 37) (i := 0) d_X5_test_37 rfl rfl ?_
            refine Tr.getf (pc := 38) d_X5_test_38 f_5_32 (by decide) (by decide) (ty_6 hS.1.1) ?_
            refine Tr.tp 15 ((St.kp hS (by decide) (by decide) (by decide)).trans en_6_4) ?_
            refine Tr.bipush (pc := 41) d_X5_test_41 rfl (by decide) ?_
            refine Tr.iconst (pc := 43) d_X5_test_43 (by decide) ?_
            refine Tr.callV (pc := 44) (as := [_, _]) d_X5_test_44 s_5_215 ok_X4_emit rfl rfl (Nat.le_of_ble_eq_true rfl) (Nat.le_of_ble_eq_true rfl) (by decide) (ty_15 hS.1.1) ?_
            refine Tr.imp (Tr.deep (by decide) (sp_X4_emit_15_w10 hS.1.wk 17 (by omega) 0 (by omega) (by omega))) ?_
            rintro M44 _ ⟨h44, rfl⟩
            have hS := St.tr hS h44 (by decide) (by decide)
            refine Tr.sc [] rfl ?_
            refine Tr.iincV (pc := 47) (n2 := (p7_2 + 1)) (ls2 := [(2, (0, (p7_2 + 1))), (1, (0, r33)), (0, (2, 6))]) d_X5_test_47 rfl (by decide) ((w32_id (by omega)).trans (by omega)) rfl ?_
            refine Tr.goto (pc := 50) (tgt := 7) d_X5_test_50 rfl ?_
            refine Tr.pick [2, 1, 0] (ls2 := [(0, (2, 6)), (1, (0, r33)), (2, (0, (p7_2 + 1)))]) rfl ?_
            exact J7 _ _ _ hS (by omega) (by omega) (fun hq => ((St.kp h44 (by decide) (by decide) (by decide)).trans (x33_6_6 (by omega)))) (by omega)
  refine Tr.pick [2, 1, 0] (ls2 := [(0, (2, 6)), (1, (0, r1)), (2, (0, 0))]) rfl ?_
  exact J7 _ _ _ _ hS (by omega) (by omega) (fun hq => (x1_6_6 (by omega))) (Nat.lt_succ_self _)

def ws_X4_open_15_w1 : List (Int × Int) := [(15, 0)]
def as_X4_open_15_w1 : List Int := [16, 17, 18, 19, 20, 21, 22]
def q_X4_open_15_w1 (M0 M' : Mem) (r : Option PV) : Prop := St Tru ws_X4_open_15_w1 as_X4_open_15_w1 M0 M' ∧ ∃ v : Int, r = some (0, v) ∧ 0 ≤ v ∧ v ≤ 59
set_option maxRecDepth 100000 in
set_option maxHeartbeats 4000000 in
theorem sp_X4_open_15_w1 {l : Launch} {K : EC} {M0 : Mem} (hI : In Tru M0)  (a1 : Int) (ha1 : (-2147483648) ≤ a1 ∧ a1 ≤ 2147483647) (a2 : Int) (ha2 : 0 ≤ a2 ∧ a2 ≤ 59)  (hpm : rd M0 15 0 ≤ 59) : Tr l K 0 mX4_open 0 [(0, (2, 15)), (1, (0, a1)), (2, (0, a2))] [] M0 (q_X4_open_15_w1 M0) := by
  have hS : St Tru ws_X4_open_15_w1 as_X4_open_15_w1 M0 M0 := St.rf hI
  refine Tr.aload_n (pc := 0) (i := 0) d_X4_open_0 rfl rfl ?_
  refine Tr.getf (pc := 1) d_X4_open_1 f_4_45 (by decide) (by decide) (ty_15 hS.1.1) ?_
  refine Tr.gen (P := fun v => 0 ≤ v ∧ v ≤ 59) (by have h8 := ir_15_0 hS.1.2.1; exact ⟨h8.1, hpm⟩) (fun r1 er1 br1 => ?_)
  refine Tr.istore_n (pc := 4) (i := 3) (ls2 := [(3, (0, r1)), (0, (2, 15)), (1, (0, a1)), (2, (0, a2))]) d_X4_open_4 rfl (by decide) rfl ?_
  refine Tr.aload_n (pc := 5) (i := 0) d_X4_open_5 rfl rfl ?_
  refine Tr.getf (pc := 6) d_X4_open_6 f_4_9 (by decide) (by decide) (ty_15 hS.1.1) ?_
  refine Tr.tp 16 (fx_15_1 hS.1.1) ?_
  refine Tr.iload_n (pc := 9) (i := 3) d_X4_open_9 rfl rfl ?_
  refine Tr.iload_n (pc := 10) (i := 1) d_X4_open_10 rfl rfl ?_
  refine Tr.iastS (pc := 11) (P := St Tru ws_X4_open_15_w1 as_X4_open_15_w1 M0) d_X4_open_11 (ty_16 hS.1.1) (by omega) (by omega) (sa_16 hS (by decide) (by omega) trivial) (fun M11 hS w11 => ?_)
  refine Tr.aload_n (pc := 12) (i := 0) d_X4_open_12 rfl rfl ?_
  refine Tr.getf (pc := 13) d_X4_open_13 f_4_15 (by decide) (by decide) (ty_15 hS.1.1) ?_
  refine Tr.tp 17 (fx_15_2 hS.1.1) ?_
  refine Tr.iload_n (pc := 16) (i := 3) d_X4_open_16 rfl rfl ?_
  refine Tr.iconst (pc := 17) d_X4_open_17 (by decide) ?_
  refine Tr.iastS (pc := 18) (P := St Tru ws_X4_open_15_w1 as_X4_open_15_w1 M0) d_X4_open_18 (ty_17 hS.1.1) (by omega) (by omega) (sa_17 hS (by decide) (by omega) trivial) (fun M18 hS w18 => ?_)
  refine Tr.aload_n (pc := 19) (i := 0) d_X4_open_19 rfl rfl ?_
  refine Tr.getf (pc := 20) d_X4_open_20 f_4_18 (by decide) (by decide) (ty_15 hS.1.1) ?_
  refine Tr.tp 18 (fx_15_3 hS.1.1) ?_
  refine Tr.iload_n (pc := 23) (i := 3) d_X4_open_23 rfl rfl ?_
  refine Tr.aload_n (pc := 24) (i := 0) d_X4_open_24 rfl rfl ?_
  refine Tr.getf (pc := 25) d_X4_open_25 f_4_49 (by decide) (by decide) (ty_15 hS.1.1) ?_
  refine Tr.gen (P := fun v => 0 ≤ v ∧ v ≤ 900) (ir_15_11 hS.1.2.1) (fun r25 er25 br25 => ?_)
  refine Tr.iastS (pc := 28) (P := St Tru ws_X4_open_15_w1 as_X4_open_15_w1 M0) d_X4_open_28 (ty_18 hS.1.1) (by omega) (by omega) (sa_18 hS (by decide) (by omega) trivial) (fun M28 hS w28 => ?_)
  refine Tr.aload_n (pc := 29) (i := 0) d_X4_open_29 rfl rfl ?_
  refine Tr.getf (pc := 30) d_X4_open_30 f_4_21 (by decide) (by decide) (ty_15 hS.1.1) ?_
  refine Tr.tp 19 (fx_15_4 hS.1.1) ?_
  refine Tr.iload_n (pc := 33) (i := 3) d_X4_open_33 rfl rfl ?_
  refine Tr.iconst (pc := 34) d_X4_open_34 (by decide) ?_
  refine Tr.iastS (pc := 35) (P := St Tru ws_X4_open_15_w1 as_X4_open_15_w1 M0) d_X4_open_35 (ty_19 hS.1.1) (by omega) (by omega) (sa_19 hS (by decide) (by omega) trivial) (fun M35 hS w35 => ?_)
  refine Tr.aload_n (pc := 36) (i := 0) d_X4_open_36 rfl rfl ?_
  refine Tr.getf (pc := 37) d_X4_open_37 f_4_24 (by decide) (by decide) (ty_15 hS.1.1) ?_
  refine Tr.tp 20 (fx_15_5 hS.1.1) ?_
  refine Tr.iload_n (pc := 40) (i := 3) d_X4_open_40 rfl rfl ?_
  refine Tr.iconst (pc := 41) d_X4_open_41 (by decide) ?_
  refine Tr.iastS (pc := 42) (P := St Tru ws_X4_open_15_w1 as_X4_open_15_w1 M0) d_X4_open_42 (ty_20 hS.1.1) (by omega) (by omega) (sa_20 hS (by decide) (by omega) trivial) (fun M42 hS w42 => ?_)
  refine Tr.aload_n (pc := 43) (i := 0) d_X4_open_43 rfl rfl ?_
  refine Tr.getf (pc := 44) d_X4_open_44 f_4_27 (by decide) (by decide) (ty_15 hS.1.1) ?_
  refine Tr.tp 21 (fx_15_6 hS.1.1) ?_
  refine Tr.iload_n (pc := 47) (i := 3) d_X4_open_47 rfl rfl ?_
  refine Tr.iconst (pc := 48) d_X4_open_48 (by decide) ?_
  refine Tr.iastS (pc := 49) (P := St Tru ws_X4_open_15_w1 as_X4_open_15_w1 M0) d_X4_open_49 (ty_21 hS.1.1) (by omega) (by omega) (sa_21 hS (by decide) (by omega) trivial) (fun M49 hS w49 => ?_)
  refine Tr.aload_n (pc := 50) (i := 0) d_X4_open_50 rfl rfl ?_
  refine Tr.getf (pc := 51) d_X4_open_51 f_4_30 (by decide) (by decide) (ty_15 hS.1.1) ?_
  refine Tr.tp 22 (fx_15_7 hS.1.1) ?_
  refine Tr.iload_n (pc := 54) (i := 3) d_X4_open_54 rfl rfl ?_
  refine Tr.iload_n (pc := 55) (i := 2) d_X4_open_55 rfl rfl ?_
  refine Tr.iastS (pc := 56) (P := St Tru ws_X4_open_15_w1 as_X4_open_15_w1 M0) d_X4_open_56 (ty_22 hS.1.1) (by omega) (by omega) (sa_22 hS (by decide) (by omega) trivial) (fun M56 hS w56 => ?_)
  refine Tr.aload_n (pc := 57) (i := 0) d_X4_open_57 rfl rfl ?_
  refine Tr.dup (pc := 58) d_X4_open_58 ne21 ?_
  refine Tr.getf (pc := 59) d_X4_open_59 f_4_45 (by decide) (by decide) (ty_15 hS.1.1) ?_
  refine Tr.tp r1 ((Wr.b w56 rfl).trans ((Wr.b w49 rfl).trans ((Wr.b w42 rfl).trans ((Wr.b w35 rfl).trans ((Wr.b w28 rfl).trans ((Wr.b w18 rfl).trans ((Wr.b w11 rfl).trans er1))))))) ?_
  refine Tr.iconst (pc := 62) d_X4_open_62 (by decide) ?_
  refine Tr.iadd (pc := 63) d_X4_open_63 ?_
  refine Tr.tp (r1 + 1) ((w32_id (by omega)).trans (by omega)) ?_
  refine Tr.putfS (pc := 64) (P := St Tru ws_X4_open_15_w1 as_X4_open_15_w1 M0) d_X4_open_64 f_4_45 (by decide) (by decide) (ty_15 hS.1.1) (st_15_0 hS (by decide) (by omega) trivial) (fun M64 hS w64 => ?_)
  refine Tr.iload_n (pc := 67) (i := 3) d_X4_open_67 rfl rfl ?_
  exact Tr.iret (pc := 68) d_X4_open_68 rfl ⟨hS, _, rfl, by omega, by omega⟩

def ws_X5_yesBlock_6_w17 : List (Int × Int) := [(6, 0), (6, 1)]
def as_X5_yesBlock_6_w17 : List Int := [19]
def q_X5_yesBlock_6_w17 (M0 M' : Mem) (r : Option PV) : Prop := St Tru ws_X5_yesBlock_6_w17 as_X5_yesBlock_6_w17 M0 M' ∧ ∃ v : Int, r = some (0, v) ∧ 0 ≤ v ∧ v ≤ 0
set_option maxRecDepth 100000 in
set_option maxHeartbeats 4000000 in
theorem sp_X5_yesBlock_6_w17 {l : Launch} {K : EC} {M0 : Mem} (hI : In Tru M0) (en_6_2 : rd M0 6 2 = 2) (en_6_4 : rd M0 6 4 = 15) (en_6_6 : rd M0 6 6 = 8) (a1 : Int) (ha1 : 0 ≤ a1 ∧ a1 ≤ 59)  : Tr l K 3 mX5_yesBlock 0 [(0, (2, 6)), (1, (0, a1))] [] M0 (q_X5_yesBlock_6_w17 M0) := by
  have hS : St Tru ws_X5_yesBlock_6_w17 as_X5_yesBlock_6_w17 M0 M0 := St.rf hI
  refine Tr.aload_n (pc := 0) (i := 0) d_X5_yesBlock_0 rfl rfl ?_
  refine Tr.iload_n (pc := 1) (i := 1) d_X5_yesBlock_1 rfl rfl ?_
  refine Tr.callV (pc := 2) (as := [_]) d_X5_yesBlock_2 s_5_197 ok_X5_block rfl rfl (Nat.le_of_ble_eq_true rfl) (Nat.le_of_ble_eq_true rfl) (by decide) (ty_6 hS.1.1) ?_
  refine Tr.imp (Tr.deep (by decide) (sp_X5_block_6_w8 hS.1 ((St.kp hS (by decide) (by decide) (by decide)).trans en_6_2) en_6_6 a1 (by omega))) ?_
  rintro M2 _ ⟨h2, r2, rfl, lr2, ur2⟩
  have hS := St.tr hS h2 (by decide) (by decide)
  refine Tr.sc [(0, r2)] rfl ?_
  refine Tr.istore_n (pc := 5) (i := 2) (ls2 := [(2, (0, r2)), (0, (2, 6)), (1, (0, a1))]) d_X5_yesBlock_5 rfl (by decide) rfl ?_
  refine Tr.aload_n (pc := 6) (i := 0) d_X5_yesBlock_6 rfl rfl ?_
  refine Tr.getf (pc := 7) d_X5_yesBlock_7 f_5_32 (by decide) (by decide) (ty_6 hS.1.1) ?_
  refine Tr.tp 15 ((St.kp hS (by decide) (by decide) (by decide)).trans en_6_4) ?_
  refine Tr.getf (pc := 10) d_X5_yesBlock_10 f_5_200 (by decide) (by decide) (ty_15 hS.1.1) ?_
  refine Tr.tp 19 (fx_15_4 hS.1.1) ?_
  refine Tr.iload_n (pc := 13) (i := 1) d_X5_yesBlock_13 rfl rfl ?_
  refine Tr.iload_n (pc := 14) (i := 2) d_X5_yesBlock_14 rfl rfl ?_
  refine Tr.tp (-2) (by omega) ?_
  refine Tr.iastS (pc := 15) (P := St Tru ws_X5_yesBlock_6_w17 as_X5_yesBlock_6_w17 M0) d_X5_yesBlock_15 (ty_19 hS.1.1) (by omega) (by omega) (sa_19 hS (by decide) (by omega) trivial) (fun M15 hS w15 => ?_)
  refine Tr.iload_n (pc := 16) (i := 2) d_X5_yesBlock_16 rfl rfl ?_
  refine Tr.tp (-2) (by omega) ?_
  refine Tr.bipush (pc := 17) d_X5_yesBlock_17 rfl (by decide) ?_
  refine Tr.icmp_eq (pc := 19) (tgt := 26) d_X5_yesBlock_19 rfl (fun _ => ?_) (fun hc => absurd (by omega) hc)
  refine Tr.iconst (pc := 26) d_X5_yesBlock_26 (by decide) ?_
  exact Tr.zret (pc := 27) d_X5_yesBlock_27 rfl (by omega) ⟨hS, _, rfl, by omega, by omega⟩

def ws_X5_about_6_v0_w1 : List (Int × Int) := [(6, 0), (6, 1), (6, 5)]
def as_X5_about_6_v0_w1 : List Int := [17]
def q_X5_about_6_v0_w1 (M0 M' : Mem) (r : Option PV) : Prop := St Tru ws_X5_about_6_v0_w1 as_X5_about_6_v0_w1 M0 M' ∧ ∃ v : Int, r = some (0, v) ∧ 0 ≤ v ∧ v ≤ 1
set_option maxRecDepth 100000 in
set_option maxHeartbeats 4000000 in
theorem sp_X5_about_6_v0_w1 {l : Launch} {K : EC} {M0 : Mem} {xq : Int} (hI : In Tru M0) (hE : e_all K xq) (en_6_2 : rd M0 6 2 = 2) (en_6_3 : rd M0 6 3 = 7) (en_6_4 : rd M0 6 4 = 15) (a1 : Int) (ha1 : 0 ≤ a1 ∧ a1 ≤ 59)  : Tr l K 2 mX5_about 0 [(0, (2, 6)), (1, (0, a1)), (2, (0, 0))] [] M0 (q_X5_about_6_v0_w1 M0) := by
  have hS : St Tru ws_X5_about_6_v0_w1 as_X5_about_6_v0_w1 M0 M0 := St.rf hI
  refine Tr.aload_n (pc := 0) (i := 0) d_X5_about_0 rfl rfl ?_
  refine Tr.iload_n (pc := 1) (i := 2) d_X5_about_1 rfl rfl ?_
  refine Tr.callV (pc := 2) (as := [_]) d_X5_about_2 s_5_186 ok_X5_takeName rfl rfl (Nat.le_of_ble_eq_true rfl) (Nat.le_of_ble_eq_true rfl) (by decide) (ty_6 hS.1.1) ?_
  refine Tr.imp (Tr.deep (by decide) (sp_X5_takeName_6_v0_w1 hS.1 hE ((St.kp hS (by decide) (by decide) (by decide)).trans en_6_2) ((St.kp hS (by decide) (by decide) (by decide)).trans en_6_3))) ?_
  rintro M2 _ ⟨h2, r2, rfl, lr2, ur2⟩
  have hS := St.tr hS h2 (by decide) (by decide)
  refine Tr.sc [(0, r2)] rfl ?_
  refine Tr.istore_n (pc := 5) (i := 3) (ls2 := [(3, (0, r2)), (0, (2, 6)), (1, (0, a1)), (2, (0, 0))]) d_X5_about_5 rfl (by decide) rfl ?_
  refine Tr.aload_n (pc := 6) (i := 0) d_X5_about_6 rfl rfl ?_
  refine Tr.getf (pc := 7) d_X5_about_7 f_5_32 (by decide) (by decide) (ty_6 hS.1.1) ?_
  refine Tr.tp 15 ((St.kp hS (by decide) (by decide) (by decide)).trans en_6_4) ?_
  refine Tr.getf (pc := 10) d_X5_about_10 f_5_189 (by decide) (by decide) (ty_15 hS.1.1) ?_
  refine Tr.tp 17 (fx_15_2 hS.1.1) ?_
  refine Tr.iload_n (pc := 13) (i := 1) d_X5_about_13 rfl rfl ?_
  refine Tr.iload_n (pc := 14) (i := 3) d_X5_about_14 rfl rfl ?_
  refine Tr.iconst (pc := 15) d_X5_about_15 (by decide) ?_
  refine Tr.mmax (pc := 16) d_X5_about_16 ml_5_192 mw_mmax (Nat.le_of_ble_eq_true rfl) ?_
  refine Tr.gen (P := fun v => (v = r2 ∧ 0 ≤ r2) ∨ (v = 0 ∧ r2 ≤ 0)) (f_max_p _ _) (fun r16 er16 br16 => ?_)
  refine Tr.iastS (pc := 19) (P := St Tru ws_X5_about_6_v0_w1 as_X5_about_6_v0_w1 M0) d_X5_about_19 (ty_17 hS.1.1) (by omega) (by omega) (sa_17 hS (by decide) (by omega) trivial) (fun M19 hS w19 => ?_)
  refine Tr.iload_n (pc := 20) (i := 3) d_X5_about_20 rfl rfl ?_
  refine Tr.if_lt (pc := 21) (tgt := 28) d_X5_about_21 rfl (fun c21 => ?_) (fun c21 => ?_)
  · refine Tr.iconst (pc := 28) d_X5_about_28 (by decide) ?_
    exact Tr.zret (pc := 29) d_X5_about_29 rfl (by omega) ⟨hS, _, rfl, by omega, by omega⟩
  · refine Tr.iconst (pc := 24) d_X5_about_24 (by decide) ?_
    refine Tr.goto (pc := 25) (tgt := 29) d_X5_about_25 rfl ?_
    exact Tr.zret (pc := 29) d_X5_about_29 rfl (by omega) ⟨hS, _, rfl, by omega, by omega⟩

def ws_X5_about_6_v2_w1 : List (Int × Int) := [(6, 0), (6, 1), (6, 5)]
def as_X5_about_6_v2_w1 : List Int := [17]
def q_X5_about_6_v2_w1 (M0 M' : Mem) (r : Option PV) : Prop := St Tru ws_X5_about_6_v2_w1 as_X5_about_6_v2_w1 M0 M' ∧ ∃ v : Int, r = some (0, v) ∧ 0 ≤ v ∧ v ≤ 1
set_option maxRecDepth 100000 in
set_option maxHeartbeats 4000000 in
theorem sp_X5_about_6_v2_w1 {l : Launch} {K : EC} {M0 : Mem} {xq : Int} (hI : In Tru M0) (hE : e_all K xq) (en_6_2 : rd M0 6 2 = 2) (en_6_3 : rd M0 6 3 = 7) (en_6_4 : rd M0 6 4 = 15) (a1 : Int) (ha1 : 0 ≤ a1 ∧ a1 ≤ 59)  : Tr l K 2 mX5_about 0 [(0, (2, 6)), (1, (0, a1)), (2, (0, 2))] [] M0 (q_X5_about_6_v2_w1 M0) := by
  have hS : St Tru ws_X5_about_6_v2_w1 as_X5_about_6_v2_w1 M0 M0 := St.rf hI
  refine Tr.aload_n (pc := 0) (i := 0) d_X5_about_0 rfl rfl ?_
  refine Tr.iload_n (pc := 1) (i := 2) d_X5_about_1 rfl rfl ?_
  refine Tr.callV (pc := 2) (as := [_]) d_X5_about_2 s_5_186 ok_X5_takeName rfl rfl (Nat.le_of_ble_eq_true rfl) (Nat.le_of_ble_eq_true rfl) (by decide) (ty_6 hS.1.1) ?_
  refine Tr.imp (Tr.deep (by decide) (sp_X5_takeName_6_v2_w1 hS.1 hE ((St.kp hS (by decide) (by decide) (by decide)).trans en_6_2) ((St.kp hS (by decide) (by decide) (by decide)).trans en_6_3))) ?_
  rintro M2 _ ⟨h2, r2, rfl, lr2, ur2⟩
  have hS := St.tr hS h2 (by decide) (by decide)
  refine Tr.sc [(0, r2)] rfl ?_
  refine Tr.istore_n (pc := 5) (i := 3) (ls2 := [(3, (0, r2)), (0, (2, 6)), (1, (0, a1)), (2, (0, 2))]) d_X5_about_5 rfl (by decide) rfl ?_
  refine Tr.aload_n (pc := 6) (i := 0) d_X5_about_6 rfl rfl ?_
  refine Tr.getf (pc := 7) d_X5_about_7 f_5_32 (by decide) (by decide) (ty_6 hS.1.1) ?_
  refine Tr.tp 15 ((St.kp hS (by decide) (by decide) (by decide)).trans en_6_4) ?_
  refine Tr.getf (pc := 10) d_X5_about_10 f_5_189 (by decide) (by decide) (ty_15 hS.1.1) ?_
  refine Tr.tp 17 (fx_15_2 hS.1.1) ?_
  refine Tr.iload_n (pc := 13) (i := 1) d_X5_about_13 rfl rfl ?_
  refine Tr.iload_n (pc := 14) (i := 3) d_X5_about_14 rfl rfl ?_
  refine Tr.iconst (pc := 15) d_X5_about_15 (by decide) ?_
  refine Tr.mmax (pc := 16) d_X5_about_16 ml_5_192 mw_mmax (Nat.le_of_ble_eq_true rfl) ?_
  refine Tr.gen (P := fun v => (v = r2 ∧ 0 ≤ r2) ∨ (v = 0 ∧ r2 ≤ 0)) (f_max_p _ _) (fun r16 er16 br16 => ?_)
  refine Tr.iastS (pc := 19) (P := St Tru ws_X5_about_6_v2_w1 as_X5_about_6_v2_w1 M0) d_X5_about_19 (ty_17 hS.1.1) (by omega) (by omega) (sa_17 hS (by decide) (by omega) trivial) (fun M19 hS w19 => ?_)
  refine Tr.iload_n (pc := 20) (i := 3) d_X5_about_20 rfl rfl ?_
  refine Tr.if_lt (pc := 21) (tgt := 28) d_X5_about_21 rfl (fun c21 => ?_) (fun c21 => ?_)
  · refine Tr.iconst (pc := 28) d_X5_about_28 (by decide) ?_
    exact Tr.zret (pc := 29) d_X5_about_29 rfl (by omega) ⟨hS, _, rfl, by omega, by omega⟩
  · refine Tr.iconst (pc := 24) d_X5_about_24 (by decide) ?_
    refine Tr.goto (pc := 25) (tgt := 29) d_X5_about_25 rfl ?_
    exact Tr.zret (pc := 29) d_X5_about_29 rfl (by omega) ⟨hS, _, rfl, by omega, by omega⟩

def ws_X5_order_6_w17 : List (Int × Int) := [(6, 0), (6, 1), (6, 5), (15, 11)]
def as_X5_order_6_w17 : List Int := [17, 19, 24, 25]
def q_X5_order_6_w17 (M0 M' : Mem) (r : Option PV) : Prop := St Tru ws_X5_order_6_w17 as_X5_order_6_w17 M0 M' ∧ ∃ v : Int, r = some (0, v) ∧ 0 ≤ v ∧ v ≤ 1
set_option maxRecDepth 100000 in
set_option maxHeartbeats 4000000 in
theorem sp_X5_order_6_w17 {l : Launch} {K : EC} {M0 : Mem} {xq : Int} (hI : In Tru M0) (hE : e_all K xq) (en_6_2 : rd M0 6 2 = 2) (en_6_3 : rd M0 6 3 = 7) (en_6_4 : rd M0 6 4 = 15) (en_6_6 : rd M0 6 6 = 8) (a1 : Int) (ha1 : 0 ≤ a1 ∧ a1 ≤ 59)  : Tr l K 10 mX5_order 0 [(0, (2, 6)), (1, (0, a1))] [] M0 (q_X5_order_6_w17 M0) := by
  have hS : St Tru ws_X5_order_6_w17 as_X5_order_6_w17 M0 M0 := St.rf hI
  refine Tr.aload_n (pc := 0) (i := 0) d_X5_order_0 rfl rfl ?_
  refine Tr.getf (pc := 1) d_X5_order_1 f_5_32 (by decide) (by decide) (ty_6 hS.1.1) ?_
  refine Tr.tp 15 ((St.kp hS (by decide) (by decide) (by decide)).trans en_6_4) ?_
  refine Tr.getf (pc := 4) d_X5_order_4 f_5_169 (by decide) (by decide) (ty_15 hS.1.1) ?_
  refine Tr.tp 16 (fx_15_1 hS.1.1) ?_
  refine Tr.iload_n (pc := 7) (i := 1) d_X5_order_7 rfl rfl ?_
  refine Tr.iald (pc := 8) d_X5_order_8 (ty_16 hS.1.1) (by omega) (by omega) ?_
  refine Tr.gen (P := fun v => (-2147483648) ≤ v ∧ v ≤ 2147483647) (ar_16 hS.1.2.1 _) (fun r8 er8 br8 => ?_)
  rcases (show (r8 < 5 ∨ 11 < r8) ∨ r8 = 5 ∨ r8 = 6 ∨ r8 = 7 ∨ r8 = 8 ∨ r8 = 9 ∨ r8 = 10 ∨ r8 = 11 by omega) with c9 | c9 | c9 | c9 | c9 | c9 | c9 | c9
  · refine Tr.tswOut (pc := 9) (tgt := 198) d_X5_order_9 c9 rfl ?_
    refine Tr.aload_n (pc := 198) (i := 0) d_X5_order_198 rfl rfl ?_
    refine Tr.callV (pc := 199) (as := []) d_X5_order_199 s_5_177 ok_X5_test rfl rfl (Nat.le_of_ble_eq_true rfl) (Nat.le_of_ble_eq_true rfl) (by decide) (ty_6 hS.1.1) ?_
    refine Tr.imp (Tr.deep (by decide) (sp_X5_test_6_w17 hS.1 hE ((St.kp hS (by decide) (by decide) (by decide)).trans en_6_2) ((St.kp hS (by decide) (by decide) (by decide)).trans en_6_3) ((St.kp hS (by decide) (by decide) (by decide)).trans en_6_4) en_6_6)) ?_
    rintro M199 _ ⟨h199, r199, rfl, lr199, ur199⟩
    have hS := St.tr hS h199 (by decide) (by decide)
    refine Tr.sc [(0, r199)] rfl ?_
    refine Tr.if_eq (pc := 202) (tgt := 217) d_X5_order_202 rfl (fun c202 => ?_) (fun c202 => ?_)
    · refine Tr.iconst (pc := 217) d_X5_order_217 (by decide) ?_
      exact Tr.zret (pc := 218) d_X5_order_218 rfl (by omega) ⟨hS, _, rfl, by omega, by omega⟩
    · refine Tr.aload_n (pc := 205) (i := 0) d_X5_order_205 rfl rfl ?_
      refine Tr.iload_n (pc := 206) (i := 1) d_X5_order_206 rfl rfl ?_
      refine Tr.callV (pc := 207) (as := [_]) d_X5_order_207 s_5_180 ok_X5_yesBlock rfl rfl (Nat.le_of_ble_eq_true rfl) (Nat.le_of_ble_eq_true rfl) (by decide) (ty_6 hS.1.1) ?_
      refine Tr.imp (Tr.deep (by decide) (sp_X5_yesBlock_6_w17 hS.1 ((St.kp hS (by decide) (by decide) (by decide)).trans en_6_2) ((St.kp hS (by decide) (by decide) (by decide)).trans en_6_4) ((St.kp h199 (by decide) (by decide) (by decide)).trans en_6_6) a1 (by omega))) ?_
      rintro M207 _ ⟨h207, r207, rfl, lr207, ur207⟩
      have hS := St.tr hS h207 (by decide) (by decide)
      refine Tr.sc [(0, r207)] rfl ?_
      refine Tr.if_eq (pc := 210) (tgt := 217) d_X5_order_210 rfl (fun _ => ?_) (fun hc => absurd (by omega) hc)
      refine Tr.iconst (pc := 217) d_X5_order_217 (by decide) ?_
      exact Tr.zret (pc := 218) d_X5_order_218 rfl (by omega) ⟨hS, _, rfl, by omega, by omega⟩
  · refine Tr.tp 5 c9 ?_
    refine Tr.tswIn (pc := 9) (off := 43) (tgt := 52) d_X5_order_9 (by decide) (by decide) rfl rfl ?_
    refine Tr.aload_n (pc := 52) (i := 0) d_X5_order_52 rfl rfl ?_
    refine Tr.iload_n (pc := 53) (i := 1) d_X5_order_53 rfl rfl ?_
    refine Tr.iconst (pc := 54) d_X5_order_54 (by decide) ?_
    refine Tr.callV (pc := 55) (as := [_, _]) d_X5_order_55 s_5_170 ok_X5_about rfl rfl (Nat.le_of_ble_eq_true rfl) (Nat.le_of_ble_eq_true rfl) (by decide) (ty_6 hS.1.1) ?_
    refine Tr.imp (Tr.deep (by decide) (sp_X5_about_6_v2_w1 hS.1 hE ((St.kp hS (by decide) (by decide) (by decide)).trans en_6_2) ((St.kp hS (by decide) (by decide) (by decide)).trans en_6_3) ((St.kp hS (by decide) (by decide) (by decide)).trans en_6_4) a1 (by omega))) ?_
    rintro M55 _ ⟨h55, r55, rfl, lr55, ur55⟩
    have hS := St.tr hS h55 (by decide) (by decide)
    refine Tr.sc [(0, r55)] rfl ?_
    refine Tr.if_eq (pc := 58) (tgt := 90) d_X5_order_58 rfl (fun c58 => ?_) (fun c58 => ?_)
    · refine Tr.iconst (pc := 90) d_X5_order_90 (by decide) ?_
      exact Tr.zret (pc := 91) d_X5_order_91 rfl (by omega) ⟨hS, _, rfl, by omega, by omega⟩
    · refine Tr.aload_n (pc := 61) (i := 0) d_X5_order_61 rfl rfl ?_
      refine Tr.bipush (pc := 62) d_X5_order_62 rfl (by decide) ?_
      refine Tr.callV (pc := 64) (as := [_]) d_X5_order_64 s_5_81 ok_X5_takeSign rfl rfl (Nat.le_of_ble_eq_true rfl) (Nat.le_of_ble_eq_true rfl) (by decide) (ty_6 hS.1.1) ?_
      refine Tr.imp (Tr.deep (by decide) (sp_X5_takeSign_6_w3 hS.1 ((St.kp hS (by decide) (by decide) (by decide)).trans en_6_2) 61 (by omega))) ?_
      rintro M64 _ ⟨h64, r64, rfl, lr64, ur64⟩
      have hS := St.tr hS h64 (by decide) (by decide)
      refine Tr.sc [(0, r64)] rfl ?_
      refine Tr.if_eq (pc := 67) (tgt := 90) d_X5_order_67 rfl (fun c67 => ?_) (fun c67 => ?_)
      · refine Tr.iconst (pc := 90) d_X5_order_90 (by decide) ?_
        exact Tr.zret (pc := 91) d_X5_order_91 rfl (by omega) ⟨hS, _, rfl, by omega, by omega⟩
      · refine Tr.aload_n (pc := 70) (i := 0) d_X5_order_70 rfl rfl ?_
        refine Tr.callV (pc := 71) (as := []) d_X5_order_71 s_5_174 ok_X5_sum rfl rfl (Nat.le_of_ble_eq_true rfl) (Nat.le_of_ble_eq_true rfl) (by decide) (ty_6 hS.1.1) ?_
        refine Tr.imp (Tr.deep (by decide) (sp_X5_sum_6_w17 hS.1 hE ((St.kp hS (by decide) (by decide) (by decide)).trans en_6_2) ((St.kp hS (by decide) (by decide) (by decide)).trans en_6_3) ((St.kp hS (by decide) (by decide) (by decide)).trans en_6_4) ((St.kp h64 (by decide) (by decide) (by decide)).trans ((St.kp h55 (by decide) (by decide) (by decide)).trans en_6_6)))) ?_
        rintro M71 _ ⟨h71, r71, rfl, lr71, ur71⟩
        have hS := St.tr hS h71 (by decide) (by decide)
        refine Tr.sc [(0, r71)] rfl ?_
        refine Tr.if_eq (pc := 74) (tgt := 90) d_X5_order_74 rfl (fun c74 => ?_) (fun c74 => ?_)
        · refine Tr.iconst (pc := 90) d_X5_order_90 (by decide) ?_
          exact Tr.zret (pc := 91) d_X5_order_91 rfl (by omega) ⟨hS, _, rfl, by omega, by omega⟩
        · refine Tr.aload_n (pc := 77) (i := 0) d_X5_order_77 rfl rfl ?_
          refine Tr.bipush (pc := 78) d_X5_order_78 rfl (by decide) ?_
          refine Tr.callV (pc := 80) (as := [_]) d_X5_order_80 s_5_81 ok_X5_takeSign rfl rfl (Nat.le_of_ble_eq_true rfl) (Nat.le_of_ble_eq_true rfl) (by decide) (ty_6 hS.1.1) ?_
          refine Tr.imp (Tr.deep (by decide) (sp_X5_takeSign_6 hS.1 ((St.kp hS (by decide) (by decide) (by decide)).trans en_6_2) 59 (by omega))) ?_
          rintro M80 _ ⟨h80, r80, rfl, lr80, ur80⟩
          have hS := St.tr hS h80 (by decide) (by decide)
          refine Tr.sc [(0, r80)] rfl ?_
          refine Tr.if_eq (pc := 83) (tgt := 90) d_X5_order_83 rfl (fun c83 => ?_) (fun c83 => ?_)
          · refine Tr.iconst (pc := 90) d_X5_order_90 (by decide) ?_
            exact Tr.zret (pc := 91) d_X5_order_91 rfl (by omega) ⟨hS, _, rfl, by omega, by omega⟩
          · refine Tr.iconst (pc := 86) d_X5_order_86 (by decide) ?_
            refine Tr.goto (pc := 87) (tgt := 91) d_X5_order_87 rfl ?_
            exact Tr.zret (pc := 91) d_X5_order_91 rfl (by omega) ⟨hS, _, rfl, by omega, by omega⟩
  · refine Tr.tp 6 c9 ?_
    refine Tr.tswIn (pc := 9) (off := 83) (tgt := 92) d_X5_order_9 (by decide) (by decide) rfl rfl ?_
    refine Tr.aload_n (pc := 92) (i := 0) d_X5_order_92 rfl rfl ?_
    refine Tr.iload_n (pc := 93) (i := 1) d_X5_order_93 rfl rfl ?_
    refine Tr.iconst (pc := 94) d_X5_order_94 (by decide) ?_
    refine Tr.callV (pc := 95) (as := [_, _]) d_X5_order_95 s_5_170 ok_X5_about rfl rfl (Nat.le_of_ble_eq_true rfl) (Nat.le_of_ble_eq_true rfl) (by decide) (ty_6 hS.1.1) ?_
    refine Tr.imp (Tr.deep (by decide) (sp_X5_about_6_v0_w1 hS.1 hE ((St.kp hS (by decide) (by decide) (by decide)).trans en_6_2) ((St.kp hS (by decide) (by decide) (by decide)).trans en_6_3) ((St.kp hS (by decide) (by decide) (by decide)).trans en_6_4) a1 (by omega))) ?_
    rintro M95 _ ⟨h95, r95, rfl, lr95, ur95⟩
    have hS := St.tr hS h95 (by decide) (by decide)
    refine Tr.sc [(0, r95)] rfl ?_
    refine Tr.if_eq (pc := 98) (tgt := 121) d_X5_order_98 rfl (fun c98 => ?_) (fun c98 => ?_)
    · refine Tr.iconst (pc := 121) d_X5_order_121 (by decide) ?_
      exact Tr.zret (pc := 122) d_X5_order_122 rfl (by omega) ⟨hS, _, rfl, by omega, by omega⟩
    · refine Tr.aload_n (pc := 101) (i := 0) d_X5_order_101 rfl rfl ?_
      refine Tr.callV (pc := 102) (as := []) d_X5_order_102 s_5_174 ok_X5_sum rfl rfl (Nat.le_of_ble_eq_true rfl) (Nat.le_of_ble_eq_true rfl) (by decide) (ty_6 hS.1.1) ?_
      refine Tr.imp (Tr.deep (by decide) (sp_X5_sum_6_w17 hS.1 hE ((St.kp hS (by decide) (by decide) (by decide)).trans en_6_2) ((St.kp hS (by decide) (by decide) (by decide)).trans en_6_3) ((St.kp hS (by decide) (by decide) (by decide)).trans en_6_4) ((St.kp h95 (by decide) (by decide) (by decide)).trans en_6_6))) ?_
      rintro M102 _ ⟨h102, r102, rfl, lr102, ur102⟩
      have hS := St.tr hS h102 (by decide) (by decide)
      refine Tr.sc [(0, r102)] rfl ?_
      refine Tr.if_eq (pc := 105) (tgt := 121) d_X5_order_105 rfl (fun c105 => ?_) (fun c105 => ?_)
      · refine Tr.iconst (pc := 121) d_X5_order_121 (by decide) ?_
        exact Tr.zret (pc := 122) d_X5_order_122 rfl (by omega) ⟨hS, _, rfl, by omega, by omega⟩
      · refine Tr.aload_n (pc := 108) (i := 0) d_X5_order_108 rfl rfl ?_
        refine Tr.bipush (pc := 109) d_X5_order_109 rfl (by decide) ?_
        refine Tr.callV (pc := 111) (as := [_]) d_X5_order_111 s_5_81 ok_X5_takeSign rfl rfl (Nat.le_of_ble_eq_true rfl) (Nat.le_of_ble_eq_true rfl) (by decide) (ty_6 hS.1.1) ?_
        refine Tr.imp (Tr.deep (by decide) (sp_X5_takeSign_6 hS.1 ((St.kp hS (by decide) (by decide) (by decide)).trans en_6_2) 59 (by omega))) ?_
        rintro M111 _ ⟨h111, r111, rfl, lr111, ur111⟩
        have hS := St.tr hS h111 (by decide) (by decide)
        refine Tr.sc [(0, r111)] rfl ?_
        refine Tr.if_eq (pc := 114) (tgt := 121) d_X5_order_114 rfl (fun c114 => ?_) (fun c114 => ?_)
        · refine Tr.iconst (pc := 121) d_X5_order_121 (by decide) ?_
          exact Tr.zret (pc := 122) d_X5_order_122 rfl (by omega) ⟨hS, _, rfl, by omega, by omega⟩
        · refine Tr.iconst (pc := 117) d_X5_order_117 (by decide) ?_
          refine Tr.goto (pc := 118) (tgt := 122) d_X5_order_118 rfl ?_
          exact Tr.zret (pc := 122) d_X5_order_122 rfl (by omega) ⟨hS, _, rfl, by omega, by omega⟩
  · refine Tr.tp 7 c9 ?_
    refine Tr.tswIn (pc := 9) (off := 114) (tgt := 123) d_X5_order_9 (by decide) (by decide) rfl rfl ?_
    refine Tr.aload_n (pc := 123) (i := 0) d_X5_order_123 rfl rfl ?_
    refine Tr.iload_n (pc := 124) (i := 1) d_X5_order_124 rfl rfl ?_
    refine Tr.iconst (pc := 125) d_X5_order_125 (by decide) ?_
    refine Tr.callV (pc := 126) (as := [_, _]) d_X5_order_126 s_5_170 ok_X5_about rfl rfl (Nat.le_of_ble_eq_true rfl) (Nat.le_of_ble_eq_true rfl) (by decide) (ty_6 hS.1.1) ?_
    refine Tr.imp (Tr.deep (by decide) (sp_X5_about_6_v0_w1 hS.1 hE ((St.kp hS (by decide) (by decide) (by decide)).trans en_6_2) ((St.kp hS (by decide) (by decide) (by decide)).trans en_6_3) ((St.kp hS (by decide) (by decide) (by decide)).trans en_6_4) a1 (by omega))) ?_
    rintro M126 _ ⟨h126, r126, rfl, lr126, ur126⟩
    have hS := St.tr hS h126 (by decide) (by decide)
    refine Tr.sc [(0, r126)] rfl ?_
    refine Tr.if_eq (pc := 129) (tgt := 145) d_X5_order_129 rfl (fun c129 => ?_) (fun c129 => ?_)
    · refine Tr.iconst (pc := 145) d_X5_order_145 (by decide) ?_
      exact Tr.zret (pc := 146) d_X5_order_146 rfl (by omega) ⟨hS, _, rfl, by omega, by omega⟩
    · refine Tr.aload_n (pc := 132) (i := 0) d_X5_order_132 rfl rfl ?_
      refine Tr.bipush (pc := 133) d_X5_order_133 rfl (by decide) ?_
      refine Tr.callV (pc := 135) (as := [_]) d_X5_order_135 s_5_81 ok_X5_takeSign rfl rfl (Nat.le_of_ble_eq_true rfl) (Nat.le_of_ble_eq_true rfl) (by decide) (ty_6 hS.1.1) ?_
      refine Tr.imp (Tr.deep (by decide) (sp_X5_takeSign_6 hS.1 ((St.kp hS (by decide) (by decide) (by decide)).trans en_6_2) 59 (by omega))) ?_
      rintro M135 _ ⟨h135, r135, rfl, lr135, ur135⟩
      have hS := St.tr hS h135 (by decide) (by decide)
      refine Tr.sc [(0, r135)] rfl ?_
      refine Tr.if_eq (pc := 138) (tgt := 145) d_X5_order_138 rfl (fun c138 => ?_) (fun c138 => ?_)
      · refine Tr.iconst (pc := 145) d_X5_order_145 (by decide) ?_
        exact Tr.zret (pc := 146) d_X5_order_146 rfl (by omega) ⟨hS, _, rfl, by omega, by omega⟩
      · refine Tr.iconst (pc := 141) d_X5_order_141 (by decide) ?_
        refine Tr.goto (pc := 142) (tgt := 146) d_X5_order_142 rfl ?_
        exact Tr.zret (pc := 146) d_X5_order_146 rfl (by omega) ⟨hS, _, rfl, by omega, by omega⟩
  · refine Tr.tp 8 c9 ?_
    refine Tr.tswIn (pc := 9) (off := 114) (tgt := 123) d_X5_order_9 (by decide) (by decide) rfl rfl ?_
    refine Tr.aload_n (pc := 123) (i := 0) d_X5_order_123 rfl rfl ?_
    refine Tr.iload_n (pc := 124) (i := 1) d_X5_order_124 rfl rfl ?_
    refine Tr.iconst (pc := 125) d_X5_order_125 (by decide) ?_
    refine Tr.callV (pc := 126) (as := [_, _]) d_X5_order_126 s_5_170 ok_X5_about rfl rfl (Nat.le_of_ble_eq_true rfl) (Nat.le_of_ble_eq_true rfl) (by decide) (ty_6 hS.1.1) ?_
    refine Tr.imp (Tr.deep (by decide) (sp_X5_about_6_v0_w1 hS.1 hE ((St.kp hS (by decide) (by decide) (by decide)).trans en_6_2) ((St.kp hS (by decide) (by decide) (by decide)).trans en_6_3) ((St.kp hS (by decide) (by decide) (by decide)).trans en_6_4) a1 (by omega))) ?_
    rintro M126 _ ⟨h126, r126, rfl, lr126, ur126⟩
    have hS := St.tr hS h126 (by decide) (by decide)
    refine Tr.sc [(0, r126)] rfl ?_
    refine Tr.if_eq (pc := 129) (tgt := 145) d_X5_order_129 rfl (fun c129 => ?_) (fun c129 => ?_)
    · refine Tr.iconst (pc := 145) d_X5_order_145 (by decide) ?_
      exact Tr.zret (pc := 146) d_X5_order_146 rfl (by omega) ⟨hS, _, rfl, by omega, by omega⟩
    · refine Tr.aload_n (pc := 132) (i := 0) d_X5_order_132 rfl rfl ?_
      refine Tr.bipush (pc := 133) d_X5_order_133 rfl (by decide) ?_
      refine Tr.callV (pc := 135) (as := [_]) d_X5_order_135 s_5_81 ok_X5_takeSign rfl rfl (Nat.le_of_ble_eq_true rfl) (Nat.le_of_ble_eq_true rfl) (by decide) (ty_6 hS.1.1) ?_
      refine Tr.imp (Tr.deep (by decide) (sp_X5_takeSign_6 hS.1 ((St.kp hS (by decide) (by decide) (by decide)).trans en_6_2) 59 (by omega))) ?_
      rintro M135 _ ⟨h135, r135, rfl, lr135, ur135⟩
      have hS := St.tr hS h135 (by decide) (by decide)
      refine Tr.sc [(0, r135)] rfl ?_
      refine Tr.if_eq (pc := 138) (tgt := 145) d_X5_order_138 rfl (fun c138 => ?_) (fun c138 => ?_)
      · refine Tr.iconst (pc := 145) d_X5_order_145 (by decide) ?_
        exact Tr.zret (pc := 146) d_X5_order_146 rfl (by omega) ⟨hS, _, rfl, by omega, by omega⟩
      · refine Tr.iconst (pc := 141) d_X5_order_141 (by decide) ?_
        refine Tr.goto (pc := 142) (tgt := 146) d_X5_order_142 rfl ?_
        exact Tr.zret (pc := 146) d_X5_order_146 rfl (by omega) ⟨hS, _, rfl, by omega, by omega⟩
  · refine Tr.tp 9 c9 ?_
    refine Tr.tswIn (pc := 9) (off := 138) (tgt := 147) d_X5_order_9 (by decide) (by decide) rfl rfl ?_
    refine Tr.aload_n (pc := 147) (i := 0) d_X5_order_147 rfl rfl ?_
    refine Tr.callV (pc := 148) (as := []) d_X5_order_148 s_5_174 ok_X5_sum rfl rfl (Nat.le_of_ble_eq_true rfl) (Nat.le_of_ble_eq_true rfl) (by decide) (ty_6 hS.1.1) ?_
    refine Tr.imp (Tr.deep (by decide) (sp_X5_sum_6_w17 hS.1 hE ((St.kp hS (by decide) (by decide) (by decide)).trans en_6_2) ((St.kp hS (by decide) (by decide) (by decide)).trans en_6_3) ((St.kp hS (by decide) (by decide) (by decide)).trans en_6_4) en_6_6)) ?_
    rintro M148 _ ⟨h148, r148, rfl, lr148, ur148⟩
    have hS := St.tr hS h148 (by decide) (by decide)
    refine Tr.sc [(0, r148)] rfl ?_
    refine Tr.if_eq (pc := 151) (tgt := 167) d_X5_order_151 rfl (fun c151 => ?_) (fun c151 => ?_)
    · refine Tr.iconst (pc := 167) d_X5_order_167 (by decide) ?_
      exact Tr.zret (pc := 168) d_X5_order_168 rfl (by omega) ⟨hS, _, rfl, by omega, by omega⟩
    · refine Tr.aload_n (pc := 154) (i := 0) d_X5_order_154 rfl rfl ?_
      refine Tr.bipush (pc := 155) d_X5_order_155 rfl (by decide) ?_
      refine Tr.callV (pc := 157) (as := [_]) d_X5_order_157 s_5_81 ok_X5_takeSign rfl rfl (Nat.le_of_ble_eq_true rfl) (Nat.le_of_ble_eq_true rfl) (by decide) (ty_6 hS.1.1) ?_
      refine Tr.imp (Tr.deep (by decide) (sp_X5_takeSign_6 hS.1 ((St.kp hS (by decide) (by decide) (by decide)).trans en_6_2) 59 (by omega))) ?_
      rintro M157 _ ⟨h157, r157, rfl, lr157, ur157⟩
      have hS := St.tr hS h157 (by decide) (by decide)
      refine Tr.sc [(0, r157)] rfl ?_
      refine Tr.if_eq (pc := 160) (tgt := 167) d_X5_order_160 rfl (fun c160 => ?_) (fun c160 => ?_)
      · refine Tr.iconst (pc := 167) d_X5_order_167 (by decide) ?_
        exact Tr.zret (pc := 168) d_X5_order_168 rfl (by omega) ⟨hS, _, rfl, by omega, by omega⟩
      · refine Tr.iconst (pc := 163) d_X5_order_163 (by decide) ?_
        refine Tr.goto (pc := 164) (tgt := 168) d_X5_order_164 rfl ?_
        exact Tr.zret (pc := 168) d_X5_order_168 rfl (by omega) ⟨hS, _, rfl, by omega, by omega⟩
  · refine Tr.tp 10 c9 ?_
    refine Tr.tswIn (pc := 9) (off := 138) (tgt := 147) d_X5_order_9 (by decide) (by decide) rfl rfl ?_
    refine Tr.aload_n (pc := 147) (i := 0) d_X5_order_147 rfl rfl ?_
    refine Tr.callV (pc := 148) (as := []) d_X5_order_148 s_5_174 ok_X5_sum rfl rfl (Nat.le_of_ble_eq_true rfl) (Nat.le_of_ble_eq_true rfl) (by decide) (ty_6 hS.1.1) ?_
    refine Tr.imp (Tr.deep (by decide) (sp_X5_sum_6_w17 hS.1 hE ((St.kp hS (by decide) (by decide) (by decide)).trans en_6_2) ((St.kp hS (by decide) (by decide) (by decide)).trans en_6_3) ((St.kp hS (by decide) (by decide) (by decide)).trans en_6_4) en_6_6)) ?_
    rintro M148 _ ⟨h148, r148, rfl, lr148, ur148⟩
    have hS := St.tr hS h148 (by decide) (by decide)
    refine Tr.sc [(0, r148)] rfl ?_
    refine Tr.if_eq (pc := 151) (tgt := 167) d_X5_order_151 rfl (fun c151 => ?_) (fun c151 => ?_)
    · refine Tr.iconst (pc := 167) d_X5_order_167 (by decide) ?_
      exact Tr.zret (pc := 168) d_X5_order_168 rfl (by omega) ⟨hS, _, rfl, by omega, by omega⟩
    · refine Tr.aload_n (pc := 154) (i := 0) d_X5_order_154 rfl rfl ?_
      refine Tr.bipush (pc := 155) d_X5_order_155 rfl (by decide) ?_
      refine Tr.callV (pc := 157) (as := [_]) d_X5_order_157 s_5_81 ok_X5_takeSign rfl rfl (Nat.le_of_ble_eq_true rfl) (Nat.le_of_ble_eq_true rfl) (by decide) (ty_6 hS.1.1) ?_
      refine Tr.imp (Tr.deep (by decide) (sp_X5_takeSign_6 hS.1 ((St.kp hS (by decide) (by decide) (by decide)).trans en_6_2) 59 (by omega))) ?_
      rintro M157 _ ⟨h157, r157, rfl, lr157, ur157⟩
      have hS := St.tr hS h157 (by decide) (by decide)
      refine Tr.sc [(0, r157)] rfl ?_
      refine Tr.if_eq (pc := 160) (tgt := 167) d_X5_order_160 rfl (fun c160 => ?_) (fun c160 => ?_)
      · refine Tr.iconst (pc := 167) d_X5_order_167 (by decide) ?_
        exact Tr.zret (pc := 168) d_X5_order_168 rfl (by omega) ⟨hS, _, rfl, by omega, by omega⟩
      · refine Tr.iconst (pc := 163) d_X5_order_163 (by decide) ?_
        refine Tr.goto (pc := 164) (tgt := 168) d_X5_order_164 rfl ?_
        exact Tr.zret (pc := 168) d_X5_order_168 rfl (by omega) ⟨hS, _, rfl, by omega, by omega⟩
  · refine Tr.tp 11 c9 ?_
    refine Tr.tswIn (pc := 9) (off := 160) (tgt := 169) d_X5_order_9 (by decide) (by decide) rfl rfl ?_
    refine Tr.aload_n (pc := 169) (i := 0) d_X5_order_169 rfl rfl ?_
    refine Tr.callV (pc := 170) (as := []) d_X5_order_170 s_5_177 ok_X5_test rfl rfl (Nat.le_of_ble_eq_true rfl) (Nat.le_of_ble_eq_true rfl) (by decide) (ty_6 hS.1.1) ?_
    refine Tr.imp (Tr.deep (by decide) (sp_X5_test_6_w17 hS.1 hE ((St.kp hS (by decide) (by decide) (by decide)).trans en_6_2) ((St.kp hS (by decide) (by decide) (by decide)).trans en_6_3) ((St.kp hS (by decide) (by decide) (by decide)).trans en_6_4) en_6_6)) ?_
    rintro M170 _ ⟨h170, r170, rfl, lr170, ur170⟩
    have hS := St.tr hS h170 (by decide) (by decide)
    refine Tr.sc [(0, r170)] rfl ?_
    refine Tr.if_eq (pc := 173) (tgt := 196) d_X5_order_173 rfl (fun c173 => ?_) (fun c173 => ?_)
    · refine Tr.iconst (pc := 196) d_X5_order_196 (by decide) ?_
      exact Tr.zret (pc := 197) d_X5_order_197 rfl (by omega) ⟨hS, _, rfl, by omega, by omega⟩
    · refine Tr.aload_n (pc := 176) (i := 0) d_X5_order_176 rfl rfl ?_
      refine Tr.iload_n (pc := 177) (i := 1) d_X5_order_177 rfl rfl ?_
      refine Tr.callV (pc := 178) (as := [_]) d_X5_order_178 s_5_180 ok_X5_yesBlock rfl rfl (Nat.le_of_ble_eq_true rfl) (Nat.le_of_ble_eq_true rfl) (by decide) (ty_6 hS.1.1) ?_
      refine Tr.imp (Tr.deep (by decide) (sp_X5_yesBlock_6_w17 hS.1 ((St.kp hS (by decide) (by decide) (by decide)).trans en_6_2) ((St.kp hS (by decide) (by decide) (by decide)).trans en_6_4) ((St.kp h170 (by decide) (by decide) (by decide)).trans en_6_6) a1 (by omega))) ?_
      rintro M178 _ ⟨h178, r178, rfl, lr178, ur178⟩
      have hS := St.tr hS h178 (by decide) (by decide)
      refine Tr.sc [(0, r178)] rfl ?_
      refine Tr.if_eq (pc := 181) (tgt := 196) d_X5_order_181 rfl (fun _ => ?_) (fun hc => absurd (by omega) hc)
      refine Tr.iconst (pc := 196) d_X5_order_196 (by decide) ?_
      exact Tr.zret (pc := 197) d_X5_order_197 rfl (by omega) ⟨hS, _, rfl, by omega, by omega⟩

def ws_X5_orders_6_w17 : List (Int × Int) := [(6, 0), (6, 1), (6, 5), (15, 0), (15, 11)]
def as_X5_orders_6_w17 : List Int := [16, 17, 18, 19, 20, 21, 22, 24, 25]
def q_X5_orders_6_w17 (M0 M' : Mem) (r : Option PV) : Prop := St Tru ws_X5_orders_6_w17 as_X5_orders_6_w17 M0 M' ∧ ∃ v : Int, r = some (0, v) ∧ (-2) ≤ v ∧ v ≤ 59
set_option maxRecDepth 100000 in
set_option maxHeartbeats 4000000 in
theorem sp_X5_orders_6_w17 {l : Launch} {K : EC} {M0 : Mem} {xq : Int} (hI : In Tru M0) (hE : e_all K xq) (en_6_2 : rd M0 6 2 = 2) (en_6_3 : rd M0 6 3 = 7) (en_6_4 : rd M0 6 4 = 15) (en_6_6 : rd M0 6 6 = 8) (a1 : Int) (ha1 : 0 ≤ a1 ∧ a1 ≤ 59)  : Tr l K 11 mX5_orders 0 [(0, (2, 6)), (1, (0, a1))] [] M0 (q_X5_orders_6_w17 M0) := by
  have hS : St Tru ws_X5_orders_6_w17 as_X5_orders_6_w17 M0 M0 := St.rf hI
  refine Tr.iconst (pc := 0) d_X5_orders_0 (by decide) ?_
  refine Tr.istore_n (pc := 1) (i := 2) (ls2 := [(2, (0, (-1))), (0, (2, 6)), (1, (0, a1))]) d_X5_orders_1 rfl (by decide) rfl ?_
  refine Tr.iconst (pc := 2) d_X5_orders_2 (by decide) ?_
  refine Tr.istore_n (pc := 3) (i := 3) (ls2 := [(3, (0, (-1))), (2, (0, (-1))), (0, (2, 6)), (1, (0, a1))]) d_X5_orders_3 rfl (by decide) rfl ?_
  refine Tr.iconst (pc := 4) d_X5_orders_4 (by decide) ?_
  refine Tr.istore (pc := 5) (i := 4) (ls2 := [(4, (0, 0)), (3, (0, (-1))), (2, (0, (-1))), (0, (2, 6)), (1, (0, a1))]) d_X5_orders_5 (by decide) rfl ?_
  have J7 : ∀ (n7 : Nat) (M : Mem) (p7_2 p7_3 p7_4 : Int), St Tru ws_X5_orders_6_w17 as_X5_orders_6_w17 M0 M → ((-1) ≤ p7_2 ∧ p7_2 ≤ 59) → ((-1) ≤ p7_3 ∧ p7_3 ≤ 59) → (0 ≤ p7_4 ∧ p7_4 ≤ 61) → rd M 6 6 = 8 → (61 - p7_4).toNat < n7 → Tr l K 11 mX5_orders 7 [(0, (2, 6)), (1, (0, a1)), (2, (0, p7_2)), (3, (0, p7_3)), (4, (0, p7_4))] [] M (q_X5_orders_6_w17 M0) := by
    intro n7
    induction n7 with
    | zero => intro M p7_2 p7_3 p7_4 hS bp7_2 bp7_3 bp7_4 k7_6_6 hm7; exact absurd hm7 (Nat.not_lt_zero _)
    | succ n7 J7 =>
      intro M p7_2 p7_3 p7_4 hS bp7_2 bp7_3 bp7_4 k7_6_6 hm7
      refine Tr.iload (pc := 7) (i := 4) d_X5_orders_7 rfl ?_
      refine Tr.bipush (pc := 9) d_X5_orders_9 rfl (by decide) ?_
      refine Tr.icmp_gt (pc := 11) (tgt := 111) d_X5_orders_11 rfl (fun c11 => ?_) (fun c11 => ?_)
      · refine Tr.iload_n (pc := 111) (i := 2) d_X5_orders_111 rfl rfl ?_
        exact Tr.iret (pc := 112) d_X5_orders_112 rfl ⟨hS, _, rfl, by omega, by omega⟩
      · refine Tr.aload_n (pc := 14) (i := 0) d_X5_orders_14 rfl rfl ?_
        refine Tr.callV (pc := 15) (as := []) d_X5_orders_15 s_5_154 ok_X5_isOrder rfl rfl (Nat.le_of_ble_eq_true rfl) (Nat.le_of_ble_eq_true rfl) (by decide) (ty_6 hS.1.1) ?_
        refine Tr.imp (Tr.deep (by decide) (sp_X5_isOrder_6 hS.1 ((St.kp hS (by decide) (by decide) (by decide)).trans en_6_2))) ?_
        rintro M15 _ ⟨h15, r15, rfl, lr15, ur15⟩
        have hS := St.tr hS h15 (by decide) (by decide)
        refine Tr.sc [(0, r15)] rfl ?_
        refine Tr.if_eq (pc := 18) (tgt := 111) d_X5_orders_18 rfl (fun c18 => ?_) (fun c18 => ?_)
        · refine Tr.iload_n (pc := 111) (i := 2) d_X5_orders_111 rfl rfl ?_
          exact Tr.iret (pc := 112) d_X5_orders_112 rfl ⟨hS, _, rfl, by omega, by omega⟩
        · refine Tr.aload_n (pc := 21) (i := 0) d_X5_orders_21 rfl rfl ?_
          refine Tr.getf (pc := 22) d_X5_orders_22 f_5_32 (by decide) (by decide) (ty_6 hS.1.1) ?_
          refine Tr.tp 15 ((St.kp hS (by decide) (by decide) (by decide)).trans en_6_4) ?_
          refine Tr.getf (pc := 25) d_X5_orders_25 f_5_157 (by decide) (by decide) (ty_15 hS.1.1) ?_
          refine Tr.gen (P := fun v => 0 ≤ v ∧ v ≤ 60) (ir_15_0 hS.1.2.1) (fun r25 er25 br25 => ?_)
          refine Tr.bipush (pc := 28) d_X5_orders_28 rfl (by decide) ?_
          refine Tr.icmp_lt (pc := 30) (tgt := 42) d_X5_orders_30 rfl (fun c30 => ?_) (fun c30 => ?_)
          · refine Tr.aload_n (pc := 42) (i := 0) d_X5_orders_42 rfl rfl ?_
            refine Tr.getf (pc := 43) d_X5_orders_43 f_5_32 (by decide) (by decide) (ty_6 hS.1.1) ?_
            refine Tr.tp 15 ((St.kp hS (by decide) (by decide) (by decide)).trans en_6_4) ?_
            refine Tr.aload_n (pc := 46) (i := 0) d_X5_orders_46 rfl rfl ?_
            refine Tr.getf (pc := 47) d_X5_orders_47 f_5_18 (by decide) (by decide) (ty_6 hS.1.1) ?_
            refine Tr.tp 2 ((St.kp hS (by decide) (by decide) (by decide)).trans en_6_2) ?_
            refine Tr.getf (pc := 50) d_X5_orders_50 f_5_68 (by decide) (by decide) (ty_2 hS.1.1) ?_
            refine Tr.tp 5 (fx_2_2 hS.1.1) ?_
            refine Tr.aload_n (pc := 53) (i := 0) d_X5_orders_53 rfl rfl ?_
            refine Tr.getf (pc := 54) d_X5_orders_54 f_5_36 (by decide) (by decide) (ty_6 hS.1.1) ?_
            refine Tr.gen (P := fun v => 0 ≤ v ∧ v ≤ 900) (ir_6_5 hS.1.2.1) (fun r54 er54 br54 => ?_)
            refine Tr.iald (pc := 57) d_X5_orders_57 (ty_5 hS.1.1) (by omega) (by omega) ?_
            refine Tr.gen (P := fun v => (-2147483648) ≤ v ∧ v ≤ 2147483647) (ar_5 hS.1.2.1 _) (fun r57 er57 br57 => ?_)
            refine Tr.iload_n (pc := 58) (i := 1) d_X5_orders_58 rfl rfl ?_
            refine Tr.callV (pc := 59) (as := [_, _]) d_X5_orders_59 s_5_160 ok_X4_open rfl rfl (Nat.le_of_ble_eq_true rfl) (Nat.le_of_ble_eq_true rfl) (by decide) (ty_15 hS.1.1) ?_
            refine Tr.imp (Tr.deep (by decide) (sp_X4_open_15_w1 hS.1 r57 (by omega) a1 (by omega) (by have h9 := er25; omega))) ?_
            rintro M59 _ ⟨h59, r59, rfl, lr59, ur59⟩
            have hS := St.tr hS h59 (by decide) (by decide)
            refine Tr.sc [(0, r59)] rfl ?_
            refine Tr.istore (pc := 62) (i := 5) (ls2 := [(5, (0, r59)), (0, (2, 6)), (1, (0, a1)), (2, (0, p7_2)), (3, (0, p7_3)), (4, (0, p7_4))]) d_X5_orders_62 (by decide) rfl ?_
            refine Tr.iload_n (pc := 64) (i := 3) d_X5_orders_64 rfl rfl ?_
            have J85 : ∀ (M : Mem) (p85_2 : Int), St Tru ws_X5_orders_6_w17 as_X5_orders_6_w17 M0 M → ((-1) ≤ p85_2 ∧ p85_2 ≤ 59) → rd M 5 r54 = r57 → rd M 6 5 = r54 → rd M 6 6 = 8 → Tr l K 11 mX5_orders 85 [(0, (2, 6)), (1, (0, a1)), (2, (0, p85_2)), (4, (0, p7_4)), (5, (0, r59))] [] M (q_X5_orders_6_w17 M0) := by
              intro M p85_2 hS bp85_2 k85_5_r5410 k85_6_5 k85_6_6
              refine Tr.iload (pc := 85) (i := 5) d_X5_orders_85 rfl ?_
              refine Tr.istore_n (pc := 87) (i := 3) (ls2 := [(3, (0, r59)), (0, (2, 6)), (1, (0, a1)), (2, (0, p85_2)), (4, (0, p7_4)), (5, (0, r59))]) d_X5_orders_87 rfl (by decide) rfl ?_
              refine Tr.aload_n (pc := 88) (i := 0) d_X5_orders_88 rfl rfl ?_
              refine Tr.callV (pc := 89) (as := []) d_X5_orders_89 s_5_74 ok_X5_goOn rfl rfl (Nat.le_of_ble_eq_true rfl) (Nat.le_of_ble_eq_true rfl) (by decide) (ty_6 hS.1.1) ?_
              refine Tr.imp (Tr.deep (by decide) (sp_X5_goOn_6 hS.1 )) ?_
              rintro M89 _ ⟨h89, r89, rfl, lr89, ur89⟩
              have hS := St.tr hS h89 (by decide) (by decide)
              refine Tr.sc [(0, r89)] rfl ?_
              refine Tr.pop (pc := 92) d_X5_orders_92 ne01 ?_
              refine Tr.aload_n (pc := 93) (i := 0) d_X5_orders_93 rfl rfl ?_
              refine Tr.iload (pc := 94) (i := 5) d_X5_orders_94 rfl ?_
              refine Tr.callV (pc := 96) (as := [_]) d_X5_orders_96 s_5_166 ok_X5_order rfl rfl (Nat.le_of_ble_eq_true rfl) (Nat.le_of_ble_eq_true rfl) (by decide) (ty_6 hS.1.1) ?_
              refine Tr.imp (Tr.deep (by decide) (sp_X5_order_6_w17 hS.1 hE ((St.kp hS (by decide) (by decide) (by decide)).trans en_6_2) ((St.kp hS (by decide) (by decide) (by decide)).trans en_6_3) ((St.kp hS (by decide) (by decide) (by decide)).trans en_6_4) ((St.kp h89 (by decide) (by decide) (by decide)).trans k85_6_6) r59 (by omega))) ?_
              rintro M96 _ ⟨h96, r96, rfl, lr96, ur96⟩
              have hS := St.tr hS h96 (by decide) (by decide)
              refine Tr.sc [(0, r96)] rfl ?_
              refine Tr.if_ne (pc := 99) (tgt := 105) d_X5_orders_99 rfl (fun c99 => ?_) (fun c99 => ?_)
              · refine Tr.iincV (pc := 105) (n2 := (p7_4 + 1)) (ls2 := [(4, (0, (p7_4 + 1))), (3, (0, r59)), (0, (2, 6)), (1, (0, a1)), (2, (0, p85_2)), (5, (0, r59))]) d_X5_orders_105 rfl (by decide) ((w32_id (by omega)).trans (by omega)) rfl ?_
                refine Tr.goto (pc := 108) (tgt := 7) d_X5_orders_108 rfl ?_
                refine Tr.pick [2, 3, 4, 1, 0] (ls2 := [(0, (2, 6)), (1, (0, a1)), (2, (0, p85_2)), (3, (0, r59)), (4, (0, (p7_4 + 1)))]) rfl ?_
                exact J7 _ _ _ _ hS (by omega) (by omega) (by omega) ((St.kp h96 (by decide) (by decide) (by decide)).trans ((St.kp h89 (by decide) (by decide) (by decide)).trans k85_6_6)) (by omega)
              · refine Tr.bipush (pc := 102) d_X5_orders_102 rfl (by decide) ?_
                exact Tr.iret (pc := 104) d_X5_orders_104 rfl ⟨hS, _, rfl, by omega, by omega⟩
            refine Tr.if_ge (pc := 65) (tgt := 74) d_X5_orders_65 rfl (fun c65 => ?_) (fun c65 => ?_)
            · refine Tr.aload_n (pc := 74) (i := 0) d_X5_orders_74 rfl rfl ?_
              refine Tr.getf (pc := 75) d_X5_orders_75 f_5_32 (by decide) (by decide) (ty_6 hS.1.1) ?_
              refine Tr.tp 15 ((St.kp hS (by decide) (by decide) (by decide)).trans en_6_4) ?_
              refine Tr.getf (pc := 78) d_X5_orders_78 f_5_163 (by decide) (by decide) (ty_15 hS.1.1) ?_
              refine Tr.tp 21 (fx_15_6 hS.1.1) ?_
              refine Tr.iload_n (pc := 81) (i := 3) d_X5_orders_81 rfl rfl ?_
              refine Tr.iload (pc := 82) (i := 5) d_X5_orders_82 rfl ?_
              refine Tr.iastS (pc := 84) (P := St Tru ws_X5_orders_6_w17 as_X5_orders_6_w17 M0) d_X5_orders_84 (ty_21 hS.1.1) (by omega) (by omega) (sa_21 hS (by decide) (by omega) trivial) (fun M84 hS w84 => ?_)
              refine Tr.pick [1, 2, 3, 5, 0] (ls2 := [(0, (2, 6)), (1, (0, a1)), (2, (0, p7_2)), (4, (0, p7_4)), (5, (0, r59))]) rfl ?_
              exact J85 _ _ hS (by omega) ((Wr.b w84 rfl).trans ((St.ka h59 (by decide) (by decide) (by decide)).trans er57)) ((Wr.b w84 rfl).trans ((St.kp h59 (by decide) (by decide) (by decide)).trans er54)) ((Wr.b w84 rfl).trans ((St.kp h59 (by decide) (by decide) (by decide)).trans ((St.kp h15 (by decide) (by decide) (by decide)).trans k7_6_6)))
            · refine Tr.iload (pc := 68) (i := 5) d_X5_orders_68 rfl ?_
              refine Tr.istore_n (pc := 70) (i := 2) (ls2 := [(2, (0, r59)), (5, (0, r59)), (0, (2, 6)), (1, (0, a1)), (3, (0, p7_3)), (4, (0, p7_4))]) d_X5_orders_70 rfl (by decide) rfl ?_
              refine Tr.goto (pc := 71) (tgt := 85) d_X5_orders_71 rfl ?_
              refine Tr.pick [2, 3, 0, 5, 1] (ls2 := [(0, (2, 6)), (1, (0, a1)), (2, (0, r59)), (4, (0, p7_4)), (5, (0, r59))]) rfl ?_
              exact J85 _ _ hS (by omega) ((St.ka h59 (by decide) (by decide) (by decide)).trans er57) ((St.kp h59 (by decide) (by decide) (by decide)).trans er54) ((St.kp h59 (by decide) (by decide) (by decide)).trans ((St.kp h15 (by decide) (by decide) (by decide)).trans k7_6_6))
          · refine Tr.aload_n (pc := 33) (i := 0) d_X5_orders_33 rfl rfl ?_
            refine Tr.iconst (pc := 34) d_X5_orders_34 (by decide) ?_
            refine Tr.callV (pc := 35) (as := [_]) d_X5_orders_35 s_5_56 ok_X5_refuse rfl rfl (Nat.le_of_ble_eq_true rfl) (Nat.le_of_ble_eq_true rfl) (by decide) (ty_6 hS.1.1) ?_
            refine Tr.imp (Tr.deep (by decide) (sp_X5_refuse_6_w2 hS.1 ((St.kp hS (by decide) (by decide) (by decide)).trans en_6_2) 5 (by omega))) ?_
            rintro M35 _ ⟨h35, r35, rfl, lr35, ur35⟩
            have hS := St.tr hS h35 (by decide) (by decide)
            refine Tr.sc [(0, r35)] rfl ?_
            refine Tr.pop (pc := 38) d_X5_orders_38 ne01 ?_
            refine Tr.bipush (pc := 39) d_X5_orders_39 rfl (by decide) ?_
            exact Tr.iret (pc := 41) d_X5_orders_41 rfl ⟨hS, _, rfl, by omega, by omega⟩
  refine Tr.pick [3, 4, 2, 1, 0] (ls2 := [(0, (2, 6)), (1, (0, a1)), (2, (0, (-1))), (3, (0, (-1))), (4, (0, 0))]) rfl ?_
  exact J7 _ _ _ _ _ hS (by omega) (by omega) (by omega) en_6_6 (Nat.lt_succ_self _)
end
/-! 43.25 -/
section
def ws_X5_block_6_w16 : List (Int × Int) := [(6, 0), (6, 1), (6, 5), (6, 6), (15, 0), (15, 11)]
def as_X5_block_6_w16 : List Int := [16, 17, 18, 19, 20, 21, 22, 24, 25]
def q_X5_block_6_w16 (M0 M' : Mem) (r : Option PV) : Prop := St Tru ws_X5_block_6_w16 as_X5_block_6_w16 M0 M' ∧ ∃ v : Int, r = some (0, v) ∧ (-2) ≤ v ∧ v ≤ 59 ∧ (((-1) ≤ v ∧ v ≤ 1000000) → rd M' 6 6 = 7)
set_option maxRecDepth 100000 in
set_option maxHeartbeats 4000000 in
theorem sp_X5_block_6_w16 {l : Launch} {K : EC} {M0 : Mem} {xq : Int} (hI : In Tru M0) (hE : e_all K xq) (en_6_2 : rd M0 6 2 = 2) (en_6_3 : rd M0 6 3 = 7) (en_6_4 : rd M0 6 4 = 15) (en_6_6 : rd M0 6 6 = 7) (a1 : Int) (ha1 : 0 ≤ a1 ∧ a1 ≤ 59)  : Tr l K 12 mX5_block 0 [(0, (2, 6)), (1, (0, a1))] [] M0 (q_X5_block_6_w16 M0) := by
  have hS : St Tru ws_X5_block_6_w16 as_X5_block_6_w16 M0 M0 := St.rf hI
  refine Tr.aload_n (pc := 0) (i := 0) d_X5_block_0 rfl rfl ?_
  refine Tr.bipush (pc := 1) d_X5_block_1 rfl (by decide) ?_
  refine Tr.callV (pc := 3) (as := [_]) d_X5_block_3 s_5_206 ok_X5_takeOpening rfl rfl (Nat.le_of_ble_eq_true rfl) (Nat.le_of_ble_eq_true rfl) (by decide) (ty_6 hS.1.1) ?_
  refine Tr.imp (Tr.deep (by decide) (sp_X5_takeOpening_6_w25 hS.1 ((St.kp hS (by decide) (by decide) (by decide)).trans en_6_2) en_6_6 123 (by omega))) ?_
  rintro M3 _ ⟨h3, r3, rfl, lr3, ur3, x3_6_6⟩
  have hS := St.tr hS h3 (by decide) (by decide)
  refine Tr.sc [(0, r3)] rfl ?_
  refine Tr.if_ne (pc := 6) (tgt := 12) d_X5_block_6 rfl (fun c6 => ?_) (fun c6 => ?_)
  · refine Tr.aload_n (pc := 12) (i := 0) d_X5_block_12 rfl rfl ?_
    refine Tr.iload_n (pc := 13) (i := 1) d_X5_block_13 rfl rfl ?_
    refine Tr.callV (pc := 14) (as := [_]) d_X5_block_14 s_5_46 ok_X5_orders rfl rfl (Nat.le_of_ble_eq_true rfl) (Nat.le_of_ble_eq_true rfl) (by decide) (ty_6 hS.1.1) ?_
    refine Tr.imp (Tr.deep (by decide) (sp_X5_orders_6_w17 hS.1 hE ((St.kp hS (by decide) (by decide) (by decide)).trans en_6_2) ((St.kp hS (by decide) (by decide) (by decide)).trans en_6_3) ((St.kp hS (by decide) (by decide) (by decide)).trans en_6_4) (x3_6_6 (by omega)) a1 (by omega))) ?_
    rintro M14 _ ⟨h14, r14, rfl, lr14, ur14⟩
    have hS := St.tr hS h14 (by decide) (by decide)
    refine Tr.sc [(0, r14)] rfl ?_
    refine Tr.istore_n (pc := 17) (i := 2) (ls2 := [(2, (0, r14)), (0, (2, 6)), (1, (0, a1))]) d_X5_block_17 rfl (by decide) rfl ?_
    refine Tr.iload_n (pc := 18) (i := 2) d_X5_block_18 rfl rfl ?_
    refine Tr.bipush (pc := 19) d_X5_block_19 rfl (by decide) ?_
    refine Tr.icmp_eq (pc := 21) (tgt := 33) d_X5_block_21 rfl (fun c21 => ?_) (fun c21 => ?_)
    · refine Tr.bipush (pc := 33) d_X5_block_33 rfl (by decide) ?_
      exact Tr.iret (pc := 35) d_X5_block_35 rfl ⟨hS, _, rfl, by omega, by omega, fun hq => absurd hq (by omega)⟩
    · refine Tr.aload_n (pc := 24) (i := 0) d_X5_block_24 rfl rfl ?_
      refine Tr.bipush (pc := 25) d_X5_block_25 rfl (by decide) ?_
      refine Tr.callV (pc := 27) (as := [_]) d_X5_block_27 s_5_209 ok_X5_takeClosing rfl rfl (Nat.le_of_ble_eq_true rfl) (Nat.le_of_ble_eq_true rfl) (by decide) (ty_6 hS.1.1) ?_
      refine Tr.imp (Tr.deep (by decide) (sp_X5_takeClosing_6_w16 hS.1 ((St.kp hS (by decide) (by decide) (by decide)).trans en_6_2) ((St.kp h14 (by decide) (by decide) (by decide)).trans (x3_6_6 (by omega))) 125 (by omega))) ?_
      rintro M27 _ ⟨h27, r27, rfl, lr27, ur27, x27_6_6⟩
      have hS := St.tr hS h27 (by decide) (by decide)
      refine Tr.sc [(0, r27)] rfl ?_
      refine Tr.if_ne (pc := 30) (tgt := 36) d_X5_block_30 rfl (fun c30 => ?_) (fun c30 => ?_)
      · refine Tr.iload_n (pc := 36) (i := 2) d_X5_block_36 rfl rfl ?_
        exact Tr.iret (pc := 37) d_X5_block_37 rfl ⟨hS, _, rfl, by omega, by omega, fun _ => (x27_6_6 (by omega))⟩
      · refine Tr.bipush (pc := 33) d_X5_block_33 rfl (by decide) ?_
        exact Tr.iret (pc := 35) d_X5_block_35 rfl ⟨hS, _, rfl, by omega, by omega, fun hq => absurd hq (by omega)⟩
  · refine Tr.bipush (pc := 9) d_X5_block_9 rfl (by decide) ?_
    exact Tr.iret (pc := 11) d_X5_block_11 rfl ⟨hS, _, rfl, by omega, by omega, fun hq => absurd hq (by omega)⟩

def ws_X5_yesBlock_6_w16 : List (Int × Int) := [(6, 0), (6, 1), (6, 5), (6, 6), (15, 0), (15, 11)]
def as_X5_yesBlock_6_w16 : List Int := [16, 17, 18, 19, 20, 21, 22, 24, 25]
def q_X5_yesBlock_6_w16 (M0 M' : Mem) (r : Option PV) : Prop := St Tru ws_X5_yesBlock_6_w16 as_X5_yesBlock_6_w16 M0 M' ∧ ∃ v : Int, r = some (0, v) ∧ 0 ≤ v ∧ v ≤ 1 ∧ ((1 ≤ v ∧ v ≤ 1) → rd M' 6 6 = 7)
set_option maxRecDepth 100000 in
set_option maxHeartbeats 4000000 in
theorem sp_X5_yesBlock_6_w16 {l : Launch} {K : EC} {M0 : Mem} {xq : Int} (hI : In Tru M0) (hE : e_all K xq) (en_6_2 : rd M0 6 2 = 2) (en_6_3 : rd M0 6 3 = 7) (en_6_4 : rd M0 6 4 = 15) (en_6_6 : rd M0 6 6 = 7) (a1 : Int) (ha1 : 0 ≤ a1 ∧ a1 ≤ 59)  : Tr l K 13 mX5_yesBlock 0 [(0, (2, 6)), (1, (0, a1))] [] M0 (q_X5_yesBlock_6_w16 M0) := by
  have hS : St Tru ws_X5_yesBlock_6_w16 as_X5_yesBlock_6_w16 M0 M0 := St.rf hI
  refine Tr.aload_n (pc := 0) (i := 0) d_X5_yesBlock_0 rfl rfl ?_
  refine Tr.iload_n (pc := 1) (i := 1) d_X5_yesBlock_1 rfl rfl ?_
  refine Tr.callV (pc := 2) (as := [_]) d_X5_yesBlock_2 s_5_197 ok_X5_block rfl rfl (Nat.le_of_ble_eq_true rfl) (Nat.le_of_ble_eq_true rfl) (by decide) (ty_6 hS.1.1) ?_
  refine Tr.imp (Tr.deep (by decide) (sp_X5_block_6_w16 hS.1 hE ((St.kp hS (by decide) (by decide) (by decide)).trans en_6_2) ((St.kp hS (by decide) (by decide) (by decide)).trans en_6_3) ((St.kp hS (by decide) (by decide) (by decide)).trans en_6_4) en_6_6 a1 (by omega))) ?_
  rintro M2 _ ⟨h2, r2, rfl, lr2, ur2, x2_6_6⟩
  have hS := St.tr hS h2 (by decide) (by decide)
  refine Tr.sc [(0, r2)] rfl ?_
  refine Tr.istore_n (pc := 5) (i := 2) (ls2 := [(2, (0, r2)), (0, (2, 6)), (1, (0, a1))]) d_X5_yesBlock_5 rfl (by decide) rfl ?_
  refine Tr.aload_n (pc := 6) (i := 0) d_X5_yesBlock_6 rfl rfl ?_
  refine Tr.getf (pc := 7) d_X5_yesBlock_7 f_5_32 (by decide) (by decide) (ty_6 hS.1.1) ?_
  refine Tr.tp 15 ((St.kp hS (by decide) (by decide) (by decide)).trans en_6_4) ?_
  refine Tr.getf (pc := 10) d_X5_yesBlock_10 f_5_200 (by decide) (by decide) (ty_15 hS.1.1) ?_
  refine Tr.tp 19 (fx_15_4 hS.1.1) ?_
  refine Tr.iload_n (pc := 13) (i := 1) d_X5_yesBlock_13 rfl rfl ?_
  refine Tr.iload_n (pc := 14) (i := 2) d_X5_yesBlock_14 rfl rfl ?_
  refine Tr.iastS (pc := 15) (P := St Tru ws_X5_yesBlock_6_w16 as_X5_yesBlock_6_w16 M0) d_X5_yesBlock_15 (ty_19 hS.1.1) (by omega) (by omega) (sa_19 hS (by decide) (by omega) trivial) (fun M15 hS w15 => ?_)
  refine Tr.iload_n (pc := 16) (i := 2) d_X5_yesBlock_16 rfl rfl ?_
  refine Tr.bipush (pc := 17) d_X5_yesBlock_17 rfl (by decide) ?_
  refine Tr.icmp_eq (pc := 19) (tgt := 26) d_X5_yesBlock_19 rfl (fun c19 => ?_) (fun c19 => ?_)
  · refine Tr.iconst (pc := 26) d_X5_yesBlock_26 (by decide) ?_
    exact Tr.zret (pc := 27) d_X5_yesBlock_27 rfl (by omega) ⟨hS, _, rfl, by omega, by omega, fun hq => absurd hq (by omega)⟩
  · refine Tr.iconst (pc := 22) d_X5_yesBlock_22 (by decide) ?_
    refine Tr.goto (pc := 23) (tgt := 27) d_X5_yesBlock_23 rfl ?_
    exact Tr.zret (pc := 27) d_X5_yesBlock_27 rfl (by omega) ⟨hS, _, rfl, by omega, by omega, fun _ => ((Wr.b w15 rfl).trans (x2_6_6 (by omega)))⟩

def ws_X5_noBlock_6_w8 : List (Int × Int) := [(6, 0), (6, 1), (6, 5), (6, 6), (15, 0), (15, 11)]
def as_X5_noBlock_6_w8 : List Int := [16, 17, 18, 19, 20, 21, 22, 24, 25]
def q_X5_noBlock_6_w8 (M0 M' : Mem) (r : Option PV) : Prop := St Tru ws_X5_noBlock_6_w8 as_X5_noBlock_6_w8 M0 M' ∧ ∃ v : Int, r = some (0, v) ∧ 0 ≤ v ∧ v ≤ 1 ∧ ((1 ≤ v ∧ v ≤ 1) → rd M' 6 6 = 7)
set_option maxRecDepth 100000 in
set_option maxHeartbeats 4000000 in
theorem sp_X5_noBlock_6_w8 {l : Launch} {K : EC} {M0 : Mem} {xq : Int} (hI : In Tru M0) (hE : e_all K xq) (en_6_2 : rd M0 6 2 = 2) (en_6_3 : rd M0 6 3 = 7) (en_6_4 : rd M0 6 4 = 15) (en_6_6 : rd M0 6 6 = 7) (a1 : Int) (ha1 : 0 ≤ a1 ∧ a1 ≤ 59)  : Tr l K 13 mX5_noBlock 0 [(0, (2, 6)), (1, (0, a1))] [] M0 (q_X5_noBlock_6_w8 M0) := by
  have hS : St Tru ws_X5_noBlock_6_w8 as_X5_noBlock_6_w8 M0 M0 := St.rf hI
  refine Tr.aload_n (pc := 0) (i := 0) d_X5_noBlock_0 rfl rfl ?_
  refine Tr.bipush (pc := 1) d_X5_noBlock_1 rfl (by decide) ?_
  refine Tr.callV (pc := 3) (as := [_]) d_X5_noBlock_3 s_5_71 ok_X5_isOwn rfl rfl (Nat.le_of_ble_eq_true rfl) (Nat.le_of_ble_eq_true rfl) (by decide) (ty_6 hS.1.1) ?_
  refine Tr.imp (Tr.deep (by decide) (sp_X5_isOwn_6 hS.1 ((St.kp hS (by decide) (by decide) (by decide)).trans en_6_2) 13 (by omega))) ?_
  rintro M3 _ ⟨h3, r3, rfl, lr3, ur3⟩
  have hS := St.tr hS h3 (by decide) (by decide)
  refine Tr.sc [(0, r3)] rfl ?_
  refine Tr.if_ne (pc := 6) (tgt := 11) d_X5_noBlock_6 rfl (fun c6 => ?_) (fun c6 => ?_)
  · refine Tr.aload_n (pc := 11) (i := 0) d_X5_noBlock_11 rfl rfl ?_
    refine Tr.callV (pc := 12) (as := []) d_X5_noBlock_12 s_5_74 ok_X5_goOn rfl rfl (Nat.le_of_ble_eq_true rfl) (Nat.le_of_ble_eq_true rfl) (by decide) (ty_6 hS.1.1) ?_
    refine Tr.imp (Tr.deep (by decide) (sp_X5_goOn_6 hS.1 )) ?_
    rintro M12 _ ⟨h12, r12, rfl, lr12, ur12⟩
    have hS := St.tr hS h12 (by decide) (by decide)
    refine Tr.sc [(0, r12)] rfl ?_
    refine Tr.pop (pc := 15) d_X5_noBlock_15 ne01 ?_
    refine Tr.aload_n (pc := 16) (i := 0) d_X5_noBlock_16 rfl rfl ?_
    refine Tr.iload_n (pc := 17) (i := 1) d_X5_noBlock_17 rfl rfl ?_
    refine Tr.callV (pc := 18) (as := [_]) d_X5_noBlock_18 s_5_197 ok_X5_block rfl rfl (Nat.le_of_ble_eq_true rfl) (Nat.le_of_ble_eq_true rfl) (by decide) (ty_6 hS.1.1) ?_
    refine Tr.imp (Tr.deep (by decide) (sp_X5_block_6_w16 hS.1 hE ((St.kp hS (by decide) (by decide) (by decide)).trans en_6_2) ((St.kp hS (by decide) (by decide) (by decide)).trans en_6_3) ((St.kp hS (by decide) (by decide) (by decide)).trans en_6_4) ((St.kp h12 (by decide) (by decide) (by decide)).trans ((St.kp h3 (by decide) (by decide) (by decide)).trans en_6_6)) a1 (by omega))) ?_
    rintro M18 _ ⟨h18, r18, rfl, lr18, ur18, x18_6_6⟩
    have hS := St.tr hS h18 (by decide) (by decide)
    refine Tr.sc [(0, r18)] rfl ?_
    refine Tr.istore_n (pc := 21) (i := 2) (ls2 := [(2, (0, r18)), (0, (2, 6)), (1, (0, a1))]) d_X5_noBlock_21 rfl (by decide) rfl ?_
    refine Tr.aload_n (pc := 22) (i := 0) d_X5_noBlock_22 rfl rfl ?_
    refine Tr.getf (pc := 23) d_X5_noBlock_23 f_5_32 (by decide) (by decide) (ty_6 hS.1.1) ?_
    refine Tr.tp 15 ((St.kp hS (by decide) (by decide) (by decide)).trans en_6_4) ?_
    refine Tr.getf (pc := 26) d_X5_noBlock_26 f_5_203 (by decide) (by decide) (ty_15 hS.1.1) ?_
    refine Tr.tp 20 (fx_15_5 hS.1.1) ?_
    refine Tr.iload_n (pc := 29) (i := 1) d_X5_noBlock_29 rfl rfl ?_
    refine Tr.iload_n (pc := 30) (i := 2) d_X5_noBlock_30 rfl rfl ?_
    refine Tr.iastS (pc := 31) (P := St Tru ws_X5_noBlock_6_w8 as_X5_noBlock_6_w8 M0) d_X5_noBlock_31 (ty_20 hS.1.1) (by omega) (by omega) (sa_20 hS (by decide) (by omega) trivial) (fun M31 hS w31 => ?_)
    refine Tr.iload_n (pc := 32) (i := 2) d_X5_noBlock_32 rfl rfl ?_
    refine Tr.bipush (pc := 33) d_X5_noBlock_33 rfl (by decide) ?_
    refine Tr.icmp_eq (pc := 35) (tgt := 42) d_X5_noBlock_35 rfl (fun c35 => ?_) (fun c35 => ?_)
    · refine Tr.iconst (pc := 42) d_X5_noBlock_42 (by decide) ?_
      exact Tr.zret (pc := 43) d_X5_noBlock_43 rfl (by omega) ⟨hS, _, rfl, by omega, by omega, fun hq => absurd hq (by omega)⟩
    · refine Tr.iconst (pc := 38) d_X5_noBlock_38 (by decide) ?_
      refine Tr.goto (pc := 39) (tgt := 43) d_X5_noBlock_39 rfl ?_
      exact Tr.zret (pc := 43) d_X5_noBlock_43 rfl (by omega) ⟨hS, _, rfl, by omega, by omega, fun _ => ((Wr.b w31 rfl).trans (x18_6_6 (by omega)))⟩
  · refine Tr.iconst (pc := 9) d_X5_noBlock_9 (by decide) ?_
    exact Tr.zret (pc := 10) d_X5_noBlock_10 rfl (by omega) ⟨hS, _, rfl, by omega, by omega, fun _ => ((St.kp h3 (by decide) (by decide) (by decide)).trans en_6_6)⟩

def ws_X5_order_6_w16 : List (Int × Int) := [(6, 0), (6, 1), (6, 5), (6, 6), (15, 0), (15, 11)]
def as_X5_order_6_w16 : List Int := [16, 17, 18, 19, 20, 21, 22, 24, 25]
def q_X5_order_6_w16 (M0 M' : Mem) (r : Option PV) : Prop := St Tru ws_X5_order_6_w16 as_X5_order_6_w16 M0 M' ∧ ∃ v : Int, r = some (0, v) ∧ 0 ≤ v ∧ v ≤ 1 ∧ ((1 ≤ v ∧ v ≤ 1) → rd M' 6 6 = 7)
set_option maxRecDepth 100000 in
set_option maxHeartbeats 4000000 in
theorem sp_X5_order_6_w16 {l : Launch} {K : EC} {M0 : Mem} {xq : Int} (hI : In Tru M0) (hE : e_all K xq) (en_6_2 : rd M0 6 2 = 2) (en_6_3 : rd M0 6 3 = 7) (en_6_4 : rd M0 6 4 = 15) (en_6_6 : rd M0 6 6 = 7) (a1 : Int) (ha1 : 0 ≤ a1 ∧ a1 ≤ 59)  : Tr l K 14 mX5_order 0 [(0, (2, 6)), (1, (0, a1))] [] M0 (q_X5_order_6_w16 M0) := by
  have hS : St Tru ws_X5_order_6_w16 as_X5_order_6_w16 M0 M0 := St.rf hI
  refine Tr.aload_n (pc := 0) (i := 0) d_X5_order_0 rfl rfl ?_
  refine Tr.getf (pc := 1) d_X5_order_1 f_5_32 (by decide) (by decide) (ty_6 hS.1.1) ?_
  refine Tr.tp 15 ((St.kp hS (by decide) (by decide) (by decide)).trans en_6_4) ?_
  refine Tr.getf (pc := 4) d_X5_order_4 f_5_169 (by decide) (by decide) (ty_15 hS.1.1) ?_
  refine Tr.tp 16 (fx_15_1 hS.1.1) ?_
  refine Tr.iload_n (pc := 7) (i := 1) d_X5_order_7 rfl rfl ?_
  refine Tr.iald (pc := 8) d_X5_order_8 (ty_16 hS.1.1) (by omega) (by omega) ?_
  refine Tr.gen (P := fun v => (-2147483648) ≤ v ∧ v ≤ 2147483647) (ar_16 hS.1.2.1 _) (fun r8 er8 br8 => ?_)
  rcases (show (r8 < 5 ∨ 11 < r8) ∨ r8 = 5 ∨ r8 = 6 ∨ r8 = 7 ∨ r8 = 8 ∨ r8 = 9 ∨ r8 = 10 ∨ r8 = 11 by omega) with c9 | c9 | c9 | c9 | c9 | c9 | c9 | c9
  · refine Tr.tswOut (pc := 9) (tgt := 198) d_X5_order_9 c9 rfl ?_
    refine Tr.aload_n (pc := 198) (i := 0) d_X5_order_198 rfl rfl ?_
    refine Tr.callV (pc := 199) (as := []) d_X5_order_199 s_5_177 ok_X5_test rfl rfl (Nat.le_of_ble_eq_true rfl) (Nat.le_of_ble_eq_true rfl) (by decide) (ty_6 hS.1.1) ?_
    refine Tr.imp (Tr.deep (by decide) (sp_X5_test_6_w16 hS.1 hE ((St.kp hS (by decide) (by decide) (by decide)).trans en_6_2) ((St.kp hS (by decide) (by decide) (by decide)).trans en_6_3) ((St.kp hS (by decide) (by decide) (by decide)).trans en_6_4) en_6_6)) ?_
    rintro M199 _ ⟨h199, r199, rfl, lr199, ur199, x199_6_6⟩
    have hS := St.tr hS h199 (by decide) (by decide)
    refine Tr.sc [(0, r199)] rfl ?_
    refine Tr.if_eq (pc := 202) (tgt := 217) d_X5_order_202 rfl (fun c202 => ?_) (fun c202 => ?_)
    · refine Tr.iconst (pc := 217) d_X5_order_217 (by decide) ?_
      exact Tr.zret (pc := 218) d_X5_order_218 rfl (by omega) ⟨hS, _, rfl, by omega, by omega, fun hq => absurd hq (by omega)⟩
    · refine Tr.aload_n (pc := 205) (i := 0) d_X5_order_205 rfl rfl ?_
      refine Tr.iload_n (pc := 206) (i := 1) d_X5_order_206 rfl rfl ?_
      refine Tr.callV (pc := 207) (as := [_]) d_X5_order_207 s_5_180 ok_X5_yesBlock rfl rfl (Nat.le_of_ble_eq_true rfl) (Nat.le_of_ble_eq_true rfl) (by decide) (ty_6 hS.1.1) ?_
      refine Tr.imp (Tr.deep (by decide) (sp_X5_yesBlock_6_w16 hS.1 hE ((St.kp hS (by decide) (by decide) (by decide)).trans en_6_2) ((St.kp hS (by decide) (by decide) (by decide)).trans en_6_3) ((St.kp hS (by decide) (by decide) (by decide)).trans en_6_4) (x199_6_6 (by omega)) a1 (by omega))) ?_
      rintro M207 _ ⟨h207, r207, rfl, lr207, ur207, x207_6_6⟩
      have hS := St.tr hS h207 (by decide) (by decide)
      refine Tr.sc [(0, r207)] rfl ?_
      refine Tr.if_eq (pc := 210) (tgt := 217) d_X5_order_210 rfl (fun c210 => ?_) (fun c210 => ?_)
      · refine Tr.iconst (pc := 217) d_X5_order_217 (by decide) ?_
        exact Tr.zret (pc := 218) d_X5_order_218 rfl (by omega) ⟨hS, _, rfl, by omega, by omega, fun hq => absurd hq (by omega)⟩
      · refine Tr.iconst (pc := 213) d_X5_order_213 (by decide) ?_
        refine Tr.goto (pc := 214) (tgt := 218) d_X5_order_214 rfl ?_
        exact Tr.zret (pc := 218) d_X5_order_218 rfl (by omega) ⟨hS, _, rfl, by omega, by omega, fun _ => (x207_6_6 (by omega))⟩
  · refine Tr.tp 5 c9 ?_
    refine Tr.tswIn (pc := 9) (off := 43) (tgt := 52) d_X5_order_9 (by decide) (by decide) rfl rfl ?_
    refine Tr.aload_n (pc := 52) (i := 0) d_X5_order_52 rfl rfl ?_
    refine Tr.iload_n (pc := 53) (i := 1) d_X5_order_53 rfl rfl ?_
    refine Tr.iconst (pc := 54) d_X5_order_54 (by decide) ?_
    refine Tr.callV (pc := 55) (as := [_, _]) d_X5_order_55 s_5_170 ok_X5_about rfl rfl (Nat.le_of_ble_eq_true rfl) (Nat.le_of_ble_eq_true rfl) (by decide) (ty_6 hS.1.1) ?_
    refine Tr.imp (Tr.deep (by decide) (sp_X5_about_6_v2_w1 hS.1 hE ((St.kp hS (by decide) (by decide) (by decide)).trans en_6_2) ((St.kp hS (by decide) (by decide) (by decide)).trans en_6_3) ((St.kp hS (by decide) (by decide) (by decide)).trans en_6_4) a1 (by omega))) ?_
    rintro M55 _ ⟨h55, r55, rfl, lr55, ur55⟩
    have hS := St.tr hS h55 (by decide) (by decide)
    refine Tr.sc [(0, r55)] rfl ?_
    refine Tr.if_eq (pc := 58) (tgt := 90) d_X5_order_58 rfl (fun c58 => ?_) (fun c58 => ?_)
    · refine Tr.iconst (pc := 90) d_X5_order_90 (by decide) ?_
      exact Tr.zret (pc := 91) d_X5_order_91 rfl (by omega) ⟨hS, _, rfl, by omega, by omega, fun hq => absurd hq (by omega)⟩
    · refine Tr.aload_n (pc := 61) (i := 0) d_X5_order_61 rfl rfl ?_
      refine Tr.bipush (pc := 62) d_X5_order_62 rfl (by decide) ?_
      refine Tr.callV (pc := 64) (as := [_]) d_X5_order_64 s_5_81 ok_X5_takeSign rfl rfl (Nat.le_of_ble_eq_true rfl) (Nat.le_of_ble_eq_true rfl) (by decide) (ty_6 hS.1.1) ?_
      refine Tr.imp (Tr.deep (by decide) (sp_X5_takeSign_6_w3 hS.1 ((St.kp hS (by decide) (by decide) (by decide)).trans en_6_2) 61 (by omega))) ?_
      rintro M64 _ ⟨h64, r64, rfl, lr64, ur64⟩
      have hS := St.tr hS h64 (by decide) (by decide)
      refine Tr.sc [(0, r64)] rfl ?_
      refine Tr.if_eq (pc := 67) (tgt := 90) d_X5_order_67 rfl (fun c67 => ?_) (fun c67 => ?_)
      · refine Tr.iconst (pc := 90) d_X5_order_90 (by decide) ?_
        exact Tr.zret (pc := 91) d_X5_order_91 rfl (by omega) ⟨hS, _, rfl, by omega, by omega, fun hq => absurd hq (by omega)⟩
      · refine Tr.aload_n (pc := 70) (i := 0) d_X5_order_70 rfl rfl ?_
        refine Tr.callV (pc := 71) (as := []) d_X5_order_71 s_5_174 ok_X5_sum rfl rfl (Nat.le_of_ble_eq_true rfl) (Nat.le_of_ble_eq_true rfl) (by decide) (ty_6 hS.1.1) ?_
        refine Tr.imp (Tr.deep (by decide) (sp_X5_sum_6_w16 hS.1 hE ((St.kp hS (by decide) (by decide) (by decide)).trans en_6_2) ((St.kp hS (by decide) (by decide) (by decide)).trans en_6_3) ((St.kp hS (by decide) (by decide) (by decide)).trans en_6_4) ((St.kp h64 (by decide) (by decide) (by decide)).trans ((St.kp h55 (by decide) (by decide) (by decide)).trans en_6_6)))) ?_
        rintro M71 _ ⟨h71, r71, rfl, lr71, ur71, x71_6_6⟩
        have hS := St.tr hS h71 (by decide) (by decide)
        refine Tr.sc [(0, r71)] rfl ?_
        refine Tr.if_eq (pc := 74) (tgt := 90) d_X5_order_74 rfl (fun c74 => ?_) (fun c74 => ?_)
        · refine Tr.iconst (pc := 90) d_X5_order_90 (by decide) ?_
          exact Tr.zret (pc := 91) d_X5_order_91 rfl (by omega) ⟨hS, _, rfl, by omega, by omega, fun hq => absurd hq (by omega)⟩
        · refine Tr.aload_n (pc := 77) (i := 0) d_X5_order_77 rfl rfl ?_
          refine Tr.bipush (pc := 78) d_X5_order_78 rfl (by decide) ?_
          refine Tr.callV (pc := 80) (as := [_]) d_X5_order_80 s_5_81 ok_X5_takeSign rfl rfl (Nat.le_of_ble_eq_true rfl) (Nat.le_of_ble_eq_true rfl) (by decide) (ty_6 hS.1.1) ?_
          refine Tr.imp (Tr.deep (by decide) (sp_X5_takeSign_6 hS.1 ((St.kp hS (by decide) (by decide) (by decide)).trans en_6_2) 59 (by omega))) ?_
          rintro M80 _ ⟨h80, r80, rfl, lr80, ur80⟩
          have hS := St.tr hS h80 (by decide) (by decide)
          refine Tr.sc [(0, r80)] rfl ?_
          refine Tr.if_eq (pc := 83) (tgt := 90) d_X5_order_83 rfl (fun c83 => ?_) (fun c83 => ?_)
          · refine Tr.iconst (pc := 90) d_X5_order_90 (by decide) ?_
            exact Tr.zret (pc := 91) d_X5_order_91 rfl (by omega) ⟨hS, _, rfl, by omega, by omega, fun hq => absurd hq (by omega)⟩
          · refine Tr.iconst (pc := 86) d_X5_order_86 (by decide) ?_
            refine Tr.goto (pc := 87) (tgt := 91) d_X5_order_87 rfl ?_
            exact Tr.zret (pc := 91) d_X5_order_91 rfl (by omega) ⟨hS, _, rfl, by omega, by omega, fun _ => ((St.kp h80 (by decide) (by decide) (by decide)).trans (x71_6_6 (by omega)))⟩
  · refine Tr.tp 6 c9 ?_
    refine Tr.tswIn (pc := 9) (off := 83) (tgt := 92) d_X5_order_9 (by decide) (by decide) rfl rfl ?_
    refine Tr.aload_n (pc := 92) (i := 0) d_X5_order_92 rfl rfl ?_
    refine Tr.iload_n (pc := 93) (i := 1) d_X5_order_93 rfl rfl ?_
    refine Tr.iconst (pc := 94) d_X5_order_94 (by decide) ?_
    refine Tr.callV (pc := 95) (as := [_, _]) d_X5_order_95 s_5_170 ok_X5_about rfl rfl (Nat.le_of_ble_eq_true rfl) (Nat.le_of_ble_eq_true rfl) (by decide) (ty_6 hS.1.1) ?_
    refine Tr.imp (Tr.deep (by decide) (sp_X5_about_6_v0_w1 hS.1 hE ((St.kp hS (by decide) (by decide) (by decide)).trans en_6_2) ((St.kp hS (by decide) (by decide) (by decide)).trans en_6_3) ((St.kp hS (by decide) (by decide) (by decide)).trans en_6_4) a1 (by omega))) ?_
    rintro M95 _ ⟨h95, r95, rfl, lr95, ur95⟩
    have hS := St.tr hS h95 (by decide) (by decide)
    refine Tr.sc [(0, r95)] rfl ?_
    refine Tr.if_eq (pc := 98) (tgt := 121) d_X5_order_98 rfl (fun c98 => ?_) (fun c98 => ?_)
    · refine Tr.iconst (pc := 121) d_X5_order_121 (by decide) ?_
      exact Tr.zret (pc := 122) d_X5_order_122 rfl (by omega) ⟨hS, _, rfl, by omega, by omega, fun hq => absurd hq (by omega)⟩
    · refine Tr.aload_n (pc := 101) (i := 0) d_X5_order_101 rfl rfl ?_
      refine Tr.callV (pc := 102) (as := []) d_X5_order_102 s_5_174 ok_X5_sum rfl rfl (Nat.le_of_ble_eq_true rfl) (Nat.le_of_ble_eq_true rfl) (by decide) (ty_6 hS.1.1) ?_
      refine Tr.imp (Tr.deep (by decide) (sp_X5_sum_6_w16 hS.1 hE ((St.kp hS (by decide) (by decide) (by decide)).trans en_6_2) ((St.kp hS (by decide) (by decide) (by decide)).trans en_6_3) ((St.kp hS (by decide) (by decide) (by decide)).trans en_6_4) ((St.kp h95 (by decide) (by decide) (by decide)).trans en_6_6))) ?_
      rintro M102 _ ⟨h102, r102, rfl, lr102, ur102, x102_6_6⟩
      have hS := St.tr hS h102 (by decide) (by decide)
      refine Tr.sc [(0, r102)] rfl ?_
      refine Tr.if_eq (pc := 105) (tgt := 121) d_X5_order_105 rfl (fun c105 => ?_) (fun c105 => ?_)
      · refine Tr.iconst (pc := 121) d_X5_order_121 (by decide) ?_
        exact Tr.zret (pc := 122) d_X5_order_122 rfl (by omega) ⟨hS, _, rfl, by omega, by omega, fun hq => absurd hq (by omega)⟩
      · refine Tr.aload_n (pc := 108) (i := 0) d_X5_order_108 rfl rfl ?_
        refine Tr.bipush (pc := 109) d_X5_order_109 rfl (by decide) ?_
        refine Tr.callV (pc := 111) (as := [_]) d_X5_order_111 s_5_81 ok_X5_takeSign rfl rfl (Nat.le_of_ble_eq_true rfl) (Nat.le_of_ble_eq_true rfl) (by decide) (ty_6 hS.1.1) ?_
        refine Tr.imp (Tr.deep (by decide) (sp_X5_takeSign_6 hS.1 ((St.kp hS (by decide) (by decide) (by decide)).trans en_6_2) 59 (by omega))) ?_
        rintro M111 _ ⟨h111, r111, rfl, lr111, ur111⟩
        have hS := St.tr hS h111 (by decide) (by decide)
        refine Tr.sc [(0, r111)] rfl ?_
        refine Tr.if_eq (pc := 114) (tgt := 121) d_X5_order_114 rfl (fun c114 => ?_) (fun c114 => ?_)
        · refine Tr.iconst (pc := 121) d_X5_order_121 (by decide) ?_
          exact Tr.zret (pc := 122) d_X5_order_122 rfl (by omega) ⟨hS, _, rfl, by omega, by omega, fun hq => absurd hq (by omega)⟩
        · refine Tr.iconst (pc := 117) d_X5_order_117 (by decide) ?_
          refine Tr.goto (pc := 118) (tgt := 122) d_X5_order_118 rfl ?_
          exact Tr.zret (pc := 122) d_X5_order_122 rfl (by omega) ⟨hS, _, rfl, by omega, by omega, fun _ => ((St.kp h111 (by decide) (by decide) (by decide)).trans (x102_6_6 (by omega)))⟩
  · refine Tr.tp 7 c9 ?_
    refine Tr.tswIn (pc := 9) (off := 114) (tgt := 123) d_X5_order_9 (by decide) (by decide) rfl rfl ?_
    refine Tr.aload_n (pc := 123) (i := 0) d_X5_order_123 rfl rfl ?_
    refine Tr.iload_n (pc := 124) (i := 1) d_X5_order_124 rfl rfl ?_
    refine Tr.iconst (pc := 125) d_X5_order_125 (by decide) ?_
    refine Tr.callV (pc := 126) (as := [_, _]) d_X5_order_126 s_5_170 ok_X5_about rfl rfl (Nat.le_of_ble_eq_true rfl) (Nat.le_of_ble_eq_true rfl) (by decide) (ty_6 hS.1.1) ?_
    refine Tr.imp (Tr.deep (by decide) (sp_X5_about_6_v0_w1 hS.1 hE ((St.kp hS (by decide) (by decide) (by decide)).trans en_6_2) ((St.kp hS (by decide) (by decide) (by decide)).trans en_6_3) ((St.kp hS (by decide) (by decide) (by decide)).trans en_6_4) a1 (by omega))) ?_
    rintro M126 _ ⟨h126, r126, rfl, lr126, ur126⟩
    have hS := St.tr hS h126 (by decide) (by decide)
    refine Tr.sc [(0, r126)] rfl ?_
    refine Tr.if_eq (pc := 129) (tgt := 145) d_X5_order_129 rfl (fun c129 => ?_) (fun c129 => ?_)
    · refine Tr.iconst (pc := 145) d_X5_order_145 (by decide) ?_
      exact Tr.zret (pc := 146) d_X5_order_146 rfl (by omega) ⟨hS, _, rfl, by omega, by omega, fun hq => absurd hq (by omega)⟩
    · refine Tr.aload_n (pc := 132) (i := 0) d_X5_order_132 rfl rfl ?_
      refine Tr.bipush (pc := 133) d_X5_order_133 rfl (by decide) ?_
      refine Tr.callV (pc := 135) (as := [_]) d_X5_order_135 s_5_81 ok_X5_takeSign rfl rfl (Nat.le_of_ble_eq_true rfl) (Nat.le_of_ble_eq_true rfl) (by decide) (ty_6 hS.1.1) ?_
      refine Tr.imp (Tr.deep (by decide) (sp_X5_takeSign_6 hS.1 ((St.kp hS (by decide) (by decide) (by decide)).trans en_6_2) 59 (by omega))) ?_
      rintro M135 _ ⟨h135, r135, rfl, lr135, ur135⟩
      have hS := St.tr hS h135 (by decide) (by decide)
      refine Tr.sc [(0, r135)] rfl ?_
      refine Tr.if_eq (pc := 138) (tgt := 145) d_X5_order_138 rfl (fun c138 => ?_) (fun c138 => ?_)
      · refine Tr.iconst (pc := 145) d_X5_order_145 (by decide) ?_
        exact Tr.zret (pc := 146) d_X5_order_146 rfl (by omega) ⟨hS, _, rfl, by omega, by omega, fun hq => absurd hq (by omega)⟩
      · refine Tr.iconst (pc := 141) d_X5_order_141 (by decide) ?_
        refine Tr.goto (pc := 142) (tgt := 146) d_X5_order_142 rfl ?_
        exact Tr.zret (pc := 146) d_X5_order_146 rfl (by omega) ⟨hS, _, rfl, by omega, by omega, fun _ => ((St.kp h135 (by decide) (by decide) (by decide)).trans ((St.kp h126 (by decide) (by decide) (by decide)).trans en_6_6))⟩
  · refine Tr.tp 8 c9 ?_
    refine Tr.tswIn (pc := 9) (off := 114) (tgt := 123) d_X5_order_9 (by decide) (by decide) rfl rfl ?_
    refine Tr.aload_n (pc := 123) (i := 0) d_X5_order_123 rfl rfl ?_
    refine Tr.iload_n (pc := 124) (i := 1) d_X5_order_124 rfl rfl ?_
    refine Tr.iconst (pc := 125) d_X5_order_125 (by decide) ?_
    refine Tr.callV (pc := 126) (as := [_, _]) d_X5_order_126 s_5_170 ok_X5_about rfl rfl (Nat.le_of_ble_eq_true rfl) (Nat.le_of_ble_eq_true rfl) (by decide) (ty_6 hS.1.1) ?_
    refine Tr.imp (Tr.deep (by decide) (sp_X5_about_6_v0_w1 hS.1 hE ((St.kp hS (by decide) (by decide) (by decide)).trans en_6_2) ((St.kp hS (by decide) (by decide) (by decide)).trans en_6_3) ((St.kp hS (by decide) (by decide) (by decide)).trans en_6_4) a1 (by omega))) ?_
    rintro M126 _ ⟨h126, r126, rfl, lr126, ur126⟩
    have hS := St.tr hS h126 (by decide) (by decide)
    refine Tr.sc [(0, r126)] rfl ?_
    refine Tr.if_eq (pc := 129) (tgt := 145) d_X5_order_129 rfl (fun c129 => ?_) (fun c129 => ?_)
    · refine Tr.iconst (pc := 145) d_X5_order_145 (by decide) ?_
      exact Tr.zret (pc := 146) d_X5_order_146 rfl (by omega) ⟨hS, _, rfl, by omega, by omega, fun hq => absurd hq (by omega)⟩
    · refine Tr.aload_n (pc := 132) (i := 0) d_X5_order_132 rfl rfl ?_
      refine Tr.bipush (pc := 133) d_X5_order_133 rfl (by decide) ?_
      refine Tr.callV (pc := 135) (as := [_]) d_X5_order_135 s_5_81 ok_X5_takeSign rfl rfl (Nat.le_of_ble_eq_true rfl) (Nat.le_of_ble_eq_true rfl) (by decide) (ty_6 hS.1.1) ?_
      refine Tr.imp (Tr.deep (by decide) (sp_X5_takeSign_6 hS.1 ((St.kp hS (by decide) (by decide) (by decide)).trans en_6_2) 59 (by omega))) ?_
      rintro M135 _ ⟨h135, r135, rfl, lr135, ur135⟩
      have hS := St.tr hS h135 (by decide) (by decide)
      refine Tr.sc [(0, r135)] rfl ?_
      refine Tr.if_eq (pc := 138) (tgt := 145) d_X5_order_138 rfl (fun c138 => ?_) (fun c138 => ?_)
      · refine Tr.iconst (pc := 145) d_X5_order_145 (by decide) ?_
        exact Tr.zret (pc := 146) d_X5_order_146 rfl (by omega) ⟨hS, _, rfl, by omega, by omega, fun hq => absurd hq (by omega)⟩
      · refine Tr.iconst (pc := 141) d_X5_order_141 (by decide) ?_
        refine Tr.goto (pc := 142) (tgt := 146) d_X5_order_142 rfl ?_
        exact Tr.zret (pc := 146) d_X5_order_146 rfl (by omega) ⟨hS, _, rfl, by omega, by omega, fun _ => ((St.kp h135 (by decide) (by decide) (by decide)).trans ((St.kp h126 (by decide) (by decide) (by decide)).trans en_6_6))⟩
  · refine Tr.tp 9 c9 ?_
    refine Tr.tswIn (pc := 9) (off := 138) (tgt := 147) d_X5_order_9 (by decide) (by decide) rfl rfl ?_
    refine Tr.aload_n (pc := 147) (i := 0) d_X5_order_147 rfl rfl ?_
    refine Tr.callV (pc := 148) (as := []) d_X5_order_148 s_5_174 ok_X5_sum rfl rfl (Nat.le_of_ble_eq_true rfl) (Nat.le_of_ble_eq_true rfl) (by decide) (ty_6 hS.1.1) ?_
    refine Tr.imp (Tr.deep (by decide) (sp_X5_sum_6_w16 hS.1 hE ((St.kp hS (by decide) (by decide) (by decide)).trans en_6_2) ((St.kp hS (by decide) (by decide) (by decide)).trans en_6_3) ((St.kp hS (by decide) (by decide) (by decide)).trans en_6_4) en_6_6)) ?_
    rintro M148 _ ⟨h148, r148, rfl, lr148, ur148, x148_6_6⟩
    have hS := St.tr hS h148 (by decide) (by decide)
    refine Tr.sc [(0, r148)] rfl ?_
    refine Tr.if_eq (pc := 151) (tgt := 167) d_X5_order_151 rfl (fun c151 => ?_) (fun c151 => ?_)
    · refine Tr.iconst (pc := 167) d_X5_order_167 (by decide) ?_
      exact Tr.zret (pc := 168) d_X5_order_168 rfl (by omega) ⟨hS, _, rfl, by omega, by omega, fun hq => absurd hq (by omega)⟩
    · refine Tr.aload_n (pc := 154) (i := 0) d_X5_order_154 rfl rfl ?_
      refine Tr.bipush (pc := 155) d_X5_order_155 rfl (by decide) ?_
      refine Tr.callV (pc := 157) (as := [_]) d_X5_order_157 s_5_81 ok_X5_takeSign rfl rfl (Nat.le_of_ble_eq_true rfl) (Nat.le_of_ble_eq_true rfl) (by decide) (ty_6 hS.1.1) ?_
      refine Tr.imp (Tr.deep (by decide) (sp_X5_takeSign_6 hS.1 ((St.kp hS (by decide) (by decide) (by decide)).trans en_6_2) 59 (by omega))) ?_
      rintro M157 _ ⟨h157, r157, rfl, lr157, ur157⟩
      have hS := St.tr hS h157 (by decide) (by decide)
      refine Tr.sc [(0, r157)] rfl ?_
      refine Tr.if_eq (pc := 160) (tgt := 167) d_X5_order_160 rfl (fun c160 => ?_) (fun c160 => ?_)
      · refine Tr.iconst (pc := 167) d_X5_order_167 (by decide) ?_
        exact Tr.zret (pc := 168) d_X5_order_168 rfl (by omega) ⟨hS, _, rfl, by omega, by omega, fun hq => absurd hq (by omega)⟩
      · refine Tr.iconst (pc := 163) d_X5_order_163 (by decide) ?_
        refine Tr.goto (pc := 164) (tgt := 168) d_X5_order_164 rfl ?_
        exact Tr.zret (pc := 168) d_X5_order_168 rfl (by omega) ⟨hS, _, rfl, by omega, by omega, fun _ => ((St.kp h157 (by decide) (by decide) (by decide)).trans (x148_6_6 (by omega)))⟩
  · refine Tr.tp 10 c9 ?_
    refine Tr.tswIn (pc := 9) (off := 138) (tgt := 147) d_X5_order_9 (by decide) (by decide) rfl rfl ?_
    refine Tr.aload_n (pc := 147) (i := 0) d_X5_order_147 rfl rfl ?_
    refine Tr.callV (pc := 148) (as := []) d_X5_order_148 s_5_174 ok_X5_sum rfl rfl (Nat.le_of_ble_eq_true rfl) (Nat.le_of_ble_eq_true rfl) (by decide) (ty_6 hS.1.1) ?_
    refine Tr.imp (Tr.deep (by decide) (sp_X5_sum_6_w16 hS.1 hE ((St.kp hS (by decide) (by decide) (by decide)).trans en_6_2) ((St.kp hS (by decide) (by decide) (by decide)).trans en_6_3) ((St.kp hS (by decide) (by decide) (by decide)).trans en_6_4) en_6_6)) ?_
    rintro M148 _ ⟨h148, r148, rfl, lr148, ur148, x148_6_6⟩
    have hS := St.tr hS h148 (by decide) (by decide)
    refine Tr.sc [(0, r148)] rfl ?_
    refine Tr.if_eq (pc := 151) (tgt := 167) d_X5_order_151 rfl (fun c151 => ?_) (fun c151 => ?_)
    · refine Tr.iconst (pc := 167) d_X5_order_167 (by decide) ?_
      exact Tr.zret (pc := 168) d_X5_order_168 rfl (by omega) ⟨hS, _, rfl, by omega, by omega, fun hq => absurd hq (by omega)⟩
    · refine Tr.aload_n (pc := 154) (i := 0) d_X5_order_154 rfl rfl ?_
      refine Tr.bipush (pc := 155) d_X5_order_155 rfl (by decide) ?_
      refine Tr.callV (pc := 157) (as := [_]) d_X5_order_157 s_5_81 ok_X5_takeSign rfl rfl (Nat.le_of_ble_eq_true rfl) (Nat.le_of_ble_eq_true rfl) (by decide) (ty_6 hS.1.1) ?_
      refine Tr.imp (Tr.deep (by decide) (sp_X5_takeSign_6 hS.1 ((St.kp hS (by decide) (by decide) (by decide)).trans en_6_2) 59 (by omega))) ?_
      rintro M157 _ ⟨h157, r157, rfl, lr157, ur157⟩
      have hS := St.tr hS h157 (by decide) (by decide)
      refine Tr.sc [(0, r157)] rfl ?_
      refine Tr.if_eq (pc := 160) (tgt := 167) d_X5_order_160 rfl (fun c160 => ?_) (fun c160 => ?_)
      · refine Tr.iconst (pc := 167) d_X5_order_167 (by decide) ?_
        exact Tr.zret (pc := 168) d_X5_order_168 rfl (by omega) ⟨hS, _, rfl, by omega, by omega, fun hq => absurd hq (by omega)⟩
      · refine Tr.iconst (pc := 163) d_X5_order_163 (by decide) ?_
        refine Tr.goto (pc := 164) (tgt := 168) d_X5_order_164 rfl ?_
        exact Tr.zret (pc := 168) d_X5_order_168 rfl (by omega) ⟨hS, _, rfl, by omega, by omega, fun _ => ((St.kp h157 (by decide) (by decide) (by decide)).trans (x148_6_6 (by omega)))⟩
  · refine Tr.tp 11 c9 ?_
    refine Tr.tswIn (pc := 9) (off := 160) (tgt := 169) d_X5_order_9 (by decide) (by decide) rfl rfl ?_
    refine Tr.aload_n (pc := 169) (i := 0) d_X5_order_169 rfl rfl ?_
    refine Tr.callV (pc := 170) (as := []) d_X5_order_170 s_5_177 ok_X5_test rfl rfl (Nat.le_of_ble_eq_true rfl) (Nat.le_of_ble_eq_true rfl) (by decide) (ty_6 hS.1.1) ?_
    refine Tr.imp (Tr.deep (by decide) (sp_X5_test_6_w16 hS.1 hE ((St.kp hS (by decide) (by decide) (by decide)).trans en_6_2) ((St.kp hS (by decide) (by decide) (by decide)).trans en_6_3) ((St.kp hS (by decide) (by decide) (by decide)).trans en_6_4) en_6_6)) ?_
    rintro M170 _ ⟨h170, r170, rfl, lr170, ur170, x170_6_6⟩
    have hS := St.tr hS h170 (by decide) (by decide)
    refine Tr.sc [(0, r170)] rfl ?_
    refine Tr.if_eq (pc := 173) (tgt := 196) d_X5_order_173 rfl (fun c173 => ?_) (fun c173 => ?_)
    · refine Tr.iconst (pc := 196) d_X5_order_196 (by decide) ?_
      exact Tr.zret (pc := 197) d_X5_order_197 rfl (by omega) ⟨hS, _, rfl, by omega, by omega, fun hq => absurd hq (by omega)⟩
    · refine Tr.aload_n (pc := 176) (i := 0) d_X5_order_176 rfl rfl ?_
      refine Tr.iload_n (pc := 177) (i := 1) d_X5_order_177 rfl rfl ?_
      refine Tr.callV (pc := 178) (as := [_]) d_X5_order_178 s_5_180 ok_X5_yesBlock rfl rfl (Nat.le_of_ble_eq_true rfl) (Nat.le_of_ble_eq_true rfl) (by decide) (ty_6 hS.1.1) ?_
      refine Tr.imp (Tr.deep (by decide) (sp_X5_yesBlock_6_w16 hS.1 hE ((St.kp hS (by decide) (by decide) (by decide)).trans en_6_2) ((St.kp hS (by decide) (by decide) (by decide)).trans en_6_3) ((St.kp hS (by decide) (by decide) (by decide)).trans en_6_4) (x170_6_6 (by omega)) a1 (by omega))) ?_
      rintro M178 _ ⟨h178, r178, rfl, lr178, ur178, x178_6_6⟩
      have hS := St.tr hS h178 (by decide) (by decide)
      refine Tr.sc [(0, r178)] rfl ?_
      refine Tr.if_eq (pc := 181) (tgt := 196) d_X5_order_181 rfl (fun c181 => ?_) (fun c181 => ?_)
      · refine Tr.iconst (pc := 196) d_X5_order_196 (by decide) ?_
        exact Tr.zret (pc := 197) d_X5_order_197 rfl (by omega) ⟨hS, _, rfl, by omega, by omega, fun hq => absurd hq (by omega)⟩
      · refine Tr.aload_n (pc := 184) (i := 0) d_X5_order_184 rfl rfl ?_
        refine Tr.iload_n (pc := 185) (i := 1) d_X5_order_185 rfl rfl ?_
        refine Tr.callV (pc := 186) (as := [_]) d_X5_order_186 s_5_183 ok_X5_noBlock rfl rfl (Nat.le_of_ble_eq_true rfl) (Nat.le_of_ble_eq_true rfl) (by decide) (ty_6 hS.1.1) ?_
        refine Tr.imp (Tr.deep (by decide) (sp_X5_noBlock_6_w8 hS.1 hE ((St.kp hS (by decide) (by decide) (by decide)).trans en_6_2) ((St.kp hS (by decide) (by decide) (by decide)).trans en_6_3) ((St.kp hS (by decide) (by decide) (by decide)).trans en_6_4) (x178_6_6 (by omega)) a1 (by omega))) ?_
        rintro M186 _ ⟨h186, r186, rfl, lr186, ur186, x186_6_6⟩
        have hS := St.tr hS h186 (by decide) (by decide)
        refine Tr.sc [(0, r186)] rfl ?_
        refine Tr.if_eq (pc := 189) (tgt := 196) d_X5_order_189 rfl (fun c189 => ?_) (fun c189 => ?_)
        · refine Tr.iconst (pc := 196) d_X5_order_196 (by decide) ?_
          exact Tr.zret (pc := 197) d_X5_order_197 rfl (by omega) ⟨hS, _, rfl, by omega, by omega, fun hq => absurd hq (by omega)⟩
        · refine Tr.iconst (pc := 192) d_X5_order_192 (by decide) ?_
          refine Tr.goto (pc := 193) (tgt := 197) d_X5_order_193 rfl ?_
          exact Tr.zret (pc := 197) d_X5_order_197 rfl (by omega) ⟨hS, _, rfl, by omega, by omega, fun _ => (x186_6_6 (by omega))⟩

def ws_X5_orders_6_w16 : List (Int × Int) := [(6, 0), (6, 1), (6, 5), (6, 6), (15, 0), (15, 11)]
def as_X5_orders_6_w16 : List Int := [16, 17, 18, 19, 20, 21, 22, 24, 25]
def q_X5_orders_6_w16 (M0 M' : Mem) (r : Option PV) : Prop := St Tru ws_X5_orders_6_w16 as_X5_orders_6_w16 M0 M' ∧ ∃ v : Int, r = some (0, v) ∧ (-2) ≤ v ∧ v ≤ 59 ∧ (((-1) ≤ v ∧ v ≤ 1000000) → rd M' 6 6 = 7)
set_option maxRecDepth 100000 in
set_option maxHeartbeats 4000000 in
theorem sp_X5_orders_6_w16 {l : Launch} {K : EC} {M0 : Mem} {xq : Int} (hI : In Tru M0) (hE : e_all K xq) (en_6_2 : rd M0 6 2 = 2) (en_6_3 : rd M0 6 3 = 7) (en_6_4 : rd M0 6 4 = 15) (en_6_6 : rd M0 6 6 = 7) (a1 : Int) (ha1 : 0 ≤ a1 ∧ a1 ≤ 59)  : Tr l K 15 mX5_orders 0 [(0, (2, 6)), (1, (0, a1))] [] M0 (q_X5_orders_6_w16 M0) := by
  have hS : St Tru ws_X5_orders_6_w16 as_X5_orders_6_w16 M0 M0 := St.rf hI
  refine Tr.iconst (pc := 0) d_X5_orders_0 (by decide) ?_
  refine Tr.istore_n (pc := 1) (i := 2) (ls2 := [(2, (0, (-1))), (0, (2, 6)), (1, (0, a1))]) d_X5_orders_1 rfl (by decide) rfl ?_
  refine Tr.iconst (pc := 2) d_X5_orders_2 (by decide) ?_
  refine Tr.istore_n (pc := 3) (i := 3) (ls2 := [(3, (0, (-1))), (2, (0, (-1))), (0, (2, 6)), (1, (0, a1))]) d_X5_orders_3 rfl (by decide) rfl ?_
  refine Tr.iconst (pc := 4) d_X5_orders_4 (by decide) ?_
  refine Tr.istore (pc := 5) (i := 4) (ls2 := [(4, (0, 0)), (3, (0, (-1))), (2, (0, (-1))), (0, (2, 6)), (1, (0, a1))]) d_X5_orders_5 (by decide) rfl ?_
  have J7 : ∀ (n7 : Nat) (M : Mem) (p7_2 p7_3 p7_4 : Int), St Tru ws_X5_orders_6_w16 as_X5_orders_6_w16 M0 M → ((-1) ≤ p7_2 ∧ p7_2 ≤ 59) → ((-1) ≤ p7_3 ∧ p7_3 ≤ 59) → (0 ≤ p7_4 ∧ p7_4 ≤ 61) → rd M 6 6 = 7 → (61 - p7_4).toNat < n7 → Tr l K 15 mX5_orders 7 [(0, (2, 6)), (1, (0, a1)), (2, (0, p7_2)), (3, (0, p7_3)), (4, (0, p7_4))] [] M (q_X5_orders_6_w16 M0) := by
    intro n7
    induction n7 with
    | zero => intro M p7_2 p7_3 p7_4 hS bp7_2 bp7_3 bp7_4 k7_6_6 hm7; exact absurd hm7 (Nat.not_lt_zero _)
    | succ n7 J7 =>
      intro M p7_2 p7_3 p7_4 hS bp7_2 bp7_3 bp7_4 k7_6_6 hm7
      refine Tr.iload (pc := 7) (i := 4) d_X5_orders_7 rfl ?_
      refine Tr.bipush (pc := 9) d_X5_orders_9 rfl (by decide) ?_
      refine Tr.icmp_gt (pc := 11) (tgt := 111) d_X5_orders_11 rfl (fun c11 => ?_) (fun c11 => ?_)
      · refine Tr.iload_n (pc := 111) (i := 2) d_X5_orders_111 rfl rfl ?_
        exact Tr.iret (pc := 112) d_X5_orders_112 rfl ⟨hS, _, rfl, by omega, by omega, fun _ => k7_6_6⟩
      · refine Tr.aload_n (pc := 14) (i := 0) d_X5_orders_14 rfl rfl ?_
        refine Tr.callV (pc := 15) (as := []) d_X5_orders_15 s_5_154 ok_X5_isOrder rfl rfl (Nat.le_of_ble_eq_true rfl) (Nat.le_of_ble_eq_true rfl) (by decide) (ty_6 hS.1.1) ?_
        refine Tr.imp (Tr.deep (by decide) (sp_X5_isOrder_6 hS.1 ((St.kp hS (by decide) (by decide) (by decide)).trans en_6_2))) ?_
        rintro M15 _ ⟨h15, r15, rfl, lr15, ur15⟩
        have hS := St.tr hS h15 (by decide) (by decide)
        refine Tr.sc [(0, r15)] rfl ?_
        refine Tr.if_eq (pc := 18) (tgt := 111) d_X5_orders_18 rfl (fun c18 => ?_) (fun c18 => ?_)
        · refine Tr.iload_n (pc := 111) (i := 2) d_X5_orders_111 rfl rfl ?_
          exact Tr.iret (pc := 112) d_X5_orders_112 rfl ⟨hS, _, rfl, by omega, by omega, fun _ => ((St.kp h15 (by decide) (by decide) (by decide)).trans k7_6_6)⟩
        · refine Tr.aload_n (pc := 21) (i := 0) d_X5_orders_21 rfl rfl ?_
          refine Tr.getf (pc := 22) d_X5_orders_22 f_5_32 (by decide) (by decide) (ty_6 hS.1.1) ?_
          refine Tr.tp 15 ((St.kp hS (by decide) (by decide) (by decide)).trans en_6_4) ?_
          refine Tr.getf (pc := 25) d_X5_orders_25 f_5_157 (by decide) (by decide) (ty_15 hS.1.1) ?_
          refine Tr.gen (P := fun v => 0 ≤ v ∧ v ≤ 60) (ir_15_0 hS.1.2.1) (fun r25 er25 br25 => ?_)
          refine Tr.bipush (pc := 28) d_X5_orders_28 rfl (by decide) ?_
          refine Tr.icmp_lt (pc := 30) (tgt := 42) d_X5_orders_30 rfl (fun c30 => ?_) (fun c30 => ?_)
          · refine Tr.aload_n (pc := 42) (i := 0) d_X5_orders_42 rfl rfl ?_
            refine Tr.getf (pc := 43) d_X5_orders_43 f_5_32 (by decide) (by decide) (ty_6 hS.1.1) ?_
            refine Tr.tp 15 ((St.kp hS (by decide) (by decide) (by decide)).trans en_6_4) ?_
            refine Tr.aload_n (pc := 46) (i := 0) d_X5_orders_46 rfl rfl ?_
            refine Tr.getf (pc := 47) d_X5_orders_47 f_5_18 (by decide) (by decide) (ty_6 hS.1.1) ?_
            refine Tr.tp 2 ((St.kp hS (by decide) (by decide) (by decide)).trans en_6_2) ?_
            refine Tr.getf (pc := 50) d_X5_orders_50 f_5_68 (by decide) (by decide) (ty_2 hS.1.1) ?_
            refine Tr.tp 5 (fx_2_2 hS.1.1) ?_
            refine Tr.aload_n (pc := 53) (i := 0) d_X5_orders_53 rfl rfl ?_
            refine Tr.getf (pc := 54) d_X5_orders_54 f_5_36 (by decide) (by decide) (ty_6 hS.1.1) ?_
            refine Tr.gen (P := fun v => 0 ≤ v ∧ v ≤ 900) (ir_6_5 hS.1.2.1) (fun r54 er54 br54 => ?_)
            refine Tr.iald (pc := 57) d_X5_orders_57 (ty_5 hS.1.1) (by omega) (by omega) ?_
            refine Tr.gen (P := fun v => (-2147483648) ≤ v ∧ v ≤ 2147483647) (ar_5 hS.1.2.1 _) (fun r57 er57 br57 => ?_)
            refine Tr.iload_n (pc := 58) (i := 1) d_X5_orders_58 rfl rfl ?_
            refine Tr.callV (pc := 59) (as := [_, _]) d_X5_orders_59 s_5_160 ok_X4_open rfl rfl (Nat.le_of_ble_eq_true rfl) (Nat.le_of_ble_eq_true rfl) (by decide) (ty_15 hS.1.1) ?_
            refine Tr.imp (Tr.deep (by decide) (sp_X4_open_15_w1 hS.1 r57 (by omega) a1 (by omega) (by have h9 := er25; omega))) ?_
            rintro M59 _ ⟨h59, r59, rfl, lr59, ur59⟩
            have hS := St.tr hS h59 (by decide) (by decide)
            refine Tr.sc [(0, r59)] rfl ?_
            refine Tr.istore (pc := 62) (i := 5) (ls2 := [(5, (0, r59)), (0, (2, 6)), (1, (0, a1)), (2, (0, p7_2)), (3, (0, p7_3)), (4, (0, p7_4))]) d_X5_orders_62 (by decide) rfl ?_
            refine Tr.iload_n (pc := 64) (i := 3) d_X5_orders_64 rfl rfl ?_
            have J85 : ∀ (M : Mem) (p85_2 : Int), St Tru ws_X5_orders_6_w16 as_X5_orders_6_w16 M0 M → ((-1) ≤ p85_2 ∧ p85_2 ≤ 59) → rd M 5 r54 = r57 → rd M 6 5 = r54 → rd M 6 6 = 7 → Tr l K 15 mX5_orders 85 [(0, (2, 6)), (1, (0, a1)), (2, (0, p85_2)), (4, (0, p7_4)), (5, (0, r59))] [] M (q_X5_orders_6_w16 M0) := by
              intro M p85_2 hS bp85_2 k85_5_r5410 k85_6_5 k85_6_6
              refine Tr.iload (pc := 85) (i := 5) d_X5_orders_85 rfl ?_
              refine Tr.istore_n (pc := 87) (i := 3) (ls2 := [(3, (0, r59)), (0, (2, 6)), (1, (0, a1)), (2, (0, p85_2)), (4, (0, p7_4)), (5, (0, r59))]) d_X5_orders_87 rfl (by decide) rfl ?_
              refine Tr.aload_n (pc := 88) (i := 0) d_X5_orders_88 rfl rfl ?_
              refine Tr.callV (pc := 89) (as := []) d_X5_orders_89 s_5_74 ok_X5_goOn rfl rfl (Nat.le_of_ble_eq_true rfl) (Nat.le_of_ble_eq_true rfl) (by decide) (ty_6 hS.1.1) ?_
              refine Tr.imp (Tr.deep (by decide) (sp_X5_goOn_6 hS.1 )) ?_
              rintro M89 _ ⟨h89, r89, rfl, lr89, ur89⟩
              have hS := St.tr hS h89 (by decide) (by decide)
              refine Tr.sc [(0, r89)] rfl ?_
              refine Tr.pop (pc := 92) d_X5_orders_92 ne01 ?_
              refine Tr.aload_n (pc := 93) (i := 0) d_X5_orders_93 rfl rfl ?_
              refine Tr.iload (pc := 94) (i := 5) d_X5_orders_94 rfl ?_
              refine Tr.callV (pc := 96) (as := [_]) d_X5_orders_96 s_5_166 ok_X5_order rfl rfl (Nat.le_of_ble_eq_true rfl) (Nat.le_of_ble_eq_true rfl) (by decide) (ty_6 hS.1.1) ?_
              refine Tr.imp (Tr.deep (by decide) (sp_X5_order_6_w16 hS.1 hE ((St.kp hS (by decide) (by decide) (by decide)).trans en_6_2) ((St.kp hS (by decide) (by decide) (by decide)).trans en_6_3) ((St.kp hS (by decide) (by decide) (by decide)).trans en_6_4) ((St.kp h89 (by decide) (by decide) (by decide)).trans k85_6_6) r59 (by omega))) ?_
              rintro M96 _ ⟨h96, r96, rfl, lr96, ur96, x96_6_6⟩
              have hS := St.tr hS h96 (by decide) (by decide)
              refine Tr.sc [(0, r96)] rfl ?_
              refine Tr.if_ne (pc := 99) (tgt := 105) d_X5_orders_99 rfl (fun c99 => ?_) (fun c99 => ?_)
              · refine Tr.iincV (pc := 105) (n2 := (p7_4 + 1)) (ls2 := [(4, (0, (p7_4 + 1))), (3, (0, r59)), (0, (2, 6)), (1, (0, a1)), (2, (0, p85_2)), (5, (0, r59))]) d_X5_orders_105 rfl (by decide) ((w32_id (by omega)).trans (by omega)) rfl ?_
                refine Tr.goto (pc := 108) (tgt := 7) d_X5_orders_108 rfl ?_
                refine Tr.pick [2, 3, 4, 1, 0] (ls2 := [(0, (2, 6)), (1, (0, a1)), (2, (0, p85_2)), (3, (0, r59)), (4, (0, (p7_4 + 1)))]) rfl ?_
                exact J7 _ _ _ _ hS (by omega) (by omega) (by omega) (x96_6_6 (by omega)) (by omega)
              · refine Tr.bipush (pc := 102) d_X5_orders_102 rfl (by decide) ?_
                exact Tr.iret (pc := 104) d_X5_orders_104 rfl ⟨hS, _, rfl, by omega, by omega, fun hq => absurd hq (by omega)⟩
            refine Tr.if_ge (pc := 65) (tgt := 74) d_X5_orders_65 rfl (fun c65 => ?_) (fun c65 => ?_)
            · refine Tr.aload_n (pc := 74) (i := 0) d_X5_orders_74 rfl rfl ?_
              refine Tr.getf (pc := 75) d_X5_orders_75 f_5_32 (by decide) (by decide) (ty_6 hS.1.1) ?_
              refine Tr.tp 15 ((St.kp hS (by decide) (by decide) (by decide)).trans en_6_4) ?_
              refine Tr.getf (pc := 78) d_X5_orders_78 f_5_163 (by decide) (by decide) (ty_15 hS.1.1) ?_
              refine Tr.tp 21 (fx_15_6 hS.1.1) ?_
              refine Tr.iload_n (pc := 81) (i := 3) d_X5_orders_81 rfl rfl ?_
              refine Tr.iload (pc := 82) (i := 5) d_X5_orders_82 rfl ?_
              refine Tr.iastS (pc := 84) (P := St Tru ws_X5_orders_6_w16 as_X5_orders_6_w16 M0) d_X5_orders_84 (ty_21 hS.1.1) (by omega) (by omega) (sa_21 hS (by decide) (by omega) trivial) (fun M84 hS w84 => ?_)
              refine Tr.pick [1, 2, 3, 5, 0] (ls2 := [(0, (2, 6)), (1, (0, a1)), (2, (0, p7_2)), (4, (0, p7_4)), (5, (0, r59))]) rfl ?_
              exact J85 _ _ hS (by omega) ((Wr.b w84 rfl).trans ((St.ka h59 (by decide) (by decide) (by decide)).trans er57)) ((Wr.b w84 rfl).trans ((St.kp h59 (by decide) (by decide) (by decide)).trans er54)) ((Wr.b w84 rfl).trans ((St.kp h59 (by decide) (by decide) (by decide)).trans ((St.kp h15 (by decide) (by decide) (by decide)).trans k7_6_6)))
            · refine Tr.iload (pc := 68) (i := 5) d_X5_orders_68 rfl ?_
              refine Tr.istore_n (pc := 70) (i := 2) (ls2 := [(2, (0, r59)), (5, (0, r59)), (0, (2, 6)), (1, (0, a1)), (3, (0, p7_3)), (4, (0, p7_4))]) d_X5_orders_70 rfl (by decide) rfl ?_
              refine Tr.goto (pc := 71) (tgt := 85) d_X5_orders_71 rfl ?_
              refine Tr.pick [2, 3, 0, 5, 1] (ls2 := [(0, (2, 6)), (1, (0, a1)), (2, (0, r59)), (4, (0, p7_4)), (5, (0, r59))]) rfl ?_
              exact J85 _ _ hS (by omega) ((St.ka h59 (by decide) (by decide) (by decide)).trans er57) ((St.kp h59 (by decide) (by decide) (by decide)).trans er54) ((St.kp h59 (by decide) (by decide) (by decide)).trans ((St.kp h15 (by decide) (by decide) (by decide)).trans k7_6_6))
          · refine Tr.aload_n (pc := 33) (i := 0) d_X5_orders_33 rfl rfl ?_
            refine Tr.iconst (pc := 34) d_X5_orders_34 (by decide) ?_
            refine Tr.callV (pc := 35) (as := [_]) d_X5_orders_35 s_5_56 ok_X5_refuse rfl rfl (Nat.le_of_ble_eq_true rfl) (Nat.le_of_ble_eq_true rfl) (by decide) (ty_6 hS.1.1) ?_
            refine Tr.imp (Tr.deep (by decide) (sp_X5_refuse_6_w2 hS.1 ((St.kp hS (by decide) (by decide) (by decide)).trans en_6_2) 5 (by omega))) ?_
            rintro M35 _ ⟨h35, r35, rfl, lr35, ur35⟩
            have hS := St.tr hS h35 (by decide) (by decide)
            refine Tr.sc [(0, r35)] rfl ?_
            refine Tr.pop (pc := 38) d_X5_orders_38 ne01 ?_
            refine Tr.bipush (pc := 39) d_X5_orders_39 rfl (by decide) ?_
            exact Tr.iret (pc := 41) d_X5_orders_41 rfl ⟨hS, _, rfl, by omega, by omega, fun hq => absurd hq (by omega)⟩
  refine Tr.pick [3, 4, 2, 1, 0] (ls2 := [(0, (2, 6)), (1, (0, a1)), (2, (0, (-1))), (3, (0, (-1))), (4, (0, 0))]) rfl ?_
  exact J7 _ _ _ _ _ hS (by omega) (by omega) (by omega) en_6_6 (Nat.lt_succ_self _)

def ws_X5_block_6_w15 : List (Int × Int) := [(6, 0), (6, 1), (6, 5), (6, 6), (15, 0), (15, 11)]
def as_X5_block_6_w15 : List Int := [16, 17, 18, 19, 20, 21, 22, 24, 25]
def q_X5_block_6_w15 (M0 M' : Mem) (r : Option PV) : Prop := St Tru ws_X5_block_6_w15 as_X5_block_6_w15 M0 M' ∧ ∃ v : Int, r = some (0, v) ∧ (-2) ≤ v ∧ v ≤ 59 ∧ (((-1) ≤ v ∧ v ≤ 1000000) → rd M' 6 6 = 6)
set_option maxRecDepth 100000 in
set_option maxHeartbeats 4000000 in
theorem sp_X5_block_6_w15 {l : Launch} {K : EC} {M0 : Mem} {xq : Int} (hI : In Tru M0) (hE : e_all K xq) (en_6_2 : rd M0 6 2 = 2) (en_6_3 : rd M0 6 3 = 7) (en_6_4 : rd M0 6 4 = 15) (en_6_6 : rd M0 6 6 = 6) (a1 : Int) (ha1 : 0 ≤ a1 ∧ a1 ≤ 59)  : Tr l K 16 mX5_block 0 [(0, (2, 6)), (1, (0, a1))] [] M0 (q_X5_block_6_w15 M0) := by
  have hS : St Tru ws_X5_block_6_w15 as_X5_block_6_w15 M0 M0 := St.rf hI
  refine Tr.aload_n (pc := 0) (i := 0) d_X5_block_0 rfl rfl ?_
  refine Tr.bipush (pc := 1) d_X5_block_1 rfl (by decide) ?_
  refine Tr.callV (pc := 3) (as := [_]) d_X5_block_3 s_5_206 ok_X5_takeOpening rfl rfl (Nat.le_of_ble_eq_true rfl) (Nat.le_of_ble_eq_true rfl) (by decide) (ty_6 hS.1.1) ?_
  refine Tr.imp (Tr.deep (by decide) (sp_X5_takeOpening_6_w24 hS.1 ((St.kp hS (by decide) (by decide) (by decide)).trans en_6_2) en_6_6 123 (by omega))) ?_
  rintro M3 _ ⟨h3, r3, rfl, lr3, ur3, x3_6_6⟩
  have hS := St.tr hS h3 (by decide) (by decide)
  refine Tr.sc [(0, r3)] rfl ?_
  refine Tr.if_ne (pc := 6) (tgt := 12) d_X5_block_6 rfl (fun c6 => ?_) (fun c6 => ?_)
  · refine Tr.aload_n (pc := 12) (i := 0) d_X5_block_12 rfl rfl ?_
    refine Tr.iload_n (pc := 13) (i := 1) d_X5_block_13 rfl rfl ?_
    refine Tr.callV (pc := 14) (as := [_]) d_X5_block_14 s_5_46 ok_X5_orders rfl rfl (Nat.le_of_ble_eq_true rfl) (Nat.le_of_ble_eq_true rfl) (by decide) (ty_6 hS.1.1) ?_
    refine Tr.imp (Tr.deep (by decide) (sp_X5_orders_6_w16 hS.1 hE ((St.kp hS (by decide) (by decide) (by decide)).trans en_6_2) ((St.kp hS (by decide) (by decide) (by decide)).trans en_6_3) ((St.kp hS (by decide) (by decide) (by decide)).trans en_6_4) (x3_6_6 (by omega)) a1 (by omega))) ?_
    rintro M14 _ ⟨h14, r14, rfl, lr14, ur14, x14_6_6⟩
    have hS := St.tr hS h14 (by decide) (by decide)
    refine Tr.sc [(0, r14)] rfl ?_
    refine Tr.istore_n (pc := 17) (i := 2) (ls2 := [(2, (0, r14)), (0, (2, 6)), (1, (0, a1))]) d_X5_block_17 rfl (by decide) rfl ?_
    refine Tr.iload_n (pc := 18) (i := 2) d_X5_block_18 rfl rfl ?_
    refine Tr.bipush (pc := 19) d_X5_block_19 rfl (by decide) ?_
    refine Tr.icmp_eq (pc := 21) (tgt := 33) d_X5_block_21 rfl (fun c21 => ?_) (fun c21 => ?_)
    · refine Tr.bipush (pc := 33) d_X5_block_33 rfl (by decide) ?_
      exact Tr.iret (pc := 35) d_X5_block_35 rfl ⟨hS, _, rfl, by omega, by omega, fun hq => absurd hq (by omega)⟩
    · refine Tr.aload_n (pc := 24) (i := 0) d_X5_block_24 rfl rfl ?_
      refine Tr.bipush (pc := 25) d_X5_block_25 rfl (by decide) ?_
      refine Tr.callV (pc := 27) (as := [_]) d_X5_block_27 s_5_209 ok_X5_takeClosing rfl rfl (Nat.le_of_ble_eq_true rfl) (Nat.le_of_ble_eq_true rfl) (by decide) (ty_6 hS.1.1) ?_
      refine Tr.imp (Tr.deep (by decide) (sp_X5_takeClosing_6_w17 hS.1 ((St.kp hS (by decide) (by decide) (by decide)).trans en_6_2) (x14_6_6 (by omega)) 125 (by omega))) ?_
      rintro M27 _ ⟨h27, r27, rfl, lr27, ur27, x27_6_6⟩
      have hS := St.tr hS h27 (by decide) (by decide)
      refine Tr.sc [(0, r27)] rfl ?_
      refine Tr.if_ne (pc := 30) (tgt := 36) d_X5_block_30 rfl (fun c30 => ?_) (fun c30 => ?_)
      · refine Tr.iload_n (pc := 36) (i := 2) d_X5_block_36 rfl rfl ?_
        exact Tr.iret (pc := 37) d_X5_block_37 rfl ⟨hS, _, rfl, by omega, by omega, fun _ => (x27_6_6 (by omega))⟩
      · refine Tr.bipush (pc := 33) d_X5_block_33 rfl (by decide) ?_
        exact Tr.iret (pc := 35) d_X5_block_35 rfl ⟨hS, _, rfl, by omega, by omega, fun hq => absurd hq (by omega)⟩
  · refine Tr.bipush (pc := 9) d_X5_block_9 rfl (by decide) ?_
    exact Tr.iret (pc := 11) d_X5_block_11 rfl ⟨hS, _, rfl, by omega, by omega, fun hq => absurd hq (by omega)⟩

def ws_X5_yesBlock_6_w15 : List (Int × Int) := [(6, 0), (6, 1), (6, 5), (6, 6), (15, 0), (15, 11)]
def as_X5_yesBlock_6_w15 : List Int := [16, 17, 18, 19, 20, 21, 22, 24, 25]
def q_X5_yesBlock_6_w15 (M0 M' : Mem) (r : Option PV) : Prop := St Tru ws_X5_yesBlock_6_w15 as_X5_yesBlock_6_w15 M0 M' ∧ ∃ v : Int, r = some (0, v) ∧ 0 ≤ v ∧ v ≤ 1 ∧ ((1 ≤ v ∧ v ≤ 1) → rd M' 6 6 = 6)
set_option maxRecDepth 100000 in
set_option maxHeartbeats 4000000 in
theorem sp_X5_yesBlock_6_w15 {l : Launch} {K : EC} {M0 : Mem} {xq : Int} (hI : In Tru M0) (hE : e_all K xq) (en_6_2 : rd M0 6 2 = 2) (en_6_3 : rd M0 6 3 = 7) (en_6_4 : rd M0 6 4 = 15) (en_6_6 : rd M0 6 6 = 6) (a1 : Int) (ha1 : 0 ≤ a1 ∧ a1 ≤ 59)  : Tr l K 17 mX5_yesBlock 0 [(0, (2, 6)), (1, (0, a1))] [] M0 (q_X5_yesBlock_6_w15 M0) := by
  have hS : St Tru ws_X5_yesBlock_6_w15 as_X5_yesBlock_6_w15 M0 M0 := St.rf hI
  refine Tr.aload_n (pc := 0) (i := 0) d_X5_yesBlock_0 rfl rfl ?_
  refine Tr.iload_n (pc := 1) (i := 1) d_X5_yesBlock_1 rfl rfl ?_
  refine Tr.callV (pc := 2) (as := [_]) d_X5_yesBlock_2 s_5_197 ok_X5_block rfl rfl (Nat.le_of_ble_eq_true rfl) (Nat.le_of_ble_eq_true rfl) (by decide) (ty_6 hS.1.1) ?_
  refine Tr.imp (Tr.deep (by decide) (sp_X5_block_6_w15 hS.1 hE ((St.kp hS (by decide) (by decide) (by decide)).trans en_6_2) ((St.kp hS (by decide) (by decide) (by decide)).trans en_6_3) ((St.kp hS (by decide) (by decide) (by decide)).trans en_6_4) en_6_6 a1 (by omega))) ?_
  rintro M2 _ ⟨h2, r2, rfl, lr2, ur2, x2_6_6⟩
  have hS := St.tr hS h2 (by decide) (by decide)
  refine Tr.sc [(0, r2)] rfl ?_
  refine Tr.istore_n (pc := 5) (i := 2) (ls2 := [(2, (0, r2)), (0, (2, 6)), (1, (0, a1))]) d_X5_yesBlock_5 rfl (by decide) rfl ?_
  refine Tr.aload_n (pc := 6) (i := 0) d_X5_yesBlock_6 rfl rfl ?_
  refine Tr.getf (pc := 7) d_X5_yesBlock_7 f_5_32 (by decide) (by decide) (ty_6 hS.1.1) ?_
  refine Tr.tp 15 ((St.kp hS (by decide) (by decide) (by decide)).trans en_6_4) ?_
  refine Tr.getf (pc := 10) d_X5_yesBlock_10 f_5_200 (by decide) (by decide) (ty_15 hS.1.1) ?_
  refine Tr.tp 19 (fx_15_4 hS.1.1) ?_
  refine Tr.iload_n (pc := 13) (i := 1) d_X5_yesBlock_13 rfl rfl ?_
  refine Tr.iload_n (pc := 14) (i := 2) d_X5_yesBlock_14 rfl rfl ?_
  refine Tr.iastS (pc := 15) (P := St Tru ws_X5_yesBlock_6_w15 as_X5_yesBlock_6_w15 M0) d_X5_yesBlock_15 (ty_19 hS.1.1) (by omega) (by omega) (sa_19 hS (by decide) (by omega) trivial) (fun M15 hS w15 => ?_)
  refine Tr.iload_n (pc := 16) (i := 2) d_X5_yesBlock_16 rfl rfl ?_
  refine Tr.bipush (pc := 17) d_X5_yesBlock_17 rfl (by decide) ?_
  refine Tr.icmp_eq (pc := 19) (tgt := 26) d_X5_yesBlock_19 rfl (fun c19 => ?_) (fun c19 => ?_)
  · refine Tr.iconst (pc := 26) d_X5_yesBlock_26 (by decide) ?_
    exact Tr.zret (pc := 27) d_X5_yesBlock_27 rfl (by omega) ⟨hS, _, rfl, by omega, by omega, fun hq => absurd hq (by omega)⟩
  · refine Tr.iconst (pc := 22) d_X5_yesBlock_22 (by decide) ?_
    refine Tr.goto (pc := 23) (tgt := 27) d_X5_yesBlock_23 rfl ?_
    exact Tr.zret (pc := 27) d_X5_yesBlock_27 rfl (by omega) ⟨hS, _, rfl, by omega, by omega, fun _ => ((Wr.b w15 rfl).trans (x2_6_6 (by omega)))⟩

def ws_X5_noBlock_6_w9 : List (Int × Int) := [(6, 0), (6, 1), (6, 5), (6, 6), (15, 0), (15, 11)]
def as_X5_noBlock_6_w9 : List Int := [16, 17, 18, 19, 20, 21, 22, 24, 25]
def q_X5_noBlock_6_w9 (M0 M' : Mem) (r : Option PV) : Prop := St Tru ws_X5_noBlock_6_w9 as_X5_noBlock_6_w9 M0 M' ∧ ∃ v : Int, r = some (0, v) ∧ 0 ≤ v ∧ v ≤ 1 ∧ ((1 ≤ v ∧ v ≤ 1) → rd M' 6 6 = 6)
set_option maxRecDepth 100000 in
set_option maxHeartbeats 4000000 in
theorem sp_X5_noBlock_6_w9 {l : Launch} {K : EC} {M0 : Mem} {xq : Int} (hI : In Tru M0) (hE : e_all K xq) (en_6_2 : rd M0 6 2 = 2) (en_6_3 : rd M0 6 3 = 7) (en_6_4 : rd M0 6 4 = 15) (en_6_6 : rd M0 6 6 = 6) (a1 : Int) (ha1 : 0 ≤ a1 ∧ a1 ≤ 59)  : Tr l K 17 mX5_noBlock 0 [(0, (2, 6)), (1, (0, a1))] [] M0 (q_X5_noBlock_6_w9 M0) := by
  have hS : St Tru ws_X5_noBlock_6_w9 as_X5_noBlock_6_w9 M0 M0 := St.rf hI
  refine Tr.aload_n (pc := 0) (i := 0) d_X5_noBlock_0 rfl rfl ?_
  refine Tr.bipush (pc := 1) d_X5_noBlock_1 rfl (by decide) ?_
  refine Tr.callV (pc := 3) (as := [_]) d_X5_noBlock_3 s_5_71 ok_X5_isOwn rfl rfl (Nat.le_of_ble_eq_true rfl) (Nat.le_of_ble_eq_true rfl) (by decide) (ty_6 hS.1.1) ?_
  refine Tr.imp (Tr.deep (by decide) (sp_X5_isOwn_6 hS.1 ((St.kp hS (by decide) (by decide) (by decide)).trans en_6_2) 13 (by omega))) ?_
  rintro M3 _ ⟨h3, r3, rfl, lr3, ur3⟩
  have hS := St.tr hS h3 (by decide) (by decide)
  refine Tr.sc [(0, r3)] rfl ?_
  refine Tr.if_ne (pc := 6) (tgt := 11) d_X5_noBlock_6 rfl (fun c6 => ?_) (fun c6 => ?_)
  · refine Tr.aload_n (pc := 11) (i := 0) d_X5_noBlock_11 rfl rfl ?_
    refine Tr.callV (pc := 12) (as := []) d_X5_noBlock_12 s_5_74 ok_X5_goOn rfl rfl (Nat.le_of_ble_eq_true rfl) (Nat.le_of_ble_eq_true rfl) (by decide) (ty_6 hS.1.1) ?_
    refine Tr.imp (Tr.deep (by decide) (sp_X5_goOn_6 hS.1 )) ?_
    rintro M12 _ ⟨h12, r12, rfl, lr12, ur12⟩
    have hS := St.tr hS h12 (by decide) (by decide)
    refine Tr.sc [(0, r12)] rfl ?_
    refine Tr.pop (pc := 15) d_X5_noBlock_15 ne01 ?_
    refine Tr.aload_n (pc := 16) (i := 0) d_X5_noBlock_16 rfl rfl ?_
    refine Tr.iload_n (pc := 17) (i := 1) d_X5_noBlock_17 rfl rfl ?_
    refine Tr.callV (pc := 18) (as := [_]) d_X5_noBlock_18 s_5_197 ok_X5_block rfl rfl (Nat.le_of_ble_eq_true rfl) (Nat.le_of_ble_eq_true rfl) (by decide) (ty_6 hS.1.1) ?_
    refine Tr.imp (Tr.deep (by decide) (sp_X5_block_6_w15 hS.1 hE ((St.kp hS (by decide) (by decide) (by decide)).trans en_6_2) ((St.kp hS (by decide) (by decide) (by decide)).trans en_6_3) ((St.kp hS (by decide) (by decide) (by decide)).trans en_6_4) ((St.kp h12 (by decide) (by decide) (by decide)).trans ((St.kp h3 (by decide) (by decide) (by decide)).trans en_6_6)) a1 (by omega))) ?_
    rintro M18 _ ⟨h18, r18, rfl, lr18, ur18, x18_6_6⟩
    have hS := St.tr hS h18 (by decide) (by decide)
    refine Tr.sc [(0, r18)] rfl ?_
    refine Tr.istore_n (pc := 21) (i := 2) (ls2 := [(2, (0, r18)), (0, (2, 6)), (1, (0, a1))]) d_X5_noBlock_21 rfl (by decide) rfl ?_
    refine Tr.aload_n (pc := 22) (i := 0) d_X5_noBlock_22 rfl rfl ?_
    refine Tr.getf (pc := 23) d_X5_noBlock_23 f_5_32 (by decide) (by decide) (ty_6 hS.1.1) ?_
    refine Tr.tp 15 ((St.kp hS (by decide) (by decide) (by decide)).trans en_6_4) ?_
    refine Tr.getf (pc := 26) d_X5_noBlock_26 f_5_203 (by decide) (by decide) (ty_15 hS.1.1) ?_
    refine Tr.tp 20 (fx_15_5 hS.1.1) ?_
    refine Tr.iload_n (pc := 29) (i := 1) d_X5_noBlock_29 rfl rfl ?_
    refine Tr.iload_n (pc := 30) (i := 2) d_X5_noBlock_30 rfl rfl ?_
    refine Tr.iastS (pc := 31) (P := St Tru ws_X5_noBlock_6_w9 as_X5_noBlock_6_w9 M0) d_X5_noBlock_31 (ty_20 hS.1.1) (by omega) (by omega) (sa_20 hS (by decide) (by omega) trivial) (fun M31 hS w31 => ?_)
    refine Tr.iload_n (pc := 32) (i := 2) d_X5_noBlock_32 rfl rfl ?_
    refine Tr.bipush (pc := 33) d_X5_noBlock_33 rfl (by decide) ?_
    refine Tr.icmp_eq (pc := 35) (tgt := 42) d_X5_noBlock_35 rfl (fun c35 => ?_) (fun c35 => ?_)
    · refine Tr.iconst (pc := 42) d_X5_noBlock_42 (by decide) ?_
      exact Tr.zret (pc := 43) d_X5_noBlock_43 rfl (by omega) ⟨hS, _, rfl, by omega, by omega, fun hq => absurd hq (by omega)⟩
    · refine Tr.iconst (pc := 38) d_X5_noBlock_38 (by decide) ?_
      refine Tr.goto (pc := 39) (tgt := 43) d_X5_noBlock_39 rfl ?_
      exact Tr.zret (pc := 43) d_X5_noBlock_43 rfl (by omega) ⟨hS, _, rfl, by omega, by omega, fun _ => ((Wr.b w31 rfl).trans (x18_6_6 (by omega)))⟩
  · refine Tr.iconst (pc := 9) d_X5_noBlock_9 (by decide) ?_
    exact Tr.zret (pc := 10) d_X5_noBlock_10 rfl (by omega) ⟨hS, _, rfl, by omega, by omega, fun _ => ((St.kp h3 (by decide) (by decide) (by decide)).trans en_6_6)⟩

def ws_X5_order_6_w15 : List (Int × Int) := [(6, 0), (6, 1), (6, 5), (6, 6), (15, 0), (15, 11)]
def as_X5_order_6_w15 : List Int := [16, 17, 18, 19, 20, 21, 22, 24, 25]
def q_X5_order_6_w15 (M0 M' : Mem) (r : Option PV) : Prop := St Tru ws_X5_order_6_w15 as_X5_order_6_w15 M0 M' ∧ ∃ v : Int, r = some (0, v) ∧ 0 ≤ v ∧ v ≤ 1 ∧ ((1 ≤ v ∧ v ≤ 1) → rd M' 6 6 = 6)
set_option maxRecDepth 100000 in
set_option maxHeartbeats 4000000 in
theorem sp_X5_order_6_w15 {l : Launch} {K : EC} {M0 : Mem} {xq : Int} (hI : In Tru M0) (hE : e_all K xq) (en_6_2 : rd M0 6 2 = 2) (en_6_3 : rd M0 6 3 = 7) (en_6_4 : rd M0 6 4 = 15) (en_6_6 : rd M0 6 6 = 6) (a1 : Int) (ha1 : 0 ≤ a1 ∧ a1 ≤ 59)  : Tr l K 18 mX5_order 0 [(0, (2, 6)), (1, (0, a1))] [] M0 (q_X5_order_6_w15 M0) := by
  have hS : St Tru ws_X5_order_6_w15 as_X5_order_6_w15 M0 M0 := St.rf hI
  refine Tr.aload_n (pc := 0) (i := 0) d_X5_order_0 rfl rfl ?_
  refine Tr.getf (pc := 1) d_X5_order_1 f_5_32 (by decide) (by decide) (ty_6 hS.1.1) ?_
  refine Tr.tp 15 ((St.kp hS (by decide) (by decide) (by decide)).trans en_6_4) ?_
  refine Tr.getf (pc := 4) d_X5_order_4 f_5_169 (by decide) (by decide) (ty_15 hS.1.1) ?_
  refine Tr.tp 16 (fx_15_1 hS.1.1) ?_
  refine Tr.iload_n (pc := 7) (i := 1) d_X5_order_7 rfl rfl ?_
  refine Tr.iald (pc := 8) d_X5_order_8 (ty_16 hS.1.1) (by omega) (by omega) ?_
  refine Tr.gen (P := fun v => (-2147483648) ≤ v ∧ v ≤ 2147483647) (ar_16 hS.1.2.1 _) (fun r8 er8 br8 => ?_)
  rcases (show (r8 < 5 ∨ 11 < r8) ∨ r8 = 5 ∨ r8 = 6 ∨ r8 = 7 ∨ r8 = 8 ∨ r8 = 9 ∨ r8 = 10 ∨ r8 = 11 by omega) with c9 | c9 | c9 | c9 | c9 | c9 | c9 | c9
  · refine Tr.tswOut (pc := 9) (tgt := 198) d_X5_order_9 c9 rfl ?_
    refine Tr.aload_n (pc := 198) (i := 0) d_X5_order_198 rfl rfl ?_
    refine Tr.callV (pc := 199) (as := []) d_X5_order_199 s_5_177 ok_X5_test rfl rfl (Nat.le_of_ble_eq_true rfl) (Nat.le_of_ble_eq_true rfl) (by decide) (ty_6 hS.1.1) ?_
    refine Tr.imp (Tr.deep (by decide) (sp_X5_test_6_w15 hS.1 hE ((St.kp hS (by decide) (by decide) (by decide)).trans en_6_2) ((St.kp hS (by decide) (by decide) (by decide)).trans en_6_3) ((St.kp hS (by decide) (by decide) (by decide)).trans en_6_4) en_6_6)) ?_
    rintro M199 _ ⟨h199, r199, rfl, lr199, ur199, x199_6_6⟩
    have hS := St.tr hS h199 (by decide) (by decide)
    refine Tr.sc [(0, r199)] rfl ?_
    refine Tr.if_eq (pc := 202) (tgt := 217) d_X5_order_202 rfl (fun c202 => ?_) (fun c202 => ?_)
    · refine Tr.iconst (pc := 217) d_X5_order_217 (by decide) ?_
      exact Tr.zret (pc := 218) d_X5_order_218 rfl (by omega) ⟨hS, _, rfl, by omega, by omega, fun hq => absurd hq (by omega)⟩
    · refine Tr.aload_n (pc := 205) (i := 0) d_X5_order_205 rfl rfl ?_
      refine Tr.iload_n (pc := 206) (i := 1) d_X5_order_206 rfl rfl ?_
      refine Tr.callV (pc := 207) (as := [_]) d_X5_order_207 s_5_180 ok_X5_yesBlock rfl rfl (Nat.le_of_ble_eq_true rfl) (Nat.le_of_ble_eq_true rfl) (by decide) (ty_6 hS.1.1) ?_
      refine Tr.imp (Tr.deep (by decide) (sp_X5_yesBlock_6_w15 hS.1 hE ((St.kp hS (by decide) (by decide) (by decide)).trans en_6_2) ((St.kp hS (by decide) (by decide) (by decide)).trans en_6_3) ((St.kp hS (by decide) (by decide) (by decide)).trans en_6_4) (x199_6_6 (by omega)) a1 (by omega))) ?_
      rintro M207 _ ⟨h207, r207, rfl, lr207, ur207, x207_6_6⟩
      have hS := St.tr hS h207 (by decide) (by decide)
      refine Tr.sc [(0, r207)] rfl ?_
      refine Tr.if_eq (pc := 210) (tgt := 217) d_X5_order_210 rfl (fun c210 => ?_) (fun c210 => ?_)
      · refine Tr.iconst (pc := 217) d_X5_order_217 (by decide) ?_
        exact Tr.zret (pc := 218) d_X5_order_218 rfl (by omega) ⟨hS, _, rfl, by omega, by omega, fun hq => absurd hq (by omega)⟩
      · refine Tr.iconst (pc := 213) d_X5_order_213 (by decide) ?_
        refine Tr.goto (pc := 214) (tgt := 218) d_X5_order_214 rfl ?_
        exact Tr.zret (pc := 218) d_X5_order_218 rfl (by omega) ⟨hS, _, rfl, by omega, by omega, fun _ => (x207_6_6 (by omega))⟩
  · refine Tr.tp 5 c9 ?_
    refine Tr.tswIn (pc := 9) (off := 43) (tgt := 52) d_X5_order_9 (by decide) (by decide) rfl rfl ?_
    refine Tr.aload_n (pc := 52) (i := 0) d_X5_order_52 rfl rfl ?_
    refine Tr.iload_n (pc := 53) (i := 1) d_X5_order_53 rfl rfl ?_
    refine Tr.iconst (pc := 54) d_X5_order_54 (by decide) ?_
    refine Tr.callV (pc := 55) (as := [_, _]) d_X5_order_55 s_5_170 ok_X5_about rfl rfl (Nat.le_of_ble_eq_true rfl) (Nat.le_of_ble_eq_true rfl) (by decide) (ty_6 hS.1.1) ?_
    refine Tr.imp (Tr.deep (by decide) (sp_X5_about_6_v2_w1 hS.1 hE ((St.kp hS (by decide) (by decide) (by decide)).trans en_6_2) ((St.kp hS (by decide) (by decide) (by decide)).trans en_6_3) ((St.kp hS (by decide) (by decide) (by decide)).trans en_6_4) a1 (by omega))) ?_
    rintro M55 _ ⟨h55, r55, rfl, lr55, ur55⟩
    have hS := St.tr hS h55 (by decide) (by decide)
    refine Tr.sc [(0, r55)] rfl ?_
    refine Tr.if_eq (pc := 58) (tgt := 90) d_X5_order_58 rfl (fun c58 => ?_) (fun c58 => ?_)
    · refine Tr.iconst (pc := 90) d_X5_order_90 (by decide) ?_
      exact Tr.zret (pc := 91) d_X5_order_91 rfl (by omega) ⟨hS, _, rfl, by omega, by omega, fun hq => absurd hq (by omega)⟩
    · refine Tr.aload_n (pc := 61) (i := 0) d_X5_order_61 rfl rfl ?_
      refine Tr.bipush (pc := 62) d_X5_order_62 rfl (by decide) ?_
      refine Tr.callV (pc := 64) (as := [_]) d_X5_order_64 s_5_81 ok_X5_takeSign rfl rfl (Nat.le_of_ble_eq_true rfl) (Nat.le_of_ble_eq_true rfl) (by decide) (ty_6 hS.1.1) ?_
      refine Tr.imp (Tr.deep (by decide) (sp_X5_takeSign_6_w3 hS.1 ((St.kp hS (by decide) (by decide) (by decide)).trans en_6_2) 61 (by omega))) ?_
      rintro M64 _ ⟨h64, r64, rfl, lr64, ur64⟩
      have hS := St.tr hS h64 (by decide) (by decide)
      refine Tr.sc [(0, r64)] rfl ?_
      refine Tr.if_eq (pc := 67) (tgt := 90) d_X5_order_67 rfl (fun c67 => ?_) (fun c67 => ?_)
      · refine Tr.iconst (pc := 90) d_X5_order_90 (by decide) ?_
        exact Tr.zret (pc := 91) d_X5_order_91 rfl (by omega) ⟨hS, _, rfl, by omega, by omega, fun hq => absurd hq (by omega)⟩
      · refine Tr.aload_n (pc := 70) (i := 0) d_X5_order_70 rfl rfl ?_
        refine Tr.callV (pc := 71) (as := []) d_X5_order_71 s_5_174 ok_X5_sum rfl rfl (Nat.le_of_ble_eq_true rfl) (Nat.le_of_ble_eq_true rfl) (by decide) (ty_6 hS.1.1) ?_
        refine Tr.imp (Tr.deep (by decide) (sp_X5_sum_6_w15 hS.1 hE ((St.kp hS (by decide) (by decide) (by decide)).trans en_6_2) ((St.kp hS (by decide) (by decide) (by decide)).trans en_6_3) ((St.kp hS (by decide) (by decide) (by decide)).trans en_6_4) ((St.kp h64 (by decide) (by decide) (by decide)).trans ((St.kp h55 (by decide) (by decide) (by decide)).trans en_6_6)))) ?_
        rintro M71 _ ⟨h71, r71, rfl, lr71, ur71, x71_6_6⟩
        have hS := St.tr hS h71 (by decide) (by decide)
        refine Tr.sc [(0, r71)] rfl ?_
        refine Tr.if_eq (pc := 74) (tgt := 90) d_X5_order_74 rfl (fun c74 => ?_) (fun c74 => ?_)
        · refine Tr.iconst (pc := 90) d_X5_order_90 (by decide) ?_
          exact Tr.zret (pc := 91) d_X5_order_91 rfl (by omega) ⟨hS, _, rfl, by omega, by omega, fun hq => absurd hq (by omega)⟩
        · refine Tr.aload_n (pc := 77) (i := 0) d_X5_order_77 rfl rfl ?_
          refine Tr.bipush (pc := 78) d_X5_order_78 rfl (by decide) ?_
          refine Tr.callV (pc := 80) (as := [_]) d_X5_order_80 s_5_81 ok_X5_takeSign rfl rfl (Nat.le_of_ble_eq_true rfl) (Nat.le_of_ble_eq_true rfl) (by decide) (ty_6 hS.1.1) ?_
          refine Tr.imp (Tr.deep (by decide) (sp_X5_takeSign_6 hS.1 ((St.kp hS (by decide) (by decide) (by decide)).trans en_6_2) 59 (by omega))) ?_
          rintro M80 _ ⟨h80, r80, rfl, lr80, ur80⟩
          have hS := St.tr hS h80 (by decide) (by decide)
          refine Tr.sc [(0, r80)] rfl ?_
          refine Tr.if_eq (pc := 83) (tgt := 90) d_X5_order_83 rfl (fun c83 => ?_) (fun c83 => ?_)
          · refine Tr.iconst (pc := 90) d_X5_order_90 (by decide) ?_
            exact Tr.zret (pc := 91) d_X5_order_91 rfl (by omega) ⟨hS, _, rfl, by omega, by omega, fun hq => absurd hq (by omega)⟩
          · refine Tr.iconst (pc := 86) d_X5_order_86 (by decide) ?_
            refine Tr.goto (pc := 87) (tgt := 91) d_X5_order_87 rfl ?_
            exact Tr.zret (pc := 91) d_X5_order_91 rfl (by omega) ⟨hS, _, rfl, by omega, by omega, fun _ => ((St.kp h80 (by decide) (by decide) (by decide)).trans (x71_6_6 (by omega)))⟩
  · refine Tr.tp 6 c9 ?_
    refine Tr.tswIn (pc := 9) (off := 83) (tgt := 92) d_X5_order_9 (by decide) (by decide) rfl rfl ?_
    refine Tr.aload_n (pc := 92) (i := 0) d_X5_order_92 rfl rfl ?_
    refine Tr.iload_n (pc := 93) (i := 1) d_X5_order_93 rfl rfl ?_
    refine Tr.iconst (pc := 94) d_X5_order_94 (by decide) ?_
    refine Tr.callV (pc := 95) (as := [_, _]) d_X5_order_95 s_5_170 ok_X5_about rfl rfl (Nat.le_of_ble_eq_true rfl) (Nat.le_of_ble_eq_true rfl) (by decide) (ty_6 hS.1.1) ?_
    refine Tr.imp (Tr.deep (by decide) (sp_X5_about_6_v0_w1 hS.1 hE ((St.kp hS (by decide) (by decide) (by decide)).trans en_6_2) ((St.kp hS (by decide) (by decide) (by decide)).trans en_6_3) ((St.kp hS (by decide) (by decide) (by decide)).trans en_6_4) a1 (by omega))) ?_
    rintro M95 _ ⟨h95, r95, rfl, lr95, ur95⟩
    have hS := St.tr hS h95 (by decide) (by decide)
    refine Tr.sc [(0, r95)] rfl ?_
    refine Tr.if_eq (pc := 98) (tgt := 121) d_X5_order_98 rfl (fun c98 => ?_) (fun c98 => ?_)
    · refine Tr.iconst (pc := 121) d_X5_order_121 (by decide) ?_
      exact Tr.zret (pc := 122) d_X5_order_122 rfl (by omega) ⟨hS, _, rfl, by omega, by omega, fun hq => absurd hq (by omega)⟩
    · refine Tr.aload_n (pc := 101) (i := 0) d_X5_order_101 rfl rfl ?_
      refine Tr.callV (pc := 102) (as := []) d_X5_order_102 s_5_174 ok_X5_sum rfl rfl (Nat.le_of_ble_eq_true rfl) (Nat.le_of_ble_eq_true rfl) (by decide) (ty_6 hS.1.1) ?_
      refine Tr.imp (Tr.deep (by decide) (sp_X5_sum_6_w15 hS.1 hE ((St.kp hS (by decide) (by decide) (by decide)).trans en_6_2) ((St.kp hS (by decide) (by decide) (by decide)).trans en_6_3) ((St.kp hS (by decide) (by decide) (by decide)).trans en_6_4) ((St.kp h95 (by decide) (by decide) (by decide)).trans en_6_6))) ?_
      rintro M102 _ ⟨h102, r102, rfl, lr102, ur102, x102_6_6⟩
      have hS := St.tr hS h102 (by decide) (by decide)
      refine Tr.sc [(0, r102)] rfl ?_
      refine Tr.if_eq (pc := 105) (tgt := 121) d_X5_order_105 rfl (fun c105 => ?_) (fun c105 => ?_)
      · refine Tr.iconst (pc := 121) d_X5_order_121 (by decide) ?_
        exact Tr.zret (pc := 122) d_X5_order_122 rfl (by omega) ⟨hS, _, rfl, by omega, by omega, fun hq => absurd hq (by omega)⟩
      · refine Tr.aload_n (pc := 108) (i := 0) d_X5_order_108 rfl rfl ?_
        refine Tr.bipush (pc := 109) d_X5_order_109 rfl (by decide) ?_
        refine Tr.callV (pc := 111) (as := [_]) d_X5_order_111 s_5_81 ok_X5_takeSign rfl rfl (Nat.le_of_ble_eq_true rfl) (Nat.le_of_ble_eq_true rfl) (by decide) (ty_6 hS.1.1) ?_
        refine Tr.imp (Tr.deep (by decide) (sp_X5_takeSign_6 hS.1 ((St.kp hS (by decide) (by decide) (by decide)).trans en_6_2) 59 (by omega))) ?_
        rintro M111 _ ⟨h111, r111, rfl, lr111, ur111⟩
        have hS := St.tr hS h111 (by decide) (by decide)
        refine Tr.sc [(0, r111)] rfl ?_
        refine Tr.if_eq (pc := 114) (tgt := 121) d_X5_order_114 rfl (fun c114 => ?_) (fun c114 => ?_)
        · refine Tr.iconst (pc := 121) d_X5_order_121 (by decide) ?_
          exact Tr.zret (pc := 122) d_X5_order_122 rfl (by omega) ⟨hS, _, rfl, by omega, by omega, fun hq => absurd hq (by omega)⟩
        · refine Tr.iconst (pc := 117) d_X5_order_117 (by decide) ?_
          refine Tr.goto (pc := 118) (tgt := 122) d_X5_order_118 rfl ?_
          exact Tr.zret (pc := 122) d_X5_order_122 rfl (by omega) ⟨hS, _, rfl, by omega, by omega, fun _ => ((St.kp h111 (by decide) (by decide) (by decide)).trans (x102_6_6 (by omega)))⟩
  · refine Tr.tp 7 c9 ?_
    refine Tr.tswIn (pc := 9) (off := 114) (tgt := 123) d_X5_order_9 (by decide) (by decide) rfl rfl ?_
    refine Tr.aload_n (pc := 123) (i := 0) d_X5_order_123 rfl rfl ?_
    refine Tr.iload_n (pc := 124) (i := 1) d_X5_order_124 rfl rfl ?_
    refine Tr.iconst (pc := 125) d_X5_order_125 (by decide) ?_
    refine Tr.callV (pc := 126) (as := [_, _]) d_X5_order_126 s_5_170 ok_X5_about rfl rfl (Nat.le_of_ble_eq_true rfl) (Nat.le_of_ble_eq_true rfl) (by decide) (ty_6 hS.1.1) ?_
    refine Tr.imp (Tr.deep (by decide) (sp_X5_about_6_v0_w1 hS.1 hE ((St.kp hS (by decide) (by decide) (by decide)).trans en_6_2) ((St.kp hS (by decide) (by decide) (by decide)).trans en_6_3) ((St.kp hS (by decide) (by decide) (by decide)).trans en_6_4) a1 (by omega))) ?_
    rintro M126 _ ⟨h126, r126, rfl, lr126, ur126⟩
    have hS := St.tr hS h126 (by decide) (by decide)
    refine Tr.sc [(0, r126)] rfl ?_
    refine Tr.if_eq (pc := 129) (tgt := 145) d_X5_order_129 rfl (fun c129 => ?_) (fun c129 => ?_)
    · refine Tr.iconst (pc := 145) d_X5_order_145 (by decide) ?_
      exact Tr.zret (pc := 146) d_X5_order_146 rfl (by omega) ⟨hS, _, rfl, by omega, by omega, fun hq => absurd hq (by omega)⟩
    · refine Tr.aload_n (pc := 132) (i := 0) d_X5_order_132 rfl rfl ?_
      refine Tr.bipush (pc := 133) d_X5_order_133 rfl (by decide) ?_
      refine Tr.callV (pc := 135) (as := [_]) d_X5_order_135 s_5_81 ok_X5_takeSign rfl rfl (Nat.le_of_ble_eq_true rfl) (Nat.le_of_ble_eq_true rfl) (by decide) (ty_6 hS.1.1) ?_
      refine Tr.imp (Tr.deep (by decide) (sp_X5_takeSign_6 hS.1 ((St.kp hS (by decide) (by decide) (by decide)).trans en_6_2) 59 (by omega))) ?_
      rintro M135 _ ⟨h135, r135, rfl, lr135, ur135⟩
      have hS := St.tr hS h135 (by decide) (by decide)
      refine Tr.sc [(0, r135)] rfl ?_
      refine Tr.if_eq (pc := 138) (tgt := 145) d_X5_order_138 rfl (fun c138 => ?_) (fun c138 => ?_)
      · refine Tr.iconst (pc := 145) d_X5_order_145 (by decide) ?_
        exact Tr.zret (pc := 146) d_X5_order_146 rfl (by omega) ⟨hS, _, rfl, by omega, by omega, fun hq => absurd hq (by omega)⟩
      · refine Tr.iconst (pc := 141) d_X5_order_141 (by decide) ?_
        refine Tr.goto (pc := 142) (tgt := 146) d_X5_order_142 rfl ?_
        exact Tr.zret (pc := 146) d_X5_order_146 rfl (by omega) ⟨hS, _, rfl, by omega, by omega, fun _ => ((St.kp h135 (by decide) (by decide) (by decide)).trans ((St.kp h126 (by decide) (by decide) (by decide)).trans en_6_6))⟩
  · refine Tr.tp 8 c9 ?_
    refine Tr.tswIn (pc := 9) (off := 114) (tgt := 123) d_X5_order_9 (by decide) (by decide) rfl rfl ?_
    refine Tr.aload_n (pc := 123) (i := 0) d_X5_order_123 rfl rfl ?_
    refine Tr.iload_n (pc := 124) (i := 1) d_X5_order_124 rfl rfl ?_
    refine Tr.iconst (pc := 125) d_X5_order_125 (by decide) ?_
    refine Tr.callV (pc := 126) (as := [_, _]) d_X5_order_126 s_5_170 ok_X5_about rfl rfl (Nat.le_of_ble_eq_true rfl) (Nat.le_of_ble_eq_true rfl) (by decide) (ty_6 hS.1.1) ?_
    refine Tr.imp (Tr.deep (by decide) (sp_X5_about_6_v0_w1 hS.1 hE ((St.kp hS (by decide) (by decide) (by decide)).trans en_6_2) ((St.kp hS (by decide) (by decide) (by decide)).trans en_6_3) ((St.kp hS (by decide) (by decide) (by decide)).trans en_6_4) a1 (by omega))) ?_
    rintro M126 _ ⟨h126, r126, rfl, lr126, ur126⟩
    have hS := St.tr hS h126 (by decide) (by decide)
    refine Tr.sc [(0, r126)] rfl ?_
    refine Tr.if_eq (pc := 129) (tgt := 145) d_X5_order_129 rfl (fun c129 => ?_) (fun c129 => ?_)
    · refine Tr.iconst (pc := 145) d_X5_order_145 (by decide) ?_
      exact Tr.zret (pc := 146) d_X5_order_146 rfl (by omega) ⟨hS, _, rfl, by omega, by omega, fun hq => absurd hq (by omega)⟩
    · refine Tr.aload_n (pc := 132) (i := 0) d_X5_order_132 rfl rfl ?_
      refine Tr.bipush (pc := 133) d_X5_order_133 rfl (by decide) ?_
      refine Tr.callV (pc := 135) (as := [_]) d_X5_order_135 s_5_81 ok_X5_takeSign rfl rfl (Nat.le_of_ble_eq_true rfl) (Nat.le_of_ble_eq_true rfl) (by decide) (ty_6 hS.1.1) ?_
      refine Tr.imp (Tr.deep (by decide) (sp_X5_takeSign_6 hS.1 ((St.kp hS (by decide) (by decide) (by decide)).trans en_6_2) 59 (by omega))) ?_
      rintro M135 _ ⟨h135, r135, rfl, lr135, ur135⟩
      have hS := St.tr hS h135 (by decide) (by decide)
      refine Tr.sc [(0, r135)] rfl ?_
      refine Tr.if_eq (pc := 138) (tgt := 145) d_X5_order_138 rfl (fun c138 => ?_) (fun c138 => ?_)
      · refine Tr.iconst (pc := 145) d_X5_order_145 (by decide) ?_
        exact Tr.zret (pc := 146) d_X5_order_146 rfl (by omega) ⟨hS, _, rfl, by omega, by omega, fun hq => absurd hq (by omega)⟩
      · refine Tr.iconst (pc := 141) d_X5_order_141 (by decide) ?_
        refine Tr.goto (pc := 142) (tgt := 146) d_X5_order_142 rfl ?_
        exact Tr.zret (pc := 146) d_X5_order_146 rfl (by omega) ⟨hS, _, rfl, by omega, by omega, fun _ => ((St.kp h135 (by decide) (by decide) (by decide)).trans ((St.kp h126 (by decide) (by decide) (by decide)).trans en_6_6))⟩
  · refine Tr.tp 9 c9 ?_
    refine Tr.tswIn (pc := 9) (off := 138) (tgt := 147) d_X5_order_9 (by decide) (by decide) rfl rfl ?_
    refine Tr.aload_n (pc := 147) (i := 0) d_X5_order_147 rfl rfl ?_
    refine Tr.callV (pc := 148) (as := []) d_X5_order_148 s_5_174 ok_X5_sum rfl rfl (Nat.le_of_ble_eq_true rfl) (Nat.le_of_ble_eq_true rfl) (by decide) (ty_6 hS.1.1) ?_
    refine Tr.imp (Tr.deep (by decide) (sp_X5_sum_6_w15 hS.1 hE ((St.kp hS (by decide) (by decide) (by decide)).trans en_6_2) ((St.kp hS (by decide) (by decide) (by decide)).trans en_6_3) ((St.kp hS (by decide) (by decide) (by decide)).trans en_6_4) en_6_6)) ?_
    rintro M148 _ ⟨h148, r148, rfl, lr148, ur148, x148_6_6⟩
    have hS := St.tr hS h148 (by decide) (by decide)
    refine Tr.sc [(0, r148)] rfl ?_
    refine Tr.if_eq (pc := 151) (tgt := 167) d_X5_order_151 rfl (fun c151 => ?_) (fun c151 => ?_)
    · refine Tr.iconst (pc := 167) d_X5_order_167 (by decide) ?_
      exact Tr.zret (pc := 168) d_X5_order_168 rfl (by omega) ⟨hS, _, rfl, by omega, by omega, fun hq => absurd hq (by omega)⟩
    · refine Tr.aload_n (pc := 154) (i := 0) d_X5_order_154 rfl rfl ?_
      refine Tr.bipush (pc := 155) d_X5_order_155 rfl (by decide) ?_
      refine Tr.callV (pc := 157) (as := [_]) d_X5_order_157 s_5_81 ok_X5_takeSign rfl rfl (Nat.le_of_ble_eq_true rfl) (Nat.le_of_ble_eq_true rfl) (by decide) (ty_6 hS.1.1) ?_
      refine Tr.imp (Tr.deep (by decide) (sp_X5_takeSign_6 hS.1 ((St.kp hS (by decide) (by decide) (by decide)).trans en_6_2) 59 (by omega))) ?_
      rintro M157 _ ⟨h157, r157, rfl, lr157, ur157⟩
      have hS := St.tr hS h157 (by decide) (by decide)
      refine Tr.sc [(0, r157)] rfl ?_
      refine Tr.if_eq (pc := 160) (tgt := 167) d_X5_order_160 rfl (fun c160 => ?_) (fun c160 => ?_)
      · refine Tr.iconst (pc := 167) d_X5_order_167 (by decide) ?_
        exact Tr.zret (pc := 168) d_X5_order_168 rfl (by omega) ⟨hS, _, rfl, by omega, by omega, fun hq => absurd hq (by omega)⟩
      · refine Tr.iconst (pc := 163) d_X5_order_163 (by decide) ?_
        refine Tr.goto (pc := 164) (tgt := 168) d_X5_order_164 rfl ?_
        exact Tr.zret (pc := 168) d_X5_order_168 rfl (by omega) ⟨hS, _, rfl, by omega, by omega, fun _ => ((St.kp h157 (by decide) (by decide) (by decide)).trans (x148_6_6 (by omega)))⟩
  · refine Tr.tp 10 c9 ?_
    refine Tr.tswIn (pc := 9) (off := 138) (tgt := 147) d_X5_order_9 (by decide) (by decide) rfl rfl ?_
    refine Tr.aload_n (pc := 147) (i := 0) d_X5_order_147 rfl rfl ?_
    refine Tr.callV (pc := 148) (as := []) d_X5_order_148 s_5_174 ok_X5_sum rfl rfl (Nat.le_of_ble_eq_true rfl) (Nat.le_of_ble_eq_true rfl) (by decide) (ty_6 hS.1.1) ?_
    refine Tr.imp (Tr.deep (by decide) (sp_X5_sum_6_w15 hS.1 hE ((St.kp hS (by decide) (by decide) (by decide)).trans en_6_2) ((St.kp hS (by decide) (by decide) (by decide)).trans en_6_3) ((St.kp hS (by decide) (by decide) (by decide)).trans en_6_4) en_6_6)) ?_
    rintro M148 _ ⟨h148, r148, rfl, lr148, ur148, x148_6_6⟩
    have hS := St.tr hS h148 (by decide) (by decide)
    refine Tr.sc [(0, r148)] rfl ?_
    refine Tr.if_eq (pc := 151) (tgt := 167) d_X5_order_151 rfl (fun c151 => ?_) (fun c151 => ?_)
    · refine Tr.iconst (pc := 167) d_X5_order_167 (by decide) ?_
      exact Tr.zret (pc := 168) d_X5_order_168 rfl (by omega) ⟨hS, _, rfl, by omega, by omega, fun hq => absurd hq (by omega)⟩
    · refine Tr.aload_n (pc := 154) (i := 0) d_X5_order_154 rfl rfl ?_
      refine Tr.bipush (pc := 155) d_X5_order_155 rfl (by decide) ?_
      refine Tr.callV (pc := 157) (as := [_]) d_X5_order_157 s_5_81 ok_X5_takeSign rfl rfl (Nat.le_of_ble_eq_true rfl) (Nat.le_of_ble_eq_true rfl) (by decide) (ty_6 hS.1.1) ?_
      refine Tr.imp (Tr.deep (by decide) (sp_X5_takeSign_6 hS.1 ((St.kp hS (by decide) (by decide) (by decide)).trans en_6_2) 59 (by omega))) ?_
      rintro M157 _ ⟨h157, r157, rfl, lr157, ur157⟩
      have hS := St.tr hS h157 (by decide) (by decide)
      refine Tr.sc [(0, r157)] rfl ?_
      refine Tr.if_eq (pc := 160) (tgt := 167) d_X5_order_160 rfl (fun c160 => ?_) (fun c160 => ?_)
      · refine Tr.iconst (pc := 167) d_X5_order_167 (by decide) ?_
        exact Tr.zret (pc := 168) d_X5_order_168 rfl (by omega) ⟨hS, _, rfl, by omega, by omega, fun hq => absurd hq (by omega)⟩
      · refine Tr.iconst (pc := 163) d_X5_order_163 (by decide) ?_
        refine Tr.goto (pc := 164) (tgt := 168) d_X5_order_164 rfl ?_
        exact Tr.zret (pc := 168) d_X5_order_168 rfl (by omega) ⟨hS, _, rfl, by omega, by omega, fun _ => ((St.kp h157 (by decide) (by decide) (by decide)).trans (x148_6_6 (by omega)))⟩
  · refine Tr.tp 11 c9 ?_
    refine Tr.tswIn (pc := 9) (off := 160) (tgt := 169) d_X5_order_9 (by decide) (by decide) rfl rfl ?_
    refine Tr.aload_n (pc := 169) (i := 0) d_X5_order_169 rfl rfl ?_
    refine Tr.callV (pc := 170) (as := []) d_X5_order_170 s_5_177 ok_X5_test rfl rfl (Nat.le_of_ble_eq_true rfl) (Nat.le_of_ble_eq_true rfl) (by decide) (ty_6 hS.1.1) ?_
    refine Tr.imp (Tr.deep (by decide) (sp_X5_test_6_w15 hS.1 hE ((St.kp hS (by decide) (by decide) (by decide)).trans en_6_2) ((St.kp hS (by decide) (by decide) (by decide)).trans en_6_3) ((St.kp hS (by decide) (by decide) (by decide)).trans en_6_4) en_6_6)) ?_
    rintro M170 _ ⟨h170, r170, rfl, lr170, ur170, x170_6_6⟩
    have hS := St.tr hS h170 (by decide) (by decide)
    refine Tr.sc [(0, r170)] rfl ?_
    refine Tr.if_eq (pc := 173) (tgt := 196) d_X5_order_173 rfl (fun c173 => ?_) (fun c173 => ?_)
    · refine Tr.iconst (pc := 196) d_X5_order_196 (by decide) ?_
      exact Tr.zret (pc := 197) d_X5_order_197 rfl (by omega) ⟨hS, _, rfl, by omega, by omega, fun hq => absurd hq (by omega)⟩
    · refine Tr.aload_n (pc := 176) (i := 0) d_X5_order_176 rfl rfl ?_
      refine Tr.iload_n (pc := 177) (i := 1) d_X5_order_177 rfl rfl ?_
      refine Tr.callV (pc := 178) (as := [_]) d_X5_order_178 s_5_180 ok_X5_yesBlock rfl rfl (Nat.le_of_ble_eq_true rfl) (Nat.le_of_ble_eq_true rfl) (by decide) (ty_6 hS.1.1) ?_
      refine Tr.imp (Tr.deep (by decide) (sp_X5_yesBlock_6_w15 hS.1 hE ((St.kp hS (by decide) (by decide) (by decide)).trans en_6_2) ((St.kp hS (by decide) (by decide) (by decide)).trans en_6_3) ((St.kp hS (by decide) (by decide) (by decide)).trans en_6_4) (x170_6_6 (by omega)) a1 (by omega))) ?_
      rintro M178 _ ⟨h178, r178, rfl, lr178, ur178, x178_6_6⟩
      have hS := St.tr hS h178 (by decide) (by decide)
      refine Tr.sc [(0, r178)] rfl ?_
      refine Tr.if_eq (pc := 181) (tgt := 196) d_X5_order_181 rfl (fun c181 => ?_) (fun c181 => ?_)
      · refine Tr.iconst (pc := 196) d_X5_order_196 (by decide) ?_
        exact Tr.zret (pc := 197) d_X5_order_197 rfl (by omega) ⟨hS, _, rfl, by omega, by omega, fun hq => absurd hq (by omega)⟩
      · refine Tr.aload_n (pc := 184) (i := 0) d_X5_order_184 rfl rfl ?_
        refine Tr.iload_n (pc := 185) (i := 1) d_X5_order_185 rfl rfl ?_
        refine Tr.callV (pc := 186) (as := [_]) d_X5_order_186 s_5_183 ok_X5_noBlock rfl rfl (Nat.le_of_ble_eq_true rfl) (Nat.le_of_ble_eq_true rfl) (by decide) (ty_6 hS.1.1) ?_
        refine Tr.imp (Tr.deep (by decide) (sp_X5_noBlock_6_w9 hS.1 hE ((St.kp hS (by decide) (by decide) (by decide)).trans en_6_2) ((St.kp hS (by decide) (by decide) (by decide)).trans en_6_3) ((St.kp hS (by decide) (by decide) (by decide)).trans en_6_4) (x178_6_6 (by omega)) a1 (by omega))) ?_
        rintro M186 _ ⟨h186, r186, rfl, lr186, ur186, x186_6_6⟩
        have hS := St.tr hS h186 (by decide) (by decide)
        refine Tr.sc [(0, r186)] rfl ?_
        refine Tr.if_eq (pc := 189) (tgt := 196) d_X5_order_189 rfl (fun c189 => ?_) (fun c189 => ?_)
        · refine Tr.iconst (pc := 196) d_X5_order_196 (by decide) ?_
          exact Tr.zret (pc := 197) d_X5_order_197 rfl (by omega) ⟨hS, _, rfl, by omega, by omega, fun hq => absurd hq (by omega)⟩
        · refine Tr.iconst (pc := 192) d_X5_order_192 (by decide) ?_
          refine Tr.goto (pc := 193) (tgt := 197) d_X5_order_193 rfl ?_
          exact Tr.zret (pc := 197) d_X5_order_197 rfl (by omega) ⟨hS, _, rfl, by omega, by omega, fun _ => (x186_6_6 (by omega))⟩
end
/-! 43.26 -/
section
def ws_X5_orders_6_w15 : List (Int × Int) := [(6, 0), (6, 1), (6, 5), (6, 6), (15, 0), (15, 11)]
def as_X5_orders_6_w15 : List Int := [16, 17, 18, 19, 20, 21, 22, 24, 25]
def q_X5_orders_6_w15 (M0 M' : Mem) (r : Option PV) : Prop := St Tru ws_X5_orders_6_w15 as_X5_orders_6_w15 M0 M' ∧ ∃ v : Int, r = some (0, v) ∧ (-2) ≤ v ∧ v ≤ 59 ∧ (((-1) ≤ v ∧ v ≤ 1000000) → rd M' 6 6 = 6)
set_option maxRecDepth 100000 in
set_option maxHeartbeats 4000000 in
theorem sp_X5_orders_6_w15 {l : Launch} {K : EC} {M0 : Mem} {xq : Int} (hI : In Tru M0) (hE : e_all K xq) (en_6_2 : rd M0 6 2 = 2) (en_6_3 : rd M0 6 3 = 7) (en_6_4 : rd M0 6 4 = 15) (en_6_6 : rd M0 6 6 = 6) (a1 : Int) (ha1 : 0 ≤ a1 ∧ a1 ≤ 59)  : Tr l K 19 mX5_orders 0 [(0, (2, 6)), (1, (0, a1))] [] M0 (q_X5_orders_6_w15 M0) := by
  have hS : St Tru ws_X5_orders_6_w15 as_X5_orders_6_w15 M0 M0 := St.rf hI
  refine Tr.iconst (pc := 0) d_X5_orders_0 (by decide) ?_
  refine Tr.istore_n (pc := 1) (i := 2) (ls2 := [(2, (0, (-1))), (0, (2, 6)), (1, (0, a1))]) d_X5_orders_1 rfl (by decide) rfl ?_
  refine Tr.iconst (pc := 2) d_X5_orders_2 (by decide) ?_
  refine Tr.istore_n (pc := 3) (i := 3) (ls2 := [(3, (0, (-1))), (2, (0, (-1))), (0, (2, 6)), (1, (0, a1))]) d_X5_orders_3 rfl (by decide) rfl ?_
  refine Tr.iconst (pc := 4) d_X5_orders_4 (by decide) ?_
  refine Tr.istore (pc := 5) (i := 4) (ls2 := [(4, (0, 0)), (3, (0, (-1))), (2, (0, (-1))), (0, (2, 6)), (1, (0, a1))]) d_X5_orders_5 (by decide) rfl ?_
  have J7 : ∀ (n7 : Nat) (M : Mem) (p7_2 p7_3 p7_4 : Int), St Tru ws_X5_orders_6_w15 as_X5_orders_6_w15 M0 M → ((-1) ≤ p7_2 ∧ p7_2 ≤ 59) → ((-1) ≤ p7_3 ∧ p7_3 ≤ 59) → (0 ≤ p7_4 ∧ p7_4 ≤ 61) → rd M 6 6 = 6 → (61 - p7_4).toNat < n7 → Tr l K 19 mX5_orders 7 [(0, (2, 6)), (1, (0, a1)), (2, (0, p7_2)), (3, (0, p7_3)), (4, (0, p7_4))] [] M (q_X5_orders_6_w15 M0) := by
    intro n7
    induction n7 with
    | zero => intro M p7_2 p7_3 p7_4 hS bp7_2 bp7_3 bp7_4 k7_6_6 hm7; exact absurd hm7 (Nat.not_lt_zero _)
    | succ n7 J7 =>
      intro M p7_2 p7_3 p7_4 hS bp7_2 bp7_3 bp7_4 k7_6_6 hm7
      refine Tr.iload (pc := 7) (i := 4) d_X5_orders_7 rfl ?_
      refine Tr.bipush (pc := 9) d_X5_orders_9 rfl (by decide) ?_
      refine Tr.icmp_gt (pc := 11) (tgt := 111) d_X5_orders_11 rfl (fun c11 => ?_) (fun c11 => ?_)
      · refine Tr.iload_n (pc := 111) (i := 2) d_X5_orders_111 rfl rfl ?_
        exact Tr.iret (pc := 112) d_X5_orders_112 rfl ⟨hS, _, rfl, by omega, by omega, fun _ => k7_6_6⟩
      · refine Tr.aload_n (pc := 14) (i := 0) d_X5_orders_14 rfl rfl ?_
        refine Tr.callV (pc := 15) (as := []) d_X5_orders_15 s_5_154 ok_X5_isOrder rfl rfl (Nat.le_of_ble_eq_true rfl) (Nat.le_of_ble_eq_true rfl) (by decide) (ty_6 hS.1.1) ?_
        refine Tr.imp (Tr.deep (by decide) (sp_X5_isOrder_6 hS.1 ((St.kp hS (by decide) (by decide) (by decide)).trans en_6_2))) ?_
        rintro M15 _ ⟨h15, r15, rfl, lr15, ur15⟩
        have hS := St.tr hS h15 (by decide) (by decide)
        refine Tr.sc [(0, r15)] rfl ?_
        refine Tr.if_eq (pc := 18) (tgt := 111) d_X5_orders_18 rfl (fun c18 => ?_) (fun c18 => ?_)
        · refine Tr.iload_n (pc := 111) (i := 2) d_X5_orders_111 rfl rfl ?_
          exact Tr.iret (pc := 112) d_X5_orders_112 rfl ⟨hS, _, rfl, by omega, by omega, fun _ => ((St.kp h15 (by decide) (by decide) (by decide)).trans k7_6_6)⟩
        · refine Tr.aload_n (pc := 21) (i := 0) d_X5_orders_21 rfl rfl ?_
          refine Tr.getf (pc := 22) d_X5_orders_22 f_5_32 (by decide) (by decide) (ty_6 hS.1.1) ?_
          refine Tr.tp 15 ((St.kp hS (by decide) (by decide) (by decide)).trans en_6_4) ?_
          refine Tr.getf (pc := 25) d_X5_orders_25 f_5_157 (by decide) (by decide) (ty_15 hS.1.1) ?_
          refine Tr.gen (P := fun v => 0 ≤ v ∧ v ≤ 60) (ir_15_0 hS.1.2.1) (fun r25 er25 br25 => ?_)
          refine Tr.bipush (pc := 28) d_X5_orders_28 rfl (by decide) ?_
          refine Tr.icmp_lt (pc := 30) (tgt := 42) d_X5_orders_30 rfl (fun c30 => ?_) (fun c30 => ?_)
          · refine Tr.aload_n (pc := 42) (i := 0) d_X5_orders_42 rfl rfl ?_
            refine Tr.getf (pc := 43) d_X5_orders_43 f_5_32 (by decide) (by decide) (ty_6 hS.1.1) ?_
            refine Tr.tp 15 ((St.kp hS (by decide) (by decide) (by decide)).trans en_6_4) ?_
            refine Tr.aload_n (pc := 46) (i := 0) d_X5_orders_46 rfl rfl ?_
            refine Tr.getf (pc := 47) d_X5_orders_47 f_5_18 (by decide) (by decide) (ty_6 hS.1.1) ?_
            refine Tr.tp 2 ((St.kp hS (by decide) (by decide) (by decide)).trans en_6_2) ?_
            refine Tr.getf (pc := 50) d_X5_orders_50 f_5_68 (by decide) (by decide) (ty_2 hS.1.1) ?_
            refine Tr.tp 5 (fx_2_2 hS.1.1) ?_
            refine Tr.aload_n (pc := 53) (i := 0) d_X5_orders_53 rfl rfl ?_
            refine Tr.getf (pc := 54) d_X5_orders_54 f_5_36 (by decide) (by decide) (ty_6 hS.1.1) ?_
            refine Tr.gen (P := fun v => 0 ≤ v ∧ v ≤ 900) (ir_6_5 hS.1.2.1) (fun r54 er54 br54 => ?_)
            refine Tr.iald (pc := 57) d_X5_orders_57 (ty_5 hS.1.1) (by omega) (by omega) ?_
            refine Tr.gen (P := fun v => (-2147483648) ≤ v ∧ v ≤ 2147483647) (ar_5 hS.1.2.1 _) (fun r57 er57 br57 => ?_)
            refine Tr.iload_n (pc := 58) (i := 1) d_X5_orders_58 rfl rfl ?_
            refine Tr.callV (pc := 59) (as := [_, _]) d_X5_orders_59 s_5_160 ok_X4_open rfl rfl (Nat.le_of_ble_eq_true rfl) (Nat.le_of_ble_eq_true rfl) (by decide) (ty_15 hS.1.1) ?_
            refine Tr.imp (Tr.deep (by decide) (sp_X4_open_15_w1 hS.1 r57 (by omega) a1 (by omega) (by have h9 := er25; omega))) ?_
            rintro M59 _ ⟨h59, r59, rfl, lr59, ur59⟩
            have hS := St.tr hS h59 (by decide) (by decide)
            refine Tr.sc [(0, r59)] rfl ?_
            refine Tr.istore (pc := 62) (i := 5) (ls2 := [(5, (0, r59)), (0, (2, 6)), (1, (0, a1)), (2, (0, p7_2)), (3, (0, p7_3)), (4, (0, p7_4))]) d_X5_orders_62 (by decide) rfl ?_
            refine Tr.iload_n (pc := 64) (i := 3) d_X5_orders_64 rfl rfl ?_
            have J85 : ∀ (M : Mem) (p85_2 : Int), St Tru ws_X5_orders_6_w15 as_X5_orders_6_w15 M0 M → ((-1) ≤ p85_2 ∧ p85_2 ≤ 59) → rd M 5 r54 = r57 → rd M 6 5 = r54 → rd M 6 6 = 6 → Tr l K 19 mX5_orders 85 [(0, (2, 6)), (1, (0, a1)), (2, (0, p85_2)), (4, (0, p7_4)), (5, (0, r59))] [] M (q_X5_orders_6_w15 M0) := by
              intro M p85_2 hS bp85_2 k85_5_r5410 k85_6_5 k85_6_6
              refine Tr.iload (pc := 85) (i := 5) d_X5_orders_85 rfl ?_
              refine Tr.istore_n (pc := 87) (i := 3) (ls2 := [(3, (0, r59)), (0, (2, 6)), (1, (0, a1)), (2, (0, p85_2)), (4, (0, p7_4)), (5, (0, r59))]) d_X5_orders_87 rfl (by decide) rfl ?_
              refine Tr.aload_n (pc := 88) (i := 0) d_X5_orders_88 rfl rfl ?_
              refine Tr.callV (pc := 89) (as := []) d_X5_orders_89 s_5_74 ok_X5_goOn rfl rfl (Nat.le_of_ble_eq_true rfl) (Nat.le_of_ble_eq_true rfl) (by decide) (ty_6 hS.1.1) ?_
              refine Tr.imp (Tr.deep (by decide) (sp_X5_goOn_6 hS.1 )) ?_
              rintro M89 _ ⟨h89, r89, rfl, lr89, ur89⟩
              have hS := St.tr hS h89 (by decide) (by decide)
              refine Tr.sc [(0, r89)] rfl ?_
              refine Tr.pop (pc := 92) d_X5_orders_92 ne01 ?_
              refine Tr.aload_n (pc := 93) (i := 0) d_X5_orders_93 rfl rfl ?_
              refine Tr.iload (pc := 94) (i := 5) d_X5_orders_94 rfl ?_
              refine Tr.callV (pc := 96) (as := [_]) d_X5_orders_96 s_5_166 ok_X5_order rfl rfl (Nat.le_of_ble_eq_true rfl) (Nat.le_of_ble_eq_true rfl) (by decide) (ty_6 hS.1.1) ?_
              refine Tr.imp (Tr.deep (by decide) (sp_X5_order_6_w15 hS.1 hE ((St.kp hS (by decide) (by decide) (by decide)).trans en_6_2) ((St.kp hS (by decide) (by decide) (by decide)).trans en_6_3) ((St.kp hS (by decide) (by decide) (by decide)).trans en_6_4) ((St.kp h89 (by decide) (by decide) (by decide)).trans k85_6_6) r59 (by omega))) ?_
              rintro M96 _ ⟨h96, r96, rfl, lr96, ur96, x96_6_6⟩
              have hS := St.tr hS h96 (by decide) (by decide)
              refine Tr.sc [(0, r96)] rfl ?_
              refine Tr.if_ne (pc := 99) (tgt := 105) d_X5_orders_99 rfl (fun c99 => ?_) (fun c99 => ?_)
              · refine Tr.iincV (pc := 105) (n2 := (p7_4 + 1)) (ls2 := [(4, (0, (p7_4 + 1))), (3, (0, r59)), (0, (2, 6)), (1, (0, a1)), (2, (0, p85_2)), (5, (0, r59))]) d_X5_orders_105 rfl (by decide) ((w32_id (by omega)).trans (by omega)) rfl ?_
                refine Tr.goto (pc := 108) (tgt := 7) d_X5_orders_108 rfl ?_
                refine Tr.pick [2, 3, 4, 1, 0] (ls2 := [(0, (2, 6)), (1, (0, a1)), (2, (0, p85_2)), (3, (0, r59)), (4, (0, (p7_4 + 1)))]) rfl ?_
                exact J7 _ _ _ _ hS (by omega) (by omega) (by omega) (x96_6_6 (by omega)) (by omega)
              · refine Tr.bipush (pc := 102) d_X5_orders_102 rfl (by decide) ?_
                exact Tr.iret (pc := 104) d_X5_orders_104 rfl ⟨hS, _, rfl, by omega, by omega, fun hq => absurd hq (by omega)⟩
            refine Tr.if_ge (pc := 65) (tgt := 74) d_X5_orders_65 rfl (fun c65 => ?_) (fun c65 => ?_)
            · refine Tr.aload_n (pc := 74) (i := 0) d_X5_orders_74 rfl rfl ?_
              refine Tr.getf (pc := 75) d_X5_orders_75 f_5_32 (by decide) (by decide) (ty_6 hS.1.1) ?_
              refine Tr.tp 15 ((St.kp hS (by decide) (by decide) (by decide)).trans en_6_4) ?_
              refine Tr.getf (pc := 78) d_X5_orders_78 f_5_163 (by decide) (by decide) (ty_15 hS.1.1) ?_
              refine Tr.tp 21 (fx_15_6 hS.1.1) ?_
              refine Tr.iload_n (pc := 81) (i := 3) d_X5_orders_81 rfl rfl ?_
              refine Tr.iload (pc := 82) (i := 5) d_X5_orders_82 rfl ?_
              refine Tr.iastS (pc := 84) (P := St Tru ws_X5_orders_6_w15 as_X5_orders_6_w15 M0) d_X5_orders_84 (ty_21 hS.1.1) (by omega) (by omega) (sa_21 hS (by decide) (by omega) trivial) (fun M84 hS w84 => ?_)
              refine Tr.pick [1, 2, 3, 5, 0] (ls2 := [(0, (2, 6)), (1, (0, a1)), (2, (0, p7_2)), (4, (0, p7_4)), (5, (0, r59))]) rfl ?_
              exact J85 _ _ hS (by omega) ((Wr.b w84 rfl).trans ((St.ka h59 (by decide) (by decide) (by decide)).trans er57)) ((Wr.b w84 rfl).trans ((St.kp h59 (by decide) (by decide) (by decide)).trans er54)) ((Wr.b w84 rfl).trans ((St.kp h59 (by decide) (by decide) (by decide)).trans ((St.kp h15 (by decide) (by decide) (by decide)).trans k7_6_6)))
            · refine Tr.iload (pc := 68) (i := 5) d_X5_orders_68 rfl ?_
              refine Tr.istore_n (pc := 70) (i := 2) (ls2 := [(2, (0, r59)), (5, (0, r59)), (0, (2, 6)), (1, (0, a1)), (3, (0, p7_3)), (4, (0, p7_4))]) d_X5_orders_70 rfl (by decide) rfl ?_
              refine Tr.goto (pc := 71) (tgt := 85) d_X5_orders_71 rfl ?_
              refine Tr.pick [2, 3, 0, 5, 1] (ls2 := [(0, (2, 6)), (1, (0, a1)), (2, (0, r59)), (4, (0, p7_4)), (5, (0, r59))]) rfl ?_
              exact J85 _ _ hS (by omega) ((St.ka h59 (by decide) (by decide) (by decide)).trans er57) ((St.kp h59 (by decide) (by decide) (by decide)).trans er54) ((St.kp h59 (by decide) (by decide) (by decide)).trans ((St.kp h15 (by decide) (by decide) (by decide)).trans k7_6_6))
          · refine Tr.aload_n (pc := 33) (i := 0) d_X5_orders_33 rfl rfl ?_
            refine Tr.iconst (pc := 34) d_X5_orders_34 (by decide) ?_
            refine Tr.callV (pc := 35) (as := [_]) d_X5_orders_35 s_5_56 ok_X5_refuse rfl rfl (Nat.le_of_ble_eq_true rfl) (Nat.le_of_ble_eq_true rfl) (by decide) (ty_6 hS.1.1) ?_
            refine Tr.imp (Tr.deep (by decide) (sp_X5_refuse_6_w2 hS.1 ((St.kp hS (by decide) (by decide) (by decide)).trans en_6_2) 5 (by omega))) ?_
            rintro M35 _ ⟨h35, r35, rfl, lr35, ur35⟩
            have hS := St.tr hS h35 (by decide) (by decide)
            refine Tr.sc [(0, r35)] rfl ?_
            refine Tr.pop (pc := 38) d_X5_orders_38 ne01 ?_
            refine Tr.bipush (pc := 39) d_X5_orders_39 rfl (by decide) ?_
            exact Tr.iret (pc := 41) d_X5_orders_41 rfl ⟨hS, _, rfl, by omega, by omega, fun hq => absurd hq (by omega)⟩
  refine Tr.pick [3, 4, 2, 1, 0] (ls2 := [(0, (2, 6)), (1, (0, a1)), (2, (0, (-1))), (3, (0, (-1))), (4, (0, 0))]) rfl ?_
  exact J7 _ _ _ _ _ hS (by omega) (by omega) (by omega) en_6_6 (Nat.lt_succ_self _)

def ws_X5_block_6_w14 : List (Int × Int) := [(6, 0), (6, 1), (6, 5), (6, 6), (15, 0), (15, 11)]
def as_X5_block_6_w14 : List Int := [16, 17, 18, 19, 20, 21, 22, 24, 25]
def q_X5_block_6_w14 (M0 M' : Mem) (r : Option PV) : Prop := St Tru ws_X5_block_6_w14 as_X5_block_6_w14 M0 M' ∧ ∃ v : Int, r = some (0, v) ∧ (-2) ≤ v ∧ v ≤ 59 ∧ (((-1) ≤ v ∧ v ≤ 1000000) → rd M' 6 6 = 5)
set_option maxRecDepth 100000 in
set_option maxHeartbeats 4000000 in
theorem sp_X5_block_6_w14 {l : Launch} {K : EC} {M0 : Mem} {xq : Int} (hI : In Tru M0) (hE : e_all K xq) (en_6_2 : rd M0 6 2 = 2) (en_6_3 : rd M0 6 3 = 7) (en_6_4 : rd M0 6 4 = 15) (en_6_6 : rd M0 6 6 = 5) (a1 : Int) (ha1 : 0 ≤ a1 ∧ a1 ≤ 59)  : Tr l K 20 mX5_block 0 [(0, (2, 6)), (1, (0, a1))] [] M0 (q_X5_block_6_w14 M0) := by
  have hS : St Tru ws_X5_block_6_w14 as_X5_block_6_w14 M0 M0 := St.rf hI
  refine Tr.aload_n (pc := 0) (i := 0) d_X5_block_0 rfl rfl ?_
  refine Tr.bipush (pc := 1) d_X5_block_1 rfl (by decide) ?_
  refine Tr.callV (pc := 3) (as := [_]) d_X5_block_3 s_5_206 ok_X5_takeOpening rfl rfl (Nat.le_of_ble_eq_true rfl) (Nat.le_of_ble_eq_true rfl) (by decide) (ty_6 hS.1.1) ?_
  refine Tr.imp (Tr.deep (by decide) (sp_X5_takeOpening_6_w23 hS.1 ((St.kp hS (by decide) (by decide) (by decide)).trans en_6_2) en_6_6 123 (by omega))) ?_
  rintro M3 _ ⟨h3, r3, rfl, lr3, ur3, x3_6_6⟩
  have hS := St.tr hS h3 (by decide) (by decide)
  refine Tr.sc [(0, r3)] rfl ?_
  refine Tr.if_ne (pc := 6) (tgt := 12) d_X5_block_6 rfl (fun c6 => ?_) (fun c6 => ?_)
  · refine Tr.aload_n (pc := 12) (i := 0) d_X5_block_12 rfl rfl ?_
    refine Tr.iload_n (pc := 13) (i := 1) d_X5_block_13 rfl rfl ?_
    refine Tr.callV (pc := 14) (as := [_]) d_X5_block_14 s_5_46 ok_X5_orders rfl rfl (Nat.le_of_ble_eq_true rfl) (Nat.le_of_ble_eq_true rfl) (by decide) (ty_6 hS.1.1) ?_
    refine Tr.imp (Tr.deep (by decide) (sp_X5_orders_6_w15 hS.1 hE ((St.kp hS (by decide) (by decide) (by decide)).trans en_6_2) ((St.kp hS (by decide) (by decide) (by decide)).trans en_6_3) ((St.kp hS (by decide) (by decide) (by decide)).trans en_6_4) (x3_6_6 (by omega)) a1 (by omega))) ?_
    rintro M14 _ ⟨h14, r14, rfl, lr14, ur14, x14_6_6⟩
    have hS := St.tr hS h14 (by decide) (by decide)
    refine Tr.sc [(0, r14)] rfl ?_
    refine Tr.istore_n (pc := 17) (i := 2) (ls2 := [(2, (0, r14)), (0, (2, 6)), (1, (0, a1))]) d_X5_block_17 rfl (by decide) rfl ?_
    refine Tr.iload_n (pc := 18) (i := 2) d_X5_block_18 rfl rfl ?_
    refine Tr.bipush (pc := 19) d_X5_block_19 rfl (by decide) ?_
    refine Tr.icmp_eq (pc := 21) (tgt := 33) d_X5_block_21 rfl (fun c21 => ?_) (fun c21 => ?_)
    · refine Tr.bipush (pc := 33) d_X5_block_33 rfl (by decide) ?_
      exact Tr.iret (pc := 35) d_X5_block_35 rfl ⟨hS, _, rfl, by omega, by omega, fun hq => absurd hq (by omega)⟩
    · refine Tr.aload_n (pc := 24) (i := 0) d_X5_block_24 rfl rfl ?_
      refine Tr.bipush (pc := 25) d_X5_block_25 rfl (by decide) ?_
      refine Tr.callV (pc := 27) (as := [_]) d_X5_block_27 s_5_209 ok_X5_takeClosing rfl rfl (Nat.le_of_ble_eq_true rfl) (Nat.le_of_ble_eq_true rfl) (by decide) (ty_6 hS.1.1) ?_
      refine Tr.imp (Tr.deep (by decide) (sp_X5_takeClosing_6_w18 hS.1 ((St.kp hS (by decide) (by decide) (by decide)).trans en_6_2) (x14_6_6 (by omega)) 125 (by omega))) ?_
      rintro M27 _ ⟨h27, r27, rfl, lr27, ur27, x27_6_6⟩
      have hS := St.tr hS h27 (by decide) (by decide)
      refine Tr.sc [(0, r27)] rfl ?_
      refine Tr.if_ne (pc := 30) (tgt := 36) d_X5_block_30 rfl (fun c30 => ?_) (fun c30 => ?_)
      · refine Tr.iload_n (pc := 36) (i := 2) d_X5_block_36 rfl rfl ?_
        exact Tr.iret (pc := 37) d_X5_block_37 rfl ⟨hS, _, rfl, by omega, by omega, fun _ => (x27_6_6 (by omega))⟩
      · refine Tr.bipush (pc := 33) d_X5_block_33 rfl (by decide) ?_
        exact Tr.iret (pc := 35) d_X5_block_35 rfl ⟨hS, _, rfl, by omega, by omega, fun hq => absurd hq (by omega)⟩
  · refine Tr.bipush (pc := 9) d_X5_block_9 rfl (by decide) ?_
    exact Tr.iret (pc := 11) d_X5_block_11 rfl ⟨hS, _, rfl, by omega, by omega, fun hq => absurd hq (by omega)⟩

def ws_X5_yesBlock_6_w14 : List (Int × Int) := [(6, 0), (6, 1), (6, 5), (6, 6), (15, 0), (15, 11)]
def as_X5_yesBlock_6_w14 : List Int := [16, 17, 18, 19, 20, 21, 22, 24, 25]
def q_X5_yesBlock_6_w14 (M0 M' : Mem) (r : Option PV) : Prop := St Tru ws_X5_yesBlock_6_w14 as_X5_yesBlock_6_w14 M0 M' ∧ ∃ v : Int, r = some (0, v) ∧ 0 ≤ v ∧ v ≤ 1 ∧ ((1 ≤ v ∧ v ≤ 1) → rd M' 6 6 = 5)
set_option maxRecDepth 100000 in
set_option maxHeartbeats 4000000 in
theorem sp_X5_yesBlock_6_w14 {l : Launch} {K : EC} {M0 : Mem} {xq : Int} (hI : In Tru M0) (hE : e_all K xq) (en_6_2 : rd M0 6 2 = 2) (en_6_3 : rd M0 6 3 = 7) (en_6_4 : rd M0 6 4 = 15) (en_6_6 : rd M0 6 6 = 5) (a1 : Int) (ha1 : 0 ≤ a1 ∧ a1 ≤ 59)  : Tr l K 21 mX5_yesBlock 0 [(0, (2, 6)), (1, (0, a1))] [] M0 (q_X5_yesBlock_6_w14 M0) := by
  have hS : St Tru ws_X5_yesBlock_6_w14 as_X5_yesBlock_6_w14 M0 M0 := St.rf hI
  refine Tr.aload_n (pc := 0) (i := 0) d_X5_yesBlock_0 rfl rfl ?_
  refine Tr.iload_n (pc := 1) (i := 1) d_X5_yesBlock_1 rfl rfl ?_
  refine Tr.callV (pc := 2) (as := [_]) d_X5_yesBlock_2 s_5_197 ok_X5_block rfl rfl (Nat.le_of_ble_eq_true rfl) (Nat.le_of_ble_eq_true rfl) (by decide) (ty_6 hS.1.1) ?_
  refine Tr.imp (Tr.deep (by decide) (sp_X5_block_6_w14 hS.1 hE ((St.kp hS (by decide) (by decide) (by decide)).trans en_6_2) ((St.kp hS (by decide) (by decide) (by decide)).trans en_6_3) ((St.kp hS (by decide) (by decide) (by decide)).trans en_6_4) en_6_6 a1 (by omega))) ?_
  rintro M2 _ ⟨h2, r2, rfl, lr2, ur2, x2_6_6⟩
  have hS := St.tr hS h2 (by decide) (by decide)
  refine Tr.sc [(0, r2)] rfl ?_
  refine Tr.istore_n (pc := 5) (i := 2) (ls2 := [(2, (0, r2)), (0, (2, 6)), (1, (0, a1))]) d_X5_yesBlock_5 rfl (by decide) rfl ?_
  refine Tr.aload_n (pc := 6) (i := 0) d_X5_yesBlock_6 rfl rfl ?_
  refine Tr.getf (pc := 7) d_X5_yesBlock_7 f_5_32 (by decide) (by decide) (ty_6 hS.1.1) ?_
  refine Tr.tp 15 ((St.kp hS (by decide) (by decide) (by decide)).trans en_6_4) ?_
  refine Tr.getf (pc := 10) d_X5_yesBlock_10 f_5_200 (by decide) (by decide) (ty_15 hS.1.1) ?_
  refine Tr.tp 19 (fx_15_4 hS.1.1) ?_
  refine Tr.iload_n (pc := 13) (i := 1) d_X5_yesBlock_13 rfl rfl ?_
  refine Tr.iload_n (pc := 14) (i := 2) d_X5_yesBlock_14 rfl rfl ?_
  refine Tr.iastS (pc := 15) (P := St Tru ws_X5_yesBlock_6_w14 as_X5_yesBlock_6_w14 M0) d_X5_yesBlock_15 (ty_19 hS.1.1) (by omega) (by omega) (sa_19 hS (by decide) (by omega) trivial) (fun M15 hS w15 => ?_)
  refine Tr.iload_n (pc := 16) (i := 2) d_X5_yesBlock_16 rfl rfl ?_
  refine Tr.bipush (pc := 17) d_X5_yesBlock_17 rfl (by decide) ?_
  refine Tr.icmp_eq (pc := 19) (tgt := 26) d_X5_yesBlock_19 rfl (fun c19 => ?_) (fun c19 => ?_)
  · refine Tr.iconst (pc := 26) d_X5_yesBlock_26 (by decide) ?_
    exact Tr.zret (pc := 27) d_X5_yesBlock_27 rfl (by omega) ⟨hS, _, rfl, by omega, by omega, fun hq => absurd hq (by omega)⟩
  · refine Tr.iconst (pc := 22) d_X5_yesBlock_22 (by decide) ?_
    refine Tr.goto (pc := 23) (tgt := 27) d_X5_yesBlock_23 rfl ?_
    exact Tr.zret (pc := 27) d_X5_yesBlock_27 rfl (by omega) ⟨hS, _, rfl, by omega, by omega, fun _ => ((Wr.b w15 rfl).trans (x2_6_6 (by omega)))⟩

def ws_X5_noBlock_6_w10 : List (Int × Int) := [(6, 0), (6, 1), (6, 5), (6, 6), (15, 0), (15, 11)]
def as_X5_noBlock_6_w10 : List Int := [16, 17, 18, 19, 20, 21, 22, 24, 25]
def q_X5_noBlock_6_w10 (M0 M' : Mem) (r : Option PV) : Prop := St Tru ws_X5_noBlock_6_w10 as_X5_noBlock_6_w10 M0 M' ∧ ∃ v : Int, r = some (0, v) ∧ 0 ≤ v ∧ v ≤ 1 ∧ ((1 ≤ v ∧ v ≤ 1) → rd M' 6 6 = 5)
set_option maxRecDepth 100000 in
set_option maxHeartbeats 4000000 in
theorem sp_X5_noBlock_6_w10 {l : Launch} {K : EC} {M0 : Mem} {xq : Int} (hI : In Tru M0) (hE : e_all K xq) (en_6_2 : rd M0 6 2 = 2) (en_6_3 : rd M0 6 3 = 7) (en_6_4 : rd M0 6 4 = 15) (en_6_6 : rd M0 6 6 = 5) (a1 : Int) (ha1 : 0 ≤ a1 ∧ a1 ≤ 59)  : Tr l K 21 mX5_noBlock 0 [(0, (2, 6)), (1, (0, a1))] [] M0 (q_X5_noBlock_6_w10 M0) := by
  have hS : St Tru ws_X5_noBlock_6_w10 as_X5_noBlock_6_w10 M0 M0 := St.rf hI
  refine Tr.aload_n (pc := 0) (i := 0) d_X5_noBlock_0 rfl rfl ?_
  refine Tr.bipush (pc := 1) d_X5_noBlock_1 rfl (by decide) ?_
  refine Tr.callV (pc := 3) (as := [_]) d_X5_noBlock_3 s_5_71 ok_X5_isOwn rfl rfl (Nat.le_of_ble_eq_true rfl) (Nat.le_of_ble_eq_true rfl) (by decide) (ty_6 hS.1.1) ?_
  refine Tr.imp (Tr.deep (by decide) (sp_X5_isOwn_6 hS.1 ((St.kp hS (by decide) (by decide) (by decide)).trans en_6_2) 13 (by omega))) ?_
  rintro M3 _ ⟨h3, r3, rfl, lr3, ur3⟩
  have hS := St.tr hS h3 (by decide) (by decide)
  refine Tr.sc [(0, r3)] rfl ?_
  refine Tr.if_ne (pc := 6) (tgt := 11) d_X5_noBlock_6 rfl (fun c6 => ?_) (fun c6 => ?_)
  · refine Tr.aload_n (pc := 11) (i := 0) d_X5_noBlock_11 rfl rfl ?_
    refine Tr.callV (pc := 12) (as := []) d_X5_noBlock_12 s_5_74 ok_X5_goOn rfl rfl (Nat.le_of_ble_eq_true rfl) (Nat.le_of_ble_eq_true rfl) (by decide) (ty_6 hS.1.1) ?_
    refine Tr.imp (Tr.deep (by decide) (sp_X5_goOn_6 hS.1 )) ?_
    rintro M12 _ ⟨h12, r12, rfl, lr12, ur12⟩
    have hS := St.tr hS h12 (by decide) (by decide)
    refine Tr.sc [(0, r12)] rfl ?_
    refine Tr.pop (pc := 15) d_X5_noBlock_15 ne01 ?_
    refine Tr.aload_n (pc := 16) (i := 0) d_X5_noBlock_16 rfl rfl ?_
    refine Tr.iload_n (pc := 17) (i := 1) d_X5_noBlock_17 rfl rfl ?_
    refine Tr.callV (pc := 18) (as := [_]) d_X5_noBlock_18 s_5_197 ok_X5_block rfl rfl (Nat.le_of_ble_eq_true rfl) (Nat.le_of_ble_eq_true rfl) (by decide) (ty_6 hS.1.1) ?_
    refine Tr.imp (Tr.deep (by decide) (sp_X5_block_6_w14 hS.1 hE ((St.kp hS (by decide) (by decide) (by decide)).trans en_6_2) ((St.kp hS (by decide) (by decide) (by decide)).trans en_6_3) ((St.kp hS (by decide) (by decide) (by decide)).trans en_6_4) ((St.kp h12 (by decide) (by decide) (by decide)).trans ((St.kp h3 (by decide) (by decide) (by decide)).trans en_6_6)) a1 (by omega))) ?_
    rintro M18 _ ⟨h18, r18, rfl, lr18, ur18, x18_6_6⟩
    have hS := St.tr hS h18 (by decide) (by decide)
    refine Tr.sc [(0, r18)] rfl ?_
    refine Tr.istore_n (pc := 21) (i := 2) (ls2 := [(2, (0, r18)), (0, (2, 6)), (1, (0, a1))]) d_X5_noBlock_21 rfl (by decide) rfl ?_
    refine Tr.aload_n (pc := 22) (i := 0) d_X5_noBlock_22 rfl rfl ?_
    refine Tr.getf (pc := 23) d_X5_noBlock_23 f_5_32 (by decide) (by decide) (ty_6 hS.1.1) ?_
    refine Tr.tp 15 ((St.kp hS (by decide) (by decide) (by decide)).trans en_6_4) ?_
    refine Tr.getf (pc := 26) d_X5_noBlock_26 f_5_203 (by decide) (by decide) (ty_15 hS.1.1) ?_
    refine Tr.tp 20 (fx_15_5 hS.1.1) ?_
    refine Tr.iload_n (pc := 29) (i := 1) d_X5_noBlock_29 rfl rfl ?_
    refine Tr.iload_n (pc := 30) (i := 2) d_X5_noBlock_30 rfl rfl ?_
    refine Tr.iastS (pc := 31) (P := St Tru ws_X5_noBlock_6_w10 as_X5_noBlock_6_w10 M0) d_X5_noBlock_31 (ty_20 hS.1.1) (by omega) (by omega) (sa_20 hS (by decide) (by omega) trivial) (fun M31 hS w31 => ?_)
    refine Tr.iload_n (pc := 32) (i := 2) d_X5_noBlock_32 rfl rfl ?_
    refine Tr.bipush (pc := 33) d_X5_noBlock_33 rfl (by decide) ?_
    refine Tr.icmp_eq (pc := 35) (tgt := 42) d_X5_noBlock_35 rfl (fun c35 => ?_) (fun c35 => ?_)
    · refine Tr.iconst (pc := 42) d_X5_noBlock_42 (by decide) ?_
      exact Tr.zret (pc := 43) d_X5_noBlock_43 rfl (by omega) ⟨hS, _, rfl, by omega, by omega, fun hq => absurd hq (by omega)⟩
    · refine Tr.iconst (pc := 38) d_X5_noBlock_38 (by decide) ?_
      refine Tr.goto (pc := 39) (tgt := 43) d_X5_noBlock_39 rfl ?_
      exact Tr.zret (pc := 43) d_X5_noBlock_43 rfl (by omega) ⟨hS, _, rfl, by omega, by omega, fun _ => ((Wr.b w31 rfl).trans (x18_6_6 (by omega)))⟩
  · refine Tr.iconst (pc := 9) d_X5_noBlock_9 (by decide) ?_
    exact Tr.zret (pc := 10) d_X5_noBlock_10 rfl (by omega) ⟨hS, _, rfl, by omega, by omega, fun _ => ((St.kp h3 (by decide) (by decide) (by decide)).trans en_6_6)⟩

def ws_X5_order_6_w14 : List (Int × Int) := [(6, 0), (6, 1), (6, 5), (6, 6), (15, 0), (15, 11)]
def as_X5_order_6_w14 : List Int := [16, 17, 18, 19, 20, 21, 22, 24, 25]
def q_X5_order_6_w14 (M0 M' : Mem) (r : Option PV) : Prop := St Tru ws_X5_order_6_w14 as_X5_order_6_w14 M0 M' ∧ ∃ v : Int, r = some (0, v) ∧ 0 ≤ v ∧ v ≤ 1 ∧ ((1 ≤ v ∧ v ≤ 1) → rd M' 6 6 = 5)
set_option maxRecDepth 100000 in
set_option maxHeartbeats 4000000 in
theorem sp_X5_order_6_w14 {l : Launch} {K : EC} {M0 : Mem} {xq : Int} (hI : In Tru M0) (hE : e_all K xq) (en_6_2 : rd M0 6 2 = 2) (en_6_3 : rd M0 6 3 = 7) (en_6_4 : rd M0 6 4 = 15) (en_6_6 : rd M0 6 6 = 5) (a1 : Int) (ha1 : 0 ≤ a1 ∧ a1 ≤ 59)  : Tr l K 22 mX5_order 0 [(0, (2, 6)), (1, (0, a1))] [] M0 (q_X5_order_6_w14 M0) := by
  have hS : St Tru ws_X5_order_6_w14 as_X5_order_6_w14 M0 M0 := St.rf hI
  refine Tr.aload_n (pc := 0) (i := 0) d_X5_order_0 rfl rfl ?_
  refine Tr.getf (pc := 1) d_X5_order_1 f_5_32 (by decide) (by decide) (ty_6 hS.1.1) ?_
  refine Tr.tp 15 ((St.kp hS (by decide) (by decide) (by decide)).trans en_6_4) ?_
  refine Tr.getf (pc := 4) d_X5_order_4 f_5_169 (by decide) (by decide) (ty_15 hS.1.1) ?_
  refine Tr.tp 16 (fx_15_1 hS.1.1) ?_
  refine Tr.iload_n (pc := 7) (i := 1) d_X5_order_7 rfl rfl ?_
  refine Tr.iald (pc := 8) d_X5_order_8 (ty_16 hS.1.1) (by omega) (by omega) ?_
  refine Tr.gen (P := fun v => (-2147483648) ≤ v ∧ v ≤ 2147483647) (ar_16 hS.1.2.1 _) (fun r8 er8 br8 => ?_)
  rcases (show (r8 < 5 ∨ 11 < r8) ∨ r8 = 5 ∨ r8 = 6 ∨ r8 = 7 ∨ r8 = 8 ∨ r8 = 9 ∨ r8 = 10 ∨ r8 = 11 by omega) with c9 | c9 | c9 | c9 | c9 | c9 | c9 | c9
  · refine Tr.tswOut (pc := 9) (tgt := 198) d_X5_order_9 c9 rfl ?_
    refine Tr.aload_n (pc := 198) (i := 0) d_X5_order_198 rfl rfl ?_
    refine Tr.callV (pc := 199) (as := []) d_X5_order_199 s_5_177 ok_X5_test rfl rfl (Nat.le_of_ble_eq_true rfl) (Nat.le_of_ble_eq_true rfl) (by decide) (ty_6 hS.1.1) ?_
    refine Tr.imp (Tr.deep (by decide) (sp_X5_test_6_w14 hS.1 hE ((St.kp hS (by decide) (by decide) (by decide)).trans en_6_2) ((St.kp hS (by decide) (by decide) (by decide)).trans en_6_3) ((St.kp hS (by decide) (by decide) (by decide)).trans en_6_4) en_6_6)) ?_
    rintro M199 _ ⟨h199, r199, rfl, lr199, ur199, x199_6_6⟩
    have hS := St.tr hS h199 (by decide) (by decide)
    refine Tr.sc [(0, r199)] rfl ?_
    refine Tr.if_eq (pc := 202) (tgt := 217) d_X5_order_202 rfl (fun c202 => ?_) (fun c202 => ?_)
    · refine Tr.iconst (pc := 217) d_X5_order_217 (by decide) ?_
      exact Tr.zret (pc := 218) d_X5_order_218 rfl (by omega) ⟨hS, _, rfl, by omega, by omega, fun hq => absurd hq (by omega)⟩
    · refine Tr.aload_n (pc := 205) (i := 0) d_X5_order_205 rfl rfl ?_
      refine Tr.iload_n (pc := 206) (i := 1) d_X5_order_206 rfl rfl ?_
      refine Tr.callV (pc := 207) (as := [_]) d_X5_order_207 s_5_180 ok_X5_yesBlock rfl rfl (Nat.le_of_ble_eq_true rfl) (Nat.le_of_ble_eq_true rfl) (by decide) (ty_6 hS.1.1) ?_
      refine Tr.imp (Tr.deep (by decide) (sp_X5_yesBlock_6_w14 hS.1 hE ((St.kp hS (by decide) (by decide) (by decide)).trans en_6_2) ((St.kp hS (by decide) (by decide) (by decide)).trans en_6_3) ((St.kp hS (by decide) (by decide) (by decide)).trans en_6_4) (x199_6_6 (by omega)) a1 (by omega))) ?_
      rintro M207 _ ⟨h207, r207, rfl, lr207, ur207, x207_6_6⟩
      have hS := St.tr hS h207 (by decide) (by decide)
      refine Tr.sc [(0, r207)] rfl ?_
      refine Tr.if_eq (pc := 210) (tgt := 217) d_X5_order_210 rfl (fun c210 => ?_) (fun c210 => ?_)
      · refine Tr.iconst (pc := 217) d_X5_order_217 (by decide) ?_
        exact Tr.zret (pc := 218) d_X5_order_218 rfl (by omega) ⟨hS, _, rfl, by omega, by omega, fun hq => absurd hq (by omega)⟩
      · refine Tr.iconst (pc := 213) d_X5_order_213 (by decide) ?_
        refine Tr.goto (pc := 214) (tgt := 218) d_X5_order_214 rfl ?_
        exact Tr.zret (pc := 218) d_X5_order_218 rfl (by omega) ⟨hS, _, rfl, by omega, by omega, fun _ => (x207_6_6 (by omega))⟩
  · refine Tr.tp 5 c9 ?_
    refine Tr.tswIn (pc := 9) (off := 43) (tgt := 52) d_X5_order_9 (by decide) (by decide) rfl rfl ?_
    refine Tr.aload_n (pc := 52) (i := 0) d_X5_order_52 rfl rfl ?_
    refine Tr.iload_n (pc := 53) (i := 1) d_X5_order_53 rfl rfl ?_
    refine Tr.iconst (pc := 54) d_X5_order_54 (by decide) ?_
    refine Tr.callV (pc := 55) (as := [_, _]) d_X5_order_55 s_5_170 ok_X5_about rfl rfl (Nat.le_of_ble_eq_true rfl) (Nat.le_of_ble_eq_true rfl) (by decide) (ty_6 hS.1.1) ?_
    refine Tr.imp (Tr.deep (by decide) (sp_X5_about_6_v2_w1 hS.1 hE ((St.kp hS (by decide) (by decide) (by decide)).trans en_6_2) ((St.kp hS (by decide) (by decide) (by decide)).trans en_6_3) ((St.kp hS (by decide) (by decide) (by decide)).trans en_6_4) a1 (by omega))) ?_
    rintro M55 _ ⟨h55, r55, rfl, lr55, ur55⟩
    have hS := St.tr hS h55 (by decide) (by decide)
    refine Tr.sc [(0, r55)] rfl ?_
    refine Tr.if_eq (pc := 58) (tgt := 90) d_X5_order_58 rfl (fun c58 => ?_) (fun c58 => ?_)
    · refine Tr.iconst (pc := 90) d_X5_order_90 (by decide) ?_
      exact Tr.zret (pc := 91) d_X5_order_91 rfl (by omega) ⟨hS, _, rfl, by omega, by omega, fun hq => absurd hq (by omega)⟩
    · refine Tr.aload_n (pc := 61) (i := 0) d_X5_order_61 rfl rfl ?_
      refine Tr.bipush (pc := 62) d_X5_order_62 rfl (by decide) ?_
      refine Tr.callV (pc := 64) (as := [_]) d_X5_order_64 s_5_81 ok_X5_takeSign rfl rfl (Nat.le_of_ble_eq_true rfl) (Nat.le_of_ble_eq_true rfl) (by decide) (ty_6 hS.1.1) ?_
      refine Tr.imp (Tr.deep (by decide) (sp_X5_takeSign_6_w3 hS.1 ((St.kp hS (by decide) (by decide) (by decide)).trans en_6_2) 61 (by omega))) ?_
      rintro M64 _ ⟨h64, r64, rfl, lr64, ur64⟩
      have hS := St.tr hS h64 (by decide) (by decide)
      refine Tr.sc [(0, r64)] rfl ?_
      refine Tr.if_eq (pc := 67) (tgt := 90) d_X5_order_67 rfl (fun c67 => ?_) (fun c67 => ?_)
      · refine Tr.iconst (pc := 90) d_X5_order_90 (by decide) ?_
        exact Tr.zret (pc := 91) d_X5_order_91 rfl (by omega) ⟨hS, _, rfl, by omega, by omega, fun hq => absurd hq (by omega)⟩
      · refine Tr.aload_n (pc := 70) (i := 0) d_X5_order_70 rfl rfl ?_
        refine Tr.callV (pc := 71) (as := []) d_X5_order_71 s_5_174 ok_X5_sum rfl rfl (Nat.le_of_ble_eq_true rfl) (Nat.le_of_ble_eq_true rfl) (by decide) (ty_6 hS.1.1) ?_
        refine Tr.imp (Tr.deep (by decide) (sp_X5_sum_6_w14 hS.1 hE ((St.kp hS (by decide) (by decide) (by decide)).trans en_6_2) ((St.kp hS (by decide) (by decide) (by decide)).trans en_6_3) ((St.kp hS (by decide) (by decide) (by decide)).trans en_6_4) ((St.kp h64 (by decide) (by decide) (by decide)).trans ((St.kp h55 (by decide) (by decide) (by decide)).trans en_6_6)))) ?_
        rintro M71 _ ⟨h71, r71, rfl, lr71, ur71, x71_6_6⟩
        have hS := St.tr hS h71 (by decide) (by decide)
        refine Tr.sc [(0, r71)] rfl ?_
        refine Tr.if_eq (pc := 74) (tgt := 90) d_X5_order_74 rfl (fun c74 => ?_) (fun c74 => ?_)
        · refine Tr.iconst (pc := 90) d_X5_order_90 (by decide) ?_
          exact Tr.zret (pc := 91) d_X5_order_91 rfl (by omega) ⟨hS, _, rfl, by omega, by omega, fun hq => absurd hq (by omega)⟩
        · refine Tr.aload_n (pc := 77) (i := 0) d_X5_order_77 rfl rfl ?_
          refine Tr.bipush (pc := 78) d_X5_order_78 rfl (by decide) ?_
          refine Tr.callV (pc := 80) (as := [_]) d_X5_order_80 s_5_81 ok_X5_takeSign rfl rfl (Nat.le_of_ble_eq_true rfl) (Nat.le_of_ble_eq_true rfl) (by decide) (ty_6 hS.1.1) ?_
          refine Tr.imp (Tr.deep (by decide) (sp_X5_takeSign_6 hS.1 ((St.kp hS (by decide) (by decide) (by decide)).trans en_6_2) 59 (by omega))) ?_
          rintro M80 _ ⟨h80, r80, rfl, lr80, ur80⟩
          have hS := St.tr hS h80 (by decide) (by decide)
          refine Tr.sc [(0, r80)] rfl ?_
          refine Tr.if_eq (pc := 83) (tgt := 90) d_X5_order_83 rfl (fun c83 => ?_) (fun c83 => ?_)
          · refine Tr.iconst (pc := 90) d_X5_order_90 (by decide) ?_
            exact Tr.zret (pc := 91) d_X5_order_91 rfl (by omega) ⟨hS, _, rfl, by omega, by omega, fun hq => absurd hq (by omega)⟩
          · refine Tr.iconst (pc := 86) d_X5_order_86 (by decide) ?_
            refine Tr.goto (pc := 87) (tgt := 91) d_X5_order_87 rfl ?_
            exact Tr.zret (pc := 91) d_X5_order_91 rfl (by omega) ⟨hS, _, rfl, by omega, by omega, fun _ => ((St.kp h80 (by decide) (by decide) (by decide)).trans (x71_6_6 (by omega)))⟩
  · refine Tr.tp 6 c9 ?_
    refine Tr.tswIn (pc := 9) (off := 83) (tgt := 92) d_X5_order_9 (by decide) (by decide) rfl rfl ?_
    refine Tr.aload_n (pc := 92) (i := 0) d_X5_order_92 rfl rfl ?_
    refine Tr.iload_n (pc := 93) (i := 1) d_X5_order_93 rfl rfl ?_
    refine Tr.iconst (pc := 94) d_X5_order_94 (by decide) ?_
    refine Tr.callV (pc := 95) (as := [_, _]) d_X5_order_95 s_5_170 ok_X5_about rfl rfl (Nat.le_of_ble_eq_true rfl) (Nat.le_of_ble_eq_true rfl) (by decide) (ty_6 hS.1.1) ?_
    refine Tr.imp (Tr.deep (by decide) (sp_X5_about_6_v0_w1 hS.1 hE ((St.kp hS (by decide) (by decide) (by decide)).trans en_6_2) ((St.kp hS (by decide) (by decide) (by decide)).trans en_6_3) ((St.kp hS (by decide) (by decide) (by decide)).trans en_6_4) a1 (by omega))) ?_
    rintro M95 _ ⟨h95, r95, rfl, lr95, ur95⟩
    have hS := St.tr hS h95 (by decide) (by decide)
    refine Tr.sc [(0, r95)] rfl ?_
    refine Tr.if_eq (pc := 98) (tgt := 121) d_X5_order_98 rfl (fun c98 => ?_) (fun c98 => ?_)
    · refine Tr.iconst (pc := 121) d_X5_order_121 (by decide) ?_
      exact Tr.zret (pc := 122) d_X5_order_122 rfl (by omega) ⟨hS, _, rfl, by omega, by omega, fun hq => absurd hq (by omega)⟩
    · refine Tr.aload_n (pc := 101) (i := 0) d_X5_order_101 rfl rfl ?_
      refine Tr.callV (pc := 102) (as := []) d_X5_order_102 s_5_174 ok_X5_sum rfl rfl (Nat.le_of_ble_eq_true rfl) (Nat.le_of_ble_eq_true rfl) (by decide) (ty_6 hS.1.1) ?_
      refine Tr.imp (Tr.deep (by decide) (sp_X5_sum_6_w14 hS.1 hE ((St.kp hS (by decide) (by decide) (by decide)).trans en_6_2) ((St.kp hS (by decide) (by decide) (by decide)).trans en_6_3) ((St.kp hS (by decide) (by decide) (by decide)).trans en_6_4) ((St.kp h95 (by decide) (by decide) (by decide)).trans en_6_6))) ?_
      rintro M102 _ ⟨h102, r102, rfl, lr102, ur102, x102_6_6⟩
      have hS := St.tr hS h102 (by decide) (by decide)
      refine Tr.sc [(0, r102)] rfl ?_
      refine Tr.if_eq (pc := 105) (tgt := 121) d_X5_order_105 rfl (fun c105 => ?_) (fun c105 => ?_)
      · refine Tr.iconst (pc := 121) d_X5_order_121 (by decide) ?_
        exact Tr.zret (pc := 122) d_X5_order_122 rfl (by omega) ⟨hS, _, rfl, by omega, by omega, fun hq => absurd hq (by omega)⟩
      · refine Tr.aload_n (pc := 108) (i := 0) d_X5_order_108 rfl rfl ?_
        refine Tr.bipush (pc := 109) d_X5_order_109 rfl (by decide) ?_
        refine Tr.callV (pc := 111) (as := [_]) d_X5_order_111 s_5_81 ok_X5_takeSign rfl rfl (Nat.le_of_ble_eq_true rfl) (Nat.le_of_ble_eq_true rfl) (by decide) (ty_6 hS.1.1) ?_
        refine Tr.imp (Tr.deep (by decide) (sp_X5_takeSign_6 hS.1 ((St.kp hS (by decide) (by decide) (by decide)).trans en_6_2) 59 (by omega))) ?_
        rintro M111 _ ⟨h111, r111, rfl, lr111, ur111⟩
        have hS := St.tr hS h111 (by decide) (by decide)
        refine Tr.sc [(0, r111)] rfl ?_
        refine Tr.if_eq (pc := 114) (tgt := 121) d_X5_order_114 rfl (fun c114 => ?_) (fun c114 => ?_)
        · refine Tr.iconst (pc := 121) d_X5_order_121 (by decide) ?_
          exact Tr.zret (pc := 122) d_X5_order_122 rfl (by omega) ⟨hS, _, rfl, by omega, by omega, fun hq => absurd hq (by omega)⟩
        · refine Tr.iconst (pc := 117) d_X5_order_117 (by decide) ?_
          refine Tr.goto (pc := 118) (tgt := 122) d_X5_order_118 rfl ?_
          exact Tr.zret (pc := 122) d_X5_order_122 rfl (by omega) ⟨hS, _, rfl, by omega, by omega, fun _ => ((St.kp h111 (by decide) (by decide) (by decide)).trans (x102_6_6 (by omega)))⟩
  · refine Tr.tp 7 c9 ?_
    refine Tr.tswIn (pc := 9) (off := 114) (tgt := 123) d_X5_order_9 (by decide) (by decide) rfl rfl ?_
    refine Tr.aload_n (pc := 123) (i := 0) d_X5_order_123 rfl rfl ?_
    refine Tr.iload_n (pc := 124) (i := 1) d_X5_order_124 rfl rfl ?_
    refine Tr.iconst (pc := 125) d_X5_order_125 (by decide) ?_
    refine Tr.callV (pc := 126) (as := [_, _]) d_X5_order_126 s_5_170 ok_X5_about rfl rfl (Nat.le_of_ble_eq_true rfl) (Nat.le_of_ble_eq_true rfl) (by decide) (ty_6 hS.1.1) ?_
    refine Tr.imp (Tr.deep (by decide) (sp_X5_about_6_v0_w1 hS.1 hE ((St.kp hS (by decide) (by decide) (by decide)).trans en_6_2) ((St.kp hS (by decide) (by decide) (by decide)).trans en_6_3) ((St.kp hS (by decide) (by decide) (by decide)).trans en_6_4) a1 (by omega))) ?_
    rintro M126 _ ⟨h126, r126, rfl, lr126, ur126⟩
    have hS := St.tr hS h126 (by decide) (by decide)
    refine Tr.sc [(0, r126)] rfl ?_
    refine Tr.if_eq (pc := 129) (tgt := 145) d_X5_order_129 rfl (fun c129 => ?_) (fun c129 => ?_)
    · refine Tr.iconst (pc := 145) d_X5_order_145 (by decide) ?_
      exact Tr.zret (pc := 146) d_X5_order_146 rfl (by omega) ⟨hS, _, rfl, by omega, by omega, fun hq => absurd hq (by omega)⟩
    · refine Tr.aload_n (pc := 132) (i := 0) d_X5_order_132 rfl rfl ?_
      refine Tr.bipush (pc := 133) d_X5_order_133 rfl (by decide) ?_
      refine Tr.callV (pc := 135) (as := [_]) d_X5_order_135 s_5_81 ok_X5_takeSign rfl rfl (Nat.le_of_ble_eq_true rfl) (Nat.le_of_ble_eq_true rfl) (by decide) (ty_6 hS.1.1) ?_
      refine Tr.imp (Tr.deep (by decide) (sp_X5_takeSign_6 hS.1 ((St.kp hS (by decide) (by decide) (by decide)).trans en_6_2) 59 (by omega))) ?_
      rintro M135 _ ⟨h135, r135, rfl, lr135, ur135⟩
      have hS := St.tr hS h135 (by decide) (by decide)
      refine Tr.sc [(0, r135)] rfl ?_
      refine Tr.if_eq (pc := 138) (tgt := 145) d_X5_order_138 rfl (fun c138 => ?_) (fun c138 => ?_)
      · refine Tr.iconst (pc := 145) d_X5_order_145 (by decide) ?_
        exact Tr.zret (pc := 146) d_X5_order_146 rfl (by omega) ⟨hS, _, rfl, by omega, by omega, fun hq => absurd hq (by omega)⟩
      · refine Tr.iconst (pc := 141) d_X5_order_141 (by decide) ?_
        refine Tr.goto (pc := 142) (tgt := 146) d_X5_order_142 rfl ?_
        exact Tr.zret (pc := 146) d_X5_order_146 rfl (by omega) ⟨hS, _, rfl, by omega, by omega, fun _ => ((St.kp h135 (by decide) (by decide) (by decide)).trans ((St.kp h126 (by decide) (by decide) (by decide)).trans en_6_6))⟩
  · refine Tr.tp 8 c9 ?_
    refine Tr.tswIn (pc := 9) (off := 114) (tgt := 123) d_X5_order_9 (by decide) (by decide) rfl rfl ?_
    refine Tr.aload_n (pc := 123) (i := 0) d_X5_order_123 rfl rfl ?_
    refine Tr.iload_n (pc := 124) (i := 1) d_X5_order_124 rfl rfl ?_
    refine Tr.iconst (pc := 125) d_X5_order_125 (by decide) ?_
    refine Tr.callV (pc := 126) (as := [_, _]) d_X5_order_126 s_5_170 ok_X5_about rfl rfl (Nat.le_of_ble_eq_true rfl) (Nat.le_of_ble_eq_true rfl) (by decide) (ty_6 hS.1.1) ?_
    refine Tr.imp (Tr.deep (by decide) (sp_X5_about_6_v0_w1 hS.1 hE ((St.kp hS (by decide) (by decide) (by decide)).trans en_6_2) ((St.kp hS (by decide) (by decide) (by decide)).trans en_6_3) ((St.kp hS (by decide) (by decide) (by decide)).trans en_6_4) a1 (by omega))) ?_
    rintro M126 _ ⟨h126, r126, rfl, lr126, ur126⟩
    have hS := St.tr hS h126 (by decide) (by decide)
    refine Tr.sc [(0, r126)] rfl ?_
    refine Tr.if_eq (pc := 129) (tgt := 145) d_X5_order_129 rfl (fun c129 => ?_) (fun c129 => ?_)
    · refine Tr.iconst (pc := 145) d_X5_order_145 (by decide) ?_
      exact Tr.zret (pc := 146) d_X5_order_146 rfl (by omega) ⟨hS, _, rfl, by omega, by omega, fun hq => absurd hq (by omega)⟩
    · refine Tr.aload_n (pc := 132) (i := 0) d_X5_order_132 rfl rfl ?_
      refine Tr.bipush (pc := 133) d_X5_order_133 rfl (by decide) ?_
      refine Tr.callV (pc := 135) (as := [_]) d_X5_order_135 s_5_81 ok_X5_takeSign rfl rfl (Nat.le_of_ble_eq_true rfl) (Nat.le_of_ble_eq_true rfl) (by decide) (ty_6 hS.1.1) ?_
      refine Tr.imp (Tr.deep (by decide) (sp_X5_takeSign_6 hS.1 ((St.kp hS (by decide) (by decide) (by decide)).trans en_6_2) 59 (by omega))) ?_
      rintro M135 _ ⟨h135, r135, rfl, lr135, ur135⟩
      have hS := St.tr hS h135 (by decide) (by decide)
      refine Tr.sc [(0, r135)] rfl ?_
      refine Tr.if_eq (pc := 138) (tgt := 145) d_X5_order_138 rfl (fun c138 => ?_) (fun c138 => ?_)
      · refine Tr.iconst (pc := 145) d_X5_order_145 (by decide) ?_
        exact Tr.zret (pc := 146) d_X5_order_146 rfl (by omega) ⟨hS, _, rfl, by omega, by omega, fun hq => absurd hq (by omega)⟩
      · refine Tr.iconst (pc := 141) d_X5_order_141 (by decide) ?_
        refine Tr.goto (pc := 142) (tgt := 146) d_X5_order_142 rfl ?_
        exact Tr.zret (pc := 146) d_X5_order_146 rfl (by omega) ⟨hS, _, rfl, by omega, by omega, fun _ => ((St.kp h135 (by decide) (by decide) (by decide)).trans ((St.kp h126 (by decide) (by decide) (by decide)).trans en_6_6))⟩
  · refine Tr.tp 9 c9 ?_
    refine Tr.tswIn (pc := 9) (off := 138) (tgt := 147) d_X5_order_9 (by decide) (by decide) rfl rfl ?_
    refine Tr.aload_n (pc := 147) (i := 0) d_X5_order_147 rfl rfl ?_
    refine Tr.callV (pc := 148) (as := []) d_X5_order_148 s_5_174 ok_X5_sum rfl rfl (Nat.le_of_ble_eq_true rfl) (Nat.le_of_ble_eq_true rfl) (by decide) (ty_6 hS.1.1) ?_
    refine Tr.imp (Tr.deep (by decide) (sp_X5_sum_6_w14 hS.1 hE ((St.kp hS (by decide) (by decide) (by decide)).trans en_6_2) ((St.kp hS (by decide) (by decide) (by decide)).trans en_6_3) ((St.kp hS (by decide) (by decide) (by decide)).trans en_6_4) en_6_6)) ?_
    rintro M148 _ ⟨h148, r148, rfl, lr148, ur148, x148_6_6⟩
    have hS := St.tr hS h148 (by decide) (by decide)
    refine Tr.sc [(0, r148)] rfl ?_
    refine Tr.if_eq (pc := 151) (tgt := 167) d_X5_order_151 rfl (fun c151 => ?_) (fun c151 => ?_)
    · refine Tr.iconst (pc := 167) d_X5_order_167 (by decide) ?_
      exact Tr.zret (pc := 168) d_X5_order_168 rfl (by omega) ⟨hS, _, rfl, by omega, by omega, fun hq => absurd hq (by omega)⟩
    · refine Tr.aload_n (pc := 154) (i := 0) d_X5_order_154 rfl rfl ?_
      refine Tr.bipush (pc := 155) d_X5_order_155 rfl (by decide) ?_
      refine Tr.callV (pc := 157) (as := [_]) d_X5_order_157 s_5_81 ok_X5_takeSign rfl rfl (Nat.le_of_ble_eq_true rfl) (Nat.le_of_ble_eq_true rfl) (by decide) (ty_6 hS.1.1) ?_
      refine Tr.imp (Tr.deep (by decide) (sp_X5_takeSign_6 hS.1 ((St.kp hS (by decide) (by decide) (by decide)).trans en_6_2) 59 (by omega))) ?_
      rintro M157 _ ⟨h157, r157, rfl, lr157, ur157⟩
      have hS := St.tr hS h157 (by decide) (by decide)
      refine Tr.sc [(0, r157)] rfl ?_
      refine Tr.if_eq (pc := 160) (tgt := 167) d_X5_order_160 rfl (fun c160 => ?_) (fun c160 => ?_)
      · refine Tr.iconst (pc := 167) d_X5_order_167 (by decide) ?_
        exact Tr.zret (pc := 168) d_X5_order_168 rfl (by omega) ⟨hS, _, rfl, by omega, by omega, fun hq => absurd hq (by omega)⟩
      · refine Tr.iconst (pc := 163) d_X5_order_163 (by decide) ?_
        refine Tr.goto (pc := 164) (tgt := 168) d_X5_order_164 rfl ?_
        exact Tr.zret (pc := 168) d_X5_order_168 rfl (by omega) ⟨hS, _, rfl, by omega, by omega, fun _ => ((St.kp h157 (by decide) (by decide) (by decide)).trans (x148_6_6 (by omega)))⟩
  · refine Tr.tp 10 c9 ?_
    refine Tr.tswIn (pc := 9) (off := 138) (tgt := 147) d_X5_order_9 (by decide) (by decide) rfl rfl ?_
    refine Tr.aload_n (pc := 147) (i := 0) d_X5_order_147 rfl rfl ?_
    refine Tr.callV (pc := 148) (as := []) d_X5_order_148 s_5_174 ok_X5_sum rfl rfl (Nat.le_of_ble_eq_true rfl) (Nat.le_of_ble_eq_true rfl) (by decide) (ty_6 hS.1.1) ?_
    refine Tr.imp (Tr.deep (by decide) (sp_X5_sum_6_w14 hS.1 hE ((St.kp hS (by decide) (by decide) (by decide)).trans en_6_2) ((St.kp hS (by decide) (by decide) (by decide)).trans en_6_3) ((St.kp hS (by decide) (by decide) (by decide)).trans en_6_4) en_6_6)) ?_
    rintro M148 _ ⟨h148, r148, rfl, lr148, ur148, x148_6_6⟩
    have hS := St.tr hS h148 (by decide) (by decide)
    refine Tr.sc [(0, r148)] rfl ?_
    refine Tr.if_eq (pc := 151) (tgt := 167) d_X5_order_151 rfl (fun c151 => ?_) (fun c151 => ?_)
    · refine Tr.iconst (pc := 167) d_X5_order_167 (by decide) ?_
      exact Tr.zret (pc := 168) d_X5_order_168 rfl (by omega) ⟨hS, _, rfl, by omega, by omega, fun hq => absurd hq (by omega)⟩
    · refine Tr.aload_n (pc := 154) (i := 0) d_X5_order_154 rfl rfl ?_
      refine Tr.bipush (pc := 155) d_X5_order_155 rfl (by decide) ?_
      refine Tr.callV (pc := 157) (as := [_]) d_X5_order_157 s_5_81 ok_X5_takeSign rfl rfl (Nat.le_of_ble_eq_true rfl) (Nat.le_of_ble_eq_true rfl) (by decide) (ty_6 hS.1.1) ?_
      refine Tr.imp (Tr.deep (by decide) (sp_X5_takeSign_6 hS.1 ((St.kp hS (by decide) (by decide) (by decide)).trans en_6_2) 59 (by omega))) ?_
      rintro M157 _ ⟨h157, r157, rfl, lr157, ur157⟩
      have hS := St.tr hS h157 (by decide) (by decide)
      refine Tr.sc [(0, r157)] rfl ?_
      refine Tr.if_eq (pc := 160) (tgt := 167) d_X5_order_160 rfl (fun c160 => ?_) (fun c160 => ?_)
      · refine Tr.iconst (pc := 167) d_X5_order_167 (by decide) ?_
        exact Tr.zret (pc := 168) d_X5_order_168 rfl (by omega) ⟨hS, _, rfl, by omega, by omega, fun hq => absurd hq (by omega)⟩
      · refine Tr.iconst (pc := 163) d_X5_order_163 (by decide) ?_
        refine Tr.goto (pc := 164) (tgt := 168) d_X5_order_164 rfl ?_
        exact Tr.zret (pc := 168) d_X5_order_168 rfl (by omega) ⟨hS, _, rfl, by omega, by omega, fun _ => ((St.kp h157 (by decide) (by decide) (by decide)).trans (x148_6_6 (by omega)))⟩
  · refine Tr.tp 11 c9 ?_
    refine Tr.tswIn (pc := 9) (off := 160) (tgt := 169) d_X5_order_9 (by decide) (by decide) rfl rfl ?_
    refine Tr.aload_n (pc := 169) (i := 0) d_X5_order_169 rfl rfl ?_
    refine Tr.callV (pc := 170) (as := []) d_X5_order_170 s_5_177 ok_X5_test rfl rfl (Nat.le_of_ble_eq_true rfl) (Nat.le_of_ble_eq_true rfl) (by decide) (ty_6 hS.1.1) ?_
    refine Tr.imp (Tr.deep (by decide) (sp_X5_test_6_w14 hS.1 hE ((St.kp hS (by decide) (by decide) (by decide)).trans en_6_2) ((St.kp hS (by decide) (by decide) (by decide)).trans en_6_3) ((St.kp hS (by decide) (by decide) (by decide)).trans en_6_4) en_6_6)) ?_
    rintro M170 _ ⟨h170, r170, rfl, lr170, ur170, x170_6_6⟩
    have hS := St.tr hS h170 (by decide) (by decide)
    refine Tr.sc [(0, r170)] rfl ?_
    refine Tr.if_eq (pc := 173) (tgt := 196) d_X5_order_173 rfl (fun c173 => ?_) (fun c173 => ?_)
    · refine Tr.iconst (pc := 196) d_X5_order_196 (by decide) ?_
      exact Tr.zret (pc := 197) d_X5_order_197 rfl (by omega) ⟨hS, _, rfl, by omega, by omega, fun hq => absurd hq (by omega)⟩
    · refine Tr.aload_n (pc := 176) (i := 0) d_X5_order_176 rfl rfl ?_
      refine Tr.iload_n (pc := 177) (i := 1) d_X5_order_177 rfl rfl ?_
      refine Tr.callV (pc := 178) (as := [_]) d_X5_order_178 s_5_180 ok_X5_yesBlock rfl rfl (Nat.le_of_ble_eq_true rfl) (Nat.le_of_ble_eq_true rfl) (by decide) (ty_6 hS.1.1) ?_
      refine Tr.imp (Tr.deep (by decide) (sp_X5_yesBlock_6_w14 hS.1 hE ((St.kp hS (by decide) (by decide) (by decide)).trans en_6_2) ((St.kp hS (by decide) (by decide) (by decide)).trans en_6_3) ((St.kp hS (by decide) (by decide) (by decide)).trans en_6_4) (x170_6_6 (by omega)) a1 (by omega))) ?_
      rintro M178 _ ⟨h178, r178, rfl, lr178, ur178, x178_6_6⟩
      have hS := St.tr hS h178 (by decide) (by decide)
      refine Tr.sc [(0, r178)] rfl ?_
      refine Tr.if_eq (pc := 181) (tgt := 196) d_X5_order_181 rfl (fun c181 => ?_) (fun c181 => ?_)
      · refine Tr.iconst (pc := 196) d_X5_order_196 (by decide) ?_
        exact Tr.zret (pc := 197) d_X5_order_197 rfl (by omega) ⟨hS, _, rfl, by omega, by omega, fun hq => absurd hq (by omega)⟩
      · refine Tr.aload_n (pc := 184) (i := 0) d_X5_order_184 rfl rfl ?_
        refine Tr.iload_n (pc := 185) (i := 1) d_X5_order_185 rfl rfl ?_
        refine Tr.callV (pc := 186) (as := [_]) d_X5_order_186 s_5_183 ok_X5_noBlock rfl rfl (Nat.le_of_ble_eq_true rfl) (Nat.le_of_ble_eq_true rfl) (by decide) (ty_6 hS.1.1) ?_
        refine Tr.imp (Tr.deep (by decide) (sp_X5_noBlock_6_w10 hS.1 hE ((St.kp hS (by decide) (by decide) (by decide)).trans en_6_2) ((St.kp hS (by decide) (by decide) (by decide)).trans en_6_3) ((St.kp hS (by decide) (by decide) (by decide)).trans en_6_4) (x178_6_6 (by omega)) a1 (by omega))) ?_
        rintro M186 _ ⟨h186, r186, rfl, lr186, ur186, x186_6_6⟩
        have hS := St.tr hS h186 (by decide) (by decide)
        refine Tr.sc [(0, r186)] rfl ?_
        refine Tr.if_eq (pc := 189) (tgt := 196) d_X5_order_189 rfl (fun c189 => ?_) (fun c189 => ?_)
        · refine Tr.iconst (pc := 196) d_X5_order_196 (by decide) ?_
          exact Tr.zret (pc := 197) d_X5_order_197 rfl (by omega) ⟨hS, _, rfl, by omega, by omega, fun hq => absurd hq (by omega)⟩
        · refine Tr.iconst (pc := 192) d_X5_order_192 (by decide) ?_
          refine Tr.goto (pc := 193) (tgt := 197) d_X5_order_193 rfl ?_
          exact Tr.zret (pc := 197) d_X5_order_197 rfl (by omega) ⟨hS, _, rfl, by omega, by omega, fun _ => (x186_6_6 (by omega))⟩

def ws_X5_orders_6_w14 : List (Int × Int) := [(6, 0), (6, 1), (6, 5), (6, 6), (15, 0), (15, 11)]
def as_X5_orders_6_w14 : List Int := [16, 17, 18, 19, 20, 21, 22, 24, 25]
def q_X5_orders_6_w14 (M0 M' : Mem) (r : Option PV) : Prop := St Tru ws_X5_orders_6_w14 as_X5_orders_6_w14 M0 M' ∧ ∃ v : Int, r = some (0, v) ∧ (-2) ≤ v ∧ v ≤ 59 ∧ (((-1) ≤ v ∧ v ≤ 1000000) → rd M' 6 6 = 5)
set_option maxRecDepth 100000 in
set_option maxHeartbeats 4000000 in
theorem sp_X5_orders_6_w14 {l : Launch} {K : EC} {M0 : Mem} {xq : Int} (hI : In Tru M0) (hE : e_all K xq) (en_6_2 : rd M0 6 2 = 2) (en_6_3 : rd M0 6 3 = 7) (en_6_4 : rd M0 6 4 = 15) (en_6_6 : rd M0 6 6 = 5) (a1 : Int) (ha1 : 0 ≤ a1 ∧ a1 ≤ 59)  : Tr l K 23 mX5_orders 0 [(0, (2, 6)), (1, (0, a1))] [] M0 (q_X5_orders_6_w14 M0) := by
  have hS : St Tru ws_X5_orders_6_w14 as_X5_orders_6_w14 M0 M0 := St.rf hI
  refine Tr.iconst (pc := 0) d_X5_orders_0 (by decide) ?_
  refine Tr.istore_n (pc := 1) (i := 2) (ls2 := [(2, (0, (-1))), (0, (2, 6)), (1, (0, a1))]) d_X5_orders_1 rfl (by decide) rfl ?_
  refine Tr.iconst (pc := 2) d_X5_orders_2 (by decide) ?_
  refine Tr.istore_n (pc := 3) (i := 3) (ls2 := [(3, (0, (-1))), (2, (0, (-1))), (0, (2, 6)), (1, (0, a1))]) d_X5_orders_3 rfl (by decide) rfl ?_
  refine Tr.iconst (pc := 4) d_X5_orders_4 (by decide) ?_
  refine Tr.istore (pc := 5) (i := 4) (ls2 := [(4, (0, 0)), (3, (0, (-1))), (2, (0, (-1))), (0, (2, 6)), (1, (0, a1))]) d_X5_orders_5 (by decide) rfl ?_
  have J7 : ∀ (n7 : Nat) (M : Mem) (p7_2 p7_3 p7_4 : Int), St Tru ws_X5_orders_6_w14 as_X5_orders_6_w14 M0 M → ((-1) ≤ p7_2 ∧ p7_2 ≤ 59) → ((-1) ≤ p7_3 ∧ p7_3 ≤ 59) → (0 ≤ p7_4 ∧ p7_4 ≤ 61) → rd M 6 6 = 5 → (61 - p7_4).toNat < n7 → Tr l K 23 mX5_orders 7 [(0, (2, 6)), (1, (0, a1)), (2, (0, p7_2)), (3, (0, p7_3)), (4, (0, p7_4))] [] M (q_X5_orders_6_w14 M0) := by
    intro n7
    induction n7 with
    | zero => intro M p7_2 p7_3 p7_4 hS bp7_2 bp7_3 bp7_4 k7_6_6 hm7; exact absurd hm7 (Nat.not_lt_zero _)
    | succ n7 J7 =>
      intro M p7_2 p7_3 p7_4 hS bp7_2 bp7_3 bp7_4 k7_6_6 hm7
      refine Tr.iload (pc := 7) (i := 4) d_X5_orders_7 rfl ?_
      refine Tr.bipush (pc := 9) d_X5_orders_9 rfl (by decide) ?_
      refine Tr.icmp_gt (pc := 11) (tgt := 111) d_X5_orders_11 rfl (fun c11 => ?_) (fun c11 => ?_)
      · refine Tr.iload_n (pc := 111) (i := 2) d_X5_orders_111 rfl rfl ?_
        exact Tr.iret (pc := 112) d_X5_orders_112 rfl ⟨hS, _, rfl, by omega, by omega, fun _ => k7_6_6⟩
      · refine Tr.aload_n (pc := 14) (i := 0) d_X5_orders_14 rfl rfl ?_
        refine Tr.callV (pc := 15) (as := []) d_X5_orders_15 s_5_154 ok_X5_isOrder rfl rfl (Nat.le_of_ble_eq_true rfl) (Nat.le_of_ble_eq_true rfl) (by decide) (ty_6 hS.1.1) ?_
        refine Tr.imp (Tr.deep (by decide) (sp_X5_isOrder_6 hS.1 ((St.kp hS (by decide) (by decide) (by decide)).trans en_6_2))) ?_
        rintro M15 _ ⟨h15, r15, rfl, lr15, ur15⟩
        have hS := St.tr hS h15 (by decide) (by decide)
        refine Tr.sc [(0, r15)] rfl ?_
        refine Tr.if_eq (pc := 18) (tgt := 111) d_X5_orders_18 rfl (fun c18 => ?_) (fun c18 => ?_)
        · refine Tr.iload_n (pc := 111) (i := 2) d_X5_orders_111 rfl rfl ?_
          exact Tr.iret (pc := 112) d_X5_orders_112 rfl ⟨hS, _, rfl, by omega, by omega, fun _ => ((St.kp h15 (by decide) (by decide) (by decide)).trans k7_6_6)⟩
        · refine Tr.aload_n (pc := 21) (i := 0) d_X5_orders_21 rfl rfl ?_
          refine Tr.getf (pc := 22) d_X5_orders_22 f_5_32 (by decide) (by decide) (ty_6 hS.1.1) ?_
          refine Tr.tp 15 ((St.kp hS (by decide) (by decide) (by decide)).trans en_6_4) ?_
          refine Tr.getf (pc := 25) d_X5_orders_25 f_5_157 (by decide) (by decide) (ty_15 hS.1.1) ?_
          refine Tr.gen (P := fun v => 0 ≤ v ∧ v ≤ 60) (ir_15_0 hS.1.2.1) (fun r25 er25 br25 => ?_)
          refine Tr.bipush (pc := 28) d_X5_orders_28 rfl (by decide) ?_
          refine Tr.icmp_lt (pc := 30) (tgt := 42) d_X5_orders_30 rfl (fun c30 => ?_) (fun c30 => ?_)
          · refine Tr.aload_n (pc := 42) (i := 0) d_X5_orders_42 rfl rfl ?_
            refine Tr.getf (pc := 43) d_X5_orders_43 f_5_32 (by decide) (by decide) (ty_6 hS.1.1) ?_
            refine Tr.tp 15 ((St.kp hS (by decide) (by decide) (by decide)).trans en_6_4) ?_
            refine Tr.aload_n (pc := 46) (i := 0) d_X5_orders_46 rfl rfl ?_
            refine Tr.getf (pc := 47) d_X5_orders_47 f_5_18 (by decide) (by decide) (ty_6 hS.1.1) ?_
            refine Tr.tp 2 ((St.kp hS (by decide) (by decide) (by decide)).trans en_6_2) ?_
            refine Tr.getf (pc := 50) d_X5_orders_50 f_5_68 (by decide) (by decide) (ty_2 hS.1.1) ?_
            refine Tr.tp 5 (fx_2_2 hS.1.1) ?_
            refine Tr.aload_n (pc := 53) (i := 0) d_X5_orders_53 rfl rfl ?_
            refine Tr.getf (pc := 54) d_X5_orders_54 f_5_36 (by decide) (by decide) (ty_6 hS.1.1) ?_
            refine Tr.gen (P := fun v => 0 ≤ v ∧ v ≤ 900) (ir_6_5 hS.1.2.1) (fun r54 er54 br54 => ?_)
            refine Tr.iald (pc := 57) d_X5_orders_57 (ty_5 hS.1.1) (by omega) (by omega) ?_
            refine Tr.gen (P := fun v => (-2147483648) ≤ v ∧ v ≤ 2147483647) (ar_5 hS.1.2.1 _) (fun r57 er57 br57 => ?_)
            refine Tr.iload_n (pc := 58) (i := 1) d_X5_orders_58 rfl rfl ?_
            refine Tr.callV (pc := 59) (as := [_, _]) d_X5_orders_59 s_5_160 ok_X4_open rfl rfl (Nat.le_of_ble_eq_true rfl) (Nat.le_of_ble_eq_true rfl) (by decide) (ty_15 hS.1.1) ?_
            refine Tr.imp (Tr.deep (by decide) (sp_X4_open_15_w1 hS.1 r57 (by omega) a1 (by omega) (by have h9 := er25; omega))) ?_
            rintro M59 _ ⟨h59, r59, rfl, lr59, ur59⟩
            have hS := St.tr hS h59 (by decide) (by decide)
            refine Tr.sc [(0, r59)] rfl ?_
            refine Tr.istore (pc := 62) (i := 5) (ls2 := [(5, (0, r59)), (0, (2, 6)), (1, (0, a1)), (2, (0, p7_2)), (3, (0, p7_3)), (4, (0, p7_4))]) d_X5_orders_62 (by decide) rfl ?_
            refine Tr.iload_n (pc := 64) (i := 3) d_X5_orders_64 rfl rfl ?_
            have J85 : ∀ (M : Mem) (p85_2 : Int), St Tru ws_X5_orders_6_w14 as_X5_orders_6_w14 M0 M → ((-1) ≤ p85_2 ∧ p85_2 ≤ 59) → rd M 5 r54 = r57 → rd M 6 5 = r54 → rd M 6 6 = 5 → Tr l K 23 mX5_orders 85 [(0, (2, 6)), (1, (0, a1)), (2, (0, p85_2)), (4, (0, p7_4)), (5, (0, r59))] [] M (q_X5_orders_6_w14 M0) := by
              intro M p85_2 hS bp85_2 k85_5_r5410 k85_6_5 k85_6_6
              refine Tr.iload (pc := 85) (i := 5) d_X5_orders_85 rfl ?_
              refine Tr.istore_n (pc := 87) (i := 3) (ls2 := [(3, (0, r59)), (0, (2, 6)), (1, (0, a1)), (2, (0, p85_2)), (4, (0, p7_4)), (5, (0, r59))]) d_X5_orders_87 rfl (by decide) rfl ?_
              refine Tr.aload_n (pc := 88) (i := 0) d_X5_orders_88 rfl rfl ?_
              refine Tr.callV (pc := 89) (as := []) d_X5_orders_89 s_5_74 ok_X5_goOn rfl rfl (Nat.le_of_ble_eq_true rfl) (Nat.le_of_ble_eq_true rfl) (by decide) (ty_6 hS.1.1) ?_
              refine Tr.imp (Tr.deep (by decide) (sp_X5_goOn_6 hS.1 )) ?_
              rintro M89 _ ⟨h89, r89, rfl, lr89, ur89⟩
              have hS := St.tr hS h89 (by decide) (by decide)
              refine Tr.sc [(0, r89)] rfl ?_
              refine Tr.pop (pc := 92) d_X5_orders_92 ne01 ?_
              refine Tr.aload_n (pc := 93) (i := 0) d_X5_orders_93 rfl rfl ?_
              refine Tr.iload (pc := 94) (i := 5) d_X5_orders_94 rfl ?_
              refine Tr.callV (pc := 96) (as := [_]) d_X5_orders_96 s_5_166 ok_X5_order rfl rfl (Nat.le_of_ble_eq_true rfl) (Nat.le_of_ble_eq_true rfl) (by decide) (ty_6 hS.1.1) ?_
              refine Tr.imp (Tr.deep (by decide) (sp_X5_order_6_w14 hS.1 hE ((St.kp hS (by decide) (by decide) (by decide)).trans en_6_2) ((St.kp hS (by decide) (by decide) (by decide)).trans en_6_3) ((St.kp hS (by decide) (by decide) (by decide)).trans en_6_4) ((St.kp h89 (by decide) (by decide) (by decide)).trans k85_6_6) r59 (by omega))) ?_
              rintro M96 _ ⟨h96, r96, rfl, lr96, ur96, x96_6_6⟩
              have hS := St.tr hS h96 (by decide) (by decide)
              refine Tr.sc [(0, r96)] rfl ?_
              refine Tr.if_ne (pc := 99) (tgt := 105) d_X5_orders_99 rfl (fun c99 => ?_) (fun c99 => ?_)
              · refine Tr.iincV (pc := 105) (n2 := (p7_4 + 1)) (ls2 := [(4, (0, (p7_4 + 1))), (3, (0, r59)), (0, (2, 6)), (1, (0, a1)), (2, (0, p85_2)), (5, (0, r59))]) d_X5_orders_105 rfl (by decide) ((w32_id (by omega)).trans (by omega)) rfl ?_
                refine Tr.goto (pc := 108) (tgt := 7) d_X5_orders_108 rfl ?_
                refine Tr.pick [2, 3, 4, 1, 0] (ls2 := [(0, (2, 6)), (1, (0, a1)), (2, (0, p85_2)), (3, (0, r59)), (4, (0, (p7_4 + 1)))]) rfl ?_
                exact J7 _ _ _ _ hS (by omega) (by omega) (by omega) (x96_6_6 (by omega)) (by omega)
              · refine Tr.bipush (pc := 102) d_X5_orders_102 rfl (by decide) ?_
                exact Tr.iret (pc := 104) d_X5_orders_104 rfl ⟨hS, _, rfl, by omega, by omega, fun hq => absurd hq (by omega)⟩
            refine Tr.if_ge (pc := 65) (tgt := 74) d_X5_orders_65 rfl (fun c65 => ?_) (fun c65 => ?_)
            · refine Tr.aload_n (pc := 74) (i := 0) d_X5_orders_74 rfl rfl ?_
              refine Tr.getf (pc := 75) d_X5_orders_75 f_5_32 (by decide) (by decide) (ty_6 hS.1.1) ?_
              refine Tr.tp 15 ((St.kp hS (by decide) (by decide) (by decide)).trans en_6_4) ?_
              refine Tr.getf (pc := 78) d_X5_orders_78 f_5_163 (by decide) (by decide) (ty_15 hS.1.1) ?_
              refine Tr.tp 21 (fx_15_6 hS.1.1) ?_
              refine Tr.iload_n (pc := 81) (i := 3) d_X5_orders_81 rfl rfl ?_
              refine Tr.iload (pc := 82) (i := 5) d_X5_orders_82 rfl ?_
              refine Tr.iastS (pc := 84) (P := St Tru ws_X5_orders_6_w14 as_X5_orders_6_w14 M0) d_X5_orders_84 (ty_21 hS.1.1) (by omega) (by omega) (sa_21 hS (by decide) (by omega) trivial) (fun M84 hS w84 => ?_)
              refine Tr.pick [1, 2, 3, 5, 0] (ls2 := [(0, (2, 6)), (1, (0, a1)), (2, (0, p7_2)), (4, (0, p7_4)), (5, (0, r59))]) rfl ?_
              exact J85 _ _ hS (by omega) ((Wr.b w84 rfl).trans ((St.ka h59 (by decide) (by decide) (by decide)).trans er57)) ((Wr.b w84 rfl).trans ((St.kp h59 (by decide) (by decide) (by decide)).trans er54)) ((Wr.b w84 rfl).trans ((St.kp h59 (by decide) (by decide) (by decide)).trans ((St.kp h15 (by decide) (by decide) (by decide)).trans k7_6_6)))
            · refine Tr.iload (pc := 68) (i := 5) d_X5_orders_68 rfl ?_
              refine Tr.istore_n (pc := 70) (i := 2) (ls2 := [(2, (0, r59)), (5, (0, r59)), (0, (2, 6)), (1, (0, a1)), (3, (0, p7_3)), (4, (0, p7_4))]) d_X5_orders_70 rfl (by decide) rfl ?_
              refine Tr.goto (pc := 71) (tgt := 85) d_X5_orders_71 rfl ?_
              refine Tr.pick [2, 3, 0, 5, 1] (ls2 := [(0, (2, 6)), (1, (0, a1)), (2, (0, r59)), (4, (0, p7_4)), (5, (0, r59))]) rfl ?_
              exact J85 _ _ hS (by omega) ((St.ka h59 (by decide) (by decide) (by decide)).trans er57) ((St.kp h59 (by decide) (by decide) (by decide)).trans er54) ((St.kp h59 (by decide) (by decide) (by decide)).trans ((St.kp h15 (by decide) (by decide) (by decide)).trans k7_6_6))
          · refine Tr.aload_n (pc := 33) (i := 0) d_X5_orders_33 rfl rfl ?_
            refine Tr.iconst (pc := 34) d_X5_orders_34 (by decide) ?_
            refine Tr.callV (pc := 35) (as := [_]) d_X5_orders_35 s_5_56 ok_X5_refuse rfl rfl (Nat.le_of_ble_eq_true rfl) (Nat.le_of_ble_eq_true rfl) (by decide) (ty_6 hS.1.1) ?_
            refine Tr.imp (Tr.deep (by decide) (sp_X5_refuse_6_w2 hS.1 ((St.kp hS (by decide) (by decide) (by decide)).trans en_6_2) 5 (by omega))) ?_
            rintro M35 _ ⟨h35, r35, rfl, lr35, ur35⟩
            have hS := St.tr hS h35 (by decide) (by decide)
            refine Tr.sc [(0, r35)] rfl ?_
            refine Tr.pop (pc := 38) d_X5_orders_38 ne01 ?_
            refine Tr.bipush (pc := 39) d_X5_orders_39 rfl (by decide) ?_
            exact Tr.iret (pc := 41) d_X5_orders_41 rfl ⟨hS, _, rfl, by omega, by omega, fun hq => absurd hq (by omega)⟩
  refine Tr.pick [3, 4, 2, 1, 0] (ls2 := [(0, (2, 6)), (1, (0, a1)), (2, (0, (-1))), (3, (0, (-1))), (4, (0, 0))]) rfl ?_
  exact J7 _ _ _ _ _ hS (by omega) (by omega) (by omega) en_6_6 (Nat.lt_succ_self _)

def ws_X5_block_6_w13 : List (Int × Int) := [(6, 0), (6, 1), (6, 5), (6, 6), (15, 0), (15, 11)]
def as_X5_block_6_w13 : List Int := [16, 17, 18, 19, 20, 21, 22, 24, 25]
def q_X5_block_6_w13 (M0 M' : Mem) (r : Option PV) : Prop := St Tru ws_X5_block_6_w13 as_X5_block_6_w13 M0 M' ∧ ∃ v : Int, r = some (0, v) ∧ (-2) ≤ v ∧ v ≤ 59 ∧ (((-1) ≤ v ∧ v ≤ 1000000) → rd M' 6 6 = 4)
set_option maxRecDepth 100000 in
set_option maxHeartbeats 4000000 in
theorem sp_X5_block_6_w13 {l : Launch} {K : EC} {M0 : Mem} {xq : Int} (hI : In Tru M0) (hE : e_all K xq) (en_6_2 : rd M0 6 2 = 2) (en_6_3 : rd M0 6 3 = 7) (en_6_4 : rd M0 6 4 = 15) (en_6_6 : rd M0 6 6 = 4) (a1 : Int) (ha1 : 0 ≤ a1 ∧ a1 ≤ 59)  : Tr l K 24 mX5_block 0 [(0, (2, 6)), (1, (0, a1))] [] M0 (q_X5_block_6_w13 M0) := by
  have hS : St Tru ws_X5_block_6_w13 as_X5_block_6_w13 M0 M0 := St.rf hI
  refine Tr.aload_n (pc := 0) (i := 0) d_X5_block_0 rfl rfl ?_
  refine Tr.bipush (pc := 1) d_X5_block_1 rfl (by decide) ?_
  refine Tr.callV (pc := 3) (as := [_]) d_X5_block_3 s_5_206 ok_X5_takeOpening rfl rfl (Nat.le_of_ble_eq_true rfl) (Nat.le_of_ble_eq_true rfl) (by decide) (ty_6 hS.1.1) ?_
  refine Tr.imp (Tr.deep (by decide) (sp_X5_takeOpening_6_w22 hS.1 ((St.kp hS (by decide) (by decide) (by decide)).trans en_6_2) en_6_6 123 (by omega))) ?_
  rintro M3 _ ⟨h3, r3, rfl, lr3, ur3, x3_6_6⟩
  have hS := St.tr hS h3 (by decide) (by decide)
  refine Tr.sc [(0, r3)] rfl ?_
  refine Tr.if_ne (pc := 6) (tgt := 12) d_X5_block_6 rfl (fun c6 => ?_) (fun c6 => ?_)
  · refine Tr.aload_n (pc := 12) (i := 0) d_X5_block_12 rfl rfl ?_
    refine Tr.iload_n (pc := 13) (i := 1) d_X5_block_13 rfl rfl ?_
    refine Tr.callV (pc := 14) (as := [_]) d_X5_block_14 s_5_46 ok_X5_orders rfl rfl (Nat.le_of_ble_eq_true rfl) (Nat.le_of_ble_eq_true rfl) (by decide) (ty_6 hS.1.1) ?_
    refine Tr.imp (Tr.deep (by decide) (sp_X5_orders_6_w14 hS.1 hE ((St.kp hS (by decide) (by decide) (by decide)).trans en_6_2) ((St.kp hS (by decide) (by decide) (by decide)).trans en_6_3) ((St.kp hS (by decide) (by decide) (by decide)).trans en_6_4) (x3_6_6 (by omega)) a1 (by omega))) ?_
    rintro M14 _ ⟨h14, r14, rfl, lr14, ur14, x14_6_6⟩
    have hS := St.tr hS h14 (by decide) (by decide)
    refine Tr.sc [(0, r14)] rfl ?_
    refine Tr.istore_n (pc := 17) (i := 2) (ls2 := [(2, (0, r14)), (0, (2, 6)), (1, (0, a1))]) d_X5_block_17 rfl (by decide) rfl ?_
    refine Tr.iload_n (pc := 18) (i := 2) d_X5_block_18 rfl rfl ?_
    refine Tr.bipush (pc := 19) d_X5_block_19 rfl (by decide) ?_
    refine Tr.icmp_eq (pc := 21) (tgt := 33) d_X5_block_21 rfl (fun c21 => ?_) (fun c21 => ?_)
    · refine Tr.bipush (pc := 33) d_X5_block_33 rfl (by decide) ?_
      exact Tr.iret (pc := 35) d_X5_block_35 rfl ⟨hS, _, rfl, by omega, by omega, fun hq => absurd hq (by omega)⟩
    · refine Tr.aload_n (pc := 24) (i := 0) d_X5_block_24 rfl rfl ?_
      refine Tr.bipush (pc := 25) d_X5_block_25 rfl (by decide) ?_
      refine Tr.callV (pc := 27) (as := [_]) d_X5_block_27 s_5_209 ok_X5_takeClosing rfl rfl (Nat.le_of_ble_eq_true rfl) (Nat.le_of_ble_eq_true rfl) (by decide) (ty_6 hS.1.1) ?_
      refine Tr.imp (Tr.deep (by decide) (sp_X5_takeClosing_6_w19 hS.1 ((St.kp hS (by decide) (by decide) (by decide)).trans en_6_2) (x14_6_6 (by omega)) 125 (by omega))) ?_
      rintro M27 _ ⟨h27, r27, rfl, lr27, ur27, x27_6_6⟩
      have hS := St.tr hS h27 (by decide) (by decide)
      refine Tr.sc [(0, r27)] rfl ?_
      refine Tr.if_ne (pc := 30) (tgt := 36) d_X5_block_30 rfl (fun c30 => ?_) (fun c30 => ?_)
      · refine Tr.iload_n (pc := 36) (i := 2) d_X5_block_36 rfl rfl ?_
        exact Tr.iret (pc := 37) d_X5_block_37 rfl ⟨hS, _, rfl, by omega, by omega, fun _ => (x27_6_6 (by omega))⟩
      · refine Tr.bipush (pc := 33) d_X5_block_33 rfl (by decide) ?_
        exact Tr.iret (pc := 35) d_X5_block_35 rfl ⟨hS, _, rfl, by omega, by omega, fun hq => absurd hq (by omega)⟩
  · refine Tr.bipush (pc := 9) d_X5_block_9 rfl (by decide) ?_
    exact Tr.iret (pc := 11) d_X5_block_11 rfl ⟨hS, _, rfl, by omega, by omega, fun hq => absurd hq (by omega)⟩

def ws_X5_yesBlock_6_w13 : List (Int × Int) := [(6, 0), (6, 1), (6, 5), (6, 6), (15, 0), (15, 11)]
def as_X5_yesBlock_6_w13 : List Int := [16, 17, 18, 19, 20, 21, 22, 24, 25]
def q_X5_yesBlock_6_w13 (M0 M' : Mem) (r : Option PV) : Prop := St Tru ws_X5_yesBlock_6_w13 as_X5_yesBlock_6_w13 M0 M' ∧ ∃ v : Int, r = some (0, v) ∧ 0 ≤ v ∧ v ≤ 1 ∧ ((1 ≤ v ∧ v ≤ 1) → rd M' 6 6 = 4)
set_option maxRecDepth 100000 in
set_option maxHeartbeats 4000000 in
theorem sp_X5_yesBlock_6_w13 {l : Launch} {K : EC} {M0 : Mem} {xq : Int} (hI : In Tru M0) (hE : e_all K xq) (en_6_2 : rd M0 6 2 = 2) (en_6_3 : rd M0 6 3 = 7) (en_6_4 : rd M0 6 4 = 15) (en_6_6 : rd M0 6 6 = 4) (a1 : Int) (ha1 : 0 ≤ a1 ∧ a1 ≤ 59)  : Tr l K 25 mX5_yesBlock 0 [(0, (2, 6)), (1, (0, a1))] [] M0 (q_X5_yesBlock_6_w13 M0) := by
  have hS : St Tru ws_X5_yesBlock_6_w13 as_X5_yesBlock_6_w13 M0 M0 := St.rf hI
  refine Tr.aload_n (pc := 0) (i := 0) d_X5_yesBlock_0 rfl rfl ?_
  refine Tr.iload_n (pc := 1) (i := 1) d_X5_yesBlock_1 rfl rfl ?_
  refine Tr.callV (pc := 2) (as := [_]) d_X5_yesBlock_2 s_5_197 ok_X5_block rfl rfl (Nat.le_of_ble_eq_true rfl) (Nat.le_of_ble_eq_true rfl) (by decide) (ty_6 hS.1.1) ?_
  refine Tr.imp (Tr.deep (by decide) (sp_X5_block_6_w13 hS.1 hE ((St.kp hS (by decide) (by decide) (by decide)).trans en_6_2) ((St.kp hS (by decide) (by decide) (by decide)).trans en_6_3) ((St.kp hS (by decide) (by decide) (by decide)).trans en_6_4) en_6_6 a1 (by omega))) ?_
  rintro M2 _ ⟨h2, r2, rfl, lr2, ur2, x2_6_6⟩
  have hS := St.tr hS h2 (by decide) (by decide)
  refine Tr.sc [(0, r2)] rfl ?_
  refine Tr.istore_n (pc := 5) (i := 2) (ls2 := [(2, (0, r2)), (0, (2, 6)), (1, (0, a1))]) d_X5_yesBlock_5 rfl (by decide) rfl ?_
  refine Tr.aload_n (pc := 6) (i := 0) d_X5_yesBlock_6 rfl rfl ?_
  refine Tr.getf (pc := 7) d_X5_yesBlock_7 f_5_32 (by decide) (by decide) (ty_6 hS.1.1) ?_
  refine Tr.tp 15 ((St.kp hS (by decide) (by decide) (by decide)).trans en_6_4) ?_
  refine Tr.getf (pc := 10) d_X5_yesBlock_10 f_5_200 (by decide) (by decide) (ty_15 hS.1.1) ?_
  refine Tr.tp 19 (fx_15_4 hS.1.1) ?_
  refine Tr.iload_n (pc := 13) (i := 1) d_X5_yesBlock_13 rfl rfl ?_
  refine Tr.iload_n (pc := 14) (i := 2) d_X5_yesBlock_14 rfl rfl ?_
  refine Tr.iastS (pc := 15) (P := St Tru ws_X5_yesBlock_6_w13 as_X5_yesBlock_6_w13 M0) d_X5_yesBlock_15 (ty_19 hS.1.1) (by omega) (by omega) (sa_19 hS (by decide) (by omega) trivial) (fun M15 hS w15 => ?_)
  refine Tr.iload_n (pc := 16) (i := 2) d_X5_yesBlock_16 rfl rfl ?_
  refine Tr.bipush (pc := 17) d_X5_yesBlock_17 rfl (by decide) ?_
  refine Tr.icmp_eq (pc := 19) (tgt := 26) d_X5_yesBlock_19 rfl (fun c19 => ?_) (fun c19 => ?_)
  · refine Tr.iconst (pc := 26) d_X5_yesBlock_26 (by decide) ?_
    exact Tr.zret (pc := 27) d_X5_yesBlock_27 rfl (by omega) ⟨hS, _, rfl, by omega, by omega, fun hq => absurd hq (by omega)⟩
  · refine Tr.iconst (pc := 22) d_X5_yesBlock_22 (by decide) ?_
    refine Tr.goto (pc := 23) (tgt := 27) d_X5_yesBlock_23 rfl ?_
    exact Tr.zret (pc := 27) d_X5_yesBlock_27 rfl (by omega) ⟨hS, _, rfl, by omega, by omega, fun _ => ((Wr.b w15 rfl).trans (x2_6_6 (by omega)))⟩

def ws_X5_noBlock_6_w11 : List (Int × Int) := [(6, 0), (6, 1), (6, 5), (6, 6), (15, 0), (15, 11)]
def as_X5_noBlock_6_w11 : List Int := [16, 17, 18, 19, 20, 21, 22, 24, 25]
def q_X5_noBlock_6_w11 (M0 M' : Mem) (r : Option PV) : Prop := St Tru ws_X5_noBlock_6_w11 as_X5_noBlock_6_w11 M0 M' ∧ ∃ v : Int, r = some (0, v) ∧ 0 ≤ v ∧ v ≤ 1 ∧ ((1 ≤ v ∧ v ≤ 1) → rd M' 6 6 = 4)
set_option maxRecDepth 100000 in
set_option maxHeartbeats 4000000 in
theorem sp_X5_noBlock_6_w11 {l : Launch} {K : EC} {M0 : Mem} {xq : Int} (hI : In Tru M0) (hE : e_all K xq) (en_6_2 : rd M0 6 2 = 2) (en_6_3 : rd M0 6 3 = 7) (en_6_4 : rd M0 6 4 = 15) (en_6_6 : rd M0 6 6 = 4) (a1 : Int) (ha1 : 0 ≤ a1 ∧ a1 ≤ 59)  : Tr l K 25 mX5_noBlock 0 [(0, (2, 6)), (1, (0, a1))] [] M0 (q_X5_noBlock_6_w11 M0) := by
  have hS : St Tru ws_X5_noBlock_6_w11 as_X5_noBlock_6_w11 M0 M0 := St.rf hI
  refine Tr.aload_n (pc := 0) (i := 0) d_X5_noBlock_0 rfl rfl ?_
  refine Tr.bipush (pc := 1) d_X5_noBlock_1 rfl (by decide) ?_
  refine Tr.callV (pc := 3) (as := [_]) d_X5_noBlock_3 s_5_71 ok_X5_isOwn rfl rfl (Nat.le_of_ble_eq_true rfl) (Nat.le_of_ble_eq_true rfl) (by decide) (ty_6 hS.1.1) ?_
  refine Tr.imp (Tr.deep (by decide) (sp_X5_isOwn_6 hS.1 ((St.kp hS (by decide) (by decide) (by decide)).trans en_6_2) 13 (by omega))) ?_
  rintro M3 _ ⟨h3, r3, rfl, lr3, ur3⟩
  have hS := St.tr hS h3 (by decide) (by decide)
  refine Tr.sc [(0, r3)] rfl ?_
  refine Tr.if_ne (pc := 6) (tgt := 11) d_X5_noBlock_6 rfl (fun c6 => ?_) (fun c6 => ?_)
  · refine Tr.aload_n (pc := 11) (i := 0) d_X5_noBlock_11 rfl rfl ?_
    refine Tr.callV (pc := 12) (as := []) d_X5_noBlock_12 s_5_74 ok_X5_goOn rfl rfl (Nat.le_of_ble_eq_true rfl) (Nat.le_of_ble_eq_true rfl) (by decide) (ty_6 hS.1.1) ?_
    refine Tr.imp (Tr.deep (by decide) (sp_X5_goOn_6 hS.1 )) ?_
    rintro M12 _ ⟨h12, r12, rfl, lr12, ur12⟩
    have hS := St.tr hS h12 (by decide) (by decide)
    refine Tr.sc [(0, r12)] rfl ?_
    refine Tr.pop (pc := 15) d_X5_noBlock_15 ne01 ?_
    refine Tr.aload_n (pc := 16) (i := 0) d_X5_noBlock_16 rfl rfl ?_
    refine Tr.iload_n (pc := 17) (i := 1) d_X5_noBlock_17 rfl rfl ?_
    refine Tr.callV (pc := 18) (as := [_]) d_X5_noBlock_18 s_5_197 ok_X5_block rfl rfl (Nat.le_of_ble_eq_true rfl) (Nat.le_of_ble_eq_true rfl) (by decide) (ty_6 hS.1.1) ?_
    refine Tr.imp (Tr.deep (by decide) (sp_X5_block_6_w13 hS.1 hE ((St.kp hS (by decide) (by decide) (by decide)).trans en_6_2) ((St.kp hS (by decide) (by decide) (by decide)).trans en_6_3) ((St.kp hS (by decide) (by decide) (by decide)).trans en_6_4) ((St.kp h12 (by decide) (by decide) (by decide)).trans ((St.kp h3 (by decide) (by decide) (by decide)).trans en_6_6)) a1 (by omega))) ?_
    rintro M18 _ ⟨h18, r18, rfl, lr18, ur18, x18_6_6⟩
    have hS := St.tr hS h18 (by decide) (by decide)
    refine Tr.sc [(0, r18)] rfl ?_
    refine Tr.istore_n (pc := 21) (i := 2) (ls2 := [(2, (0, r18)), (0, (2, 6)), (1, (0, a1))]) d_X5_noBlock_21 rfl (by decide) rfl ?_
    refine Tr.aload_n (pc := 22) (i := 0) d_X5_noBlock_22 rfl rfl ?_
    refine Tr.getf (pc := 23) d_X5_noBlock_23 f_5_32 (by decide) (by decide) (ty_6 hS.1.1) ?_
    refine Tr.tp 15 ((St.kp hS (by decide) (by decide) (by decide)).trans en_6_4) ?_
    refine Tr.getf (pc := 26) d_X5_noBlock_26 f_5_203 (by decide) (by decide) (ty_15 hS.1.1) ?_
    refine Tr.tp 20 (fx_15_5 hS.1.1) ?_
    refine Tr.iload_n (pc := 29) (i := 1) d_X5_noBlock_29 rfl rfl ?_
    refine Tr.iload_n (pc := 30) (i := 2) d_X5_noBlock_30 rfl rfl ?_
    refine Tr.iastS (pc := 31) (P := St Tru ws_X5_noBlock_6_w11 as_X5_noBlock_6_w11 M0) d_X5_noBlock_31 (ty_20 hS.1.1) (by omega) (by omega) (sa_20 hS (by decide) (by omega) trivial) (fun M31 hS w31 => ?_)
    refine Tr.iload_n (pc := 32) (i := 2) d_X5_noBlock_32 rfl rfl ?_
    refine Tr.bipush (pc := 33) d_X5_noBlock_33 rfl (by decide) ?_
    refine Tr.icmp_eq (pc := 35) (tgt := 42) d_X5_noBlock_35 rfl (fun c35 => ?_) (fun c35 => ?_)
    · refine Tr.iconst (pc := 42) d_X5_noBlock_42 (by decide) ?_
      exact Tr.zret (pc := 43) d_X5_noBlock_43 rfl (by omega) ⟨hS, _, rfl, by omega, by omega, fun hq => absurd hq (by omega)⟩
    · refine Tr.iconst (pc := 38) d_X5_noBlock_38 (by decide) ?_
      refine Tr.goto (pc := 39) (tgt := 43) d_X5_noBlock_39 rfl ?_
      exact Tr.zret (pc := 43) d_X5_noBlock_43 rfl (by omega) ⟨hS, _, rfl, by omega, by omega, fun _ => ((Wr.b w31 rfl).trans (x18_6_6 (by omega)))⟩
  · refine Tr.iconst (pc := 9) d_X5_noBlock_9 (by decide) ?_
    exact Tr.zret (pc := 10) d_X5_noBlock_10 rfl (by omega) ⟨hS, _, rfl, by omega, by omega, fun _ => ((St.kp h3 (by decide) (by decide) (by decide)).trans en_6_6)⟩
end
