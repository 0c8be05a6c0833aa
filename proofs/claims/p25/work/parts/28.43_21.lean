/-! 43.21 -/
section
def ws_X5_fact_6_w15 : List (Int × Int) := [(6, 0), (6, 1), (6, 5), (6, 6), (15, 11)]
def as_X5_fact_6_w15 : List Int := [24, 25]
def q_X5_fact_6_w15 (M0 M' : Mem) (r : Option PV) : Prop := St Tru ws_X5_fact_6_w15 as_X5_fact_6_w15 M0 M' ∧ ∃ v : Int, r = some (0, v) ∧ 0 ≤ v ∧ v ≤ 1 ∧ ((1 ≤ v ∧ v ≤ 1) → rd M' 6 6 = 6)
set_option maxRecDepth 100000 in
set_option maxHeartbeats 4000000 in
theorem sp_X5_fact_6_w15 {l : Launch} {K : EC} {M0 : Mem} {xq : Int} (hI : In Tru M0) (hE : e_all K xq) (en_6_2 : rd M0 6 2 = 2) (en_6_3 : rd M0 6 3 = 7) (en_6_4 : rd M0 6 4 = 15) (en_6_6 : rd M0 6 6 = 6)   : Tr l K 15 mX5_fact 0 [(0, (2, 6))] [] M0 (q_X5_fact_6_w15 M0) := by
  have hS : St Tru ws_X5_fact_6_w15 as_X5_fact_6_w15 M0 M0 := St.rf hI
  refine Tr.iconst (pc := 0) d_X5_fact_0 (by decide) ?_
  refine Tr.istore_n (pc := 1) (i := 1) (ls2 := [(1, (0, 0)), (0, (2, 6))]) d_X5_fact_1 rfl (by decide) rfl ?_
  refine Tr.iconst (pc := 2) d_X5_fact_2 (by decide) ?_
  refine Tr.istore_n (pc := 3) (i := 2) (ls2 := [(2, (0, 0)), (1, (0, 0)), (0, (2, 6))]) d_X5_fact_3 rfl (by decide) rfl ?_
  have J4 : ∀ (n4 : Nat) (M : Mem) (p4_1 p4_2 : Int), St Tru ws_X5_fact_6_w15 as_X5_fact_6_w15 M0 M → (0 ≤ p4_1 ∧ p4_1 ≤ 1) → (0 ≤ p4_2 ∧ p4_2 ≤ 900) → rd M 6 6 = 6 → (900 - p4_2).toNat < n4 → Tr l K 15 mX5_fact 4 [(0, (2, 6)), (1, (0, p4_1)), (2, (0, p4_2))] [] M (q_X5_fact_6_w15 M0) := by
    intro n4
    induction n4 with
    | zero => intro M p4_1 p4_2 hS bp4_1 bp4_2 k4_6_6 hm4; exact absurd hm4 (Nat.not_lt_zero _)
    | succ n4 J4 =>
      intro M p4_1 p4_2 hS bp4_1 bp4_2 k4_6_6 hm4
      refine Tr.iload_n (pc := 4) (i := 2) d_X5_fact_4 rfl rfl ?_
      refine Tr.sipush (pc := 5) d_X5_fact_5 rfl (by decide) ?_
      have J41 : ∀ (M : Mem), St Tru ws_X5_fact_6_w15 as_X5_fact_6_w15 M0 M → rd M 6 6 = 6 → Tr l K 15 mX5_fact 41 [(0, (2, 6)), (1, (0, p4_1))] [] M (q_X5_fact_6_w15 M0) := by
        intro M  hS  k41_6_6
        refine Tr.aload_n (pc := 41) (i := 0) d_X5_fact_41 rfl rfl ?_
        refine Tr.callV (pc := 42) (as := []) d_X5_fact_42 s_5_221 ok_X5_plainFact rfl rfl (Nat.le_of_ble_eq_true rfl) (Nat.le_of_ble_eq_true rfl) (by decide) (ty_6 hS.1.1) ?_
        refine Tr.imp (Tr.deep (by decide) (sp_X5_plainFact_6_w15 hS.1 hE ((St.kp hS (by decide) (by decide) (by decide)).trans en_6_2) ((St.kp hS (by decide) (by decide) (by decide)).trans en_6_3) ((St.kp hS (by decide) (by decide) (by decide)).trans en_6_4) k41_6_6)) ?_
        rintro M42 _ ⟨h42, r42, rfl, lr42, ur42, x42_6_6⟩
        have hS := St.tr hS h42 (by decide) (by decide)
        refine Tr.sc [(0, r42)] rfl ?_
        refine Tr.istore_n (pc := 45) (i := 2) (ls2 := [(2, (0, r42)), (0, (2, 6)), (1, (0, p4_1))]) d_X5_fact_45 rfl (by decide) rfl ?_
        refine Tr.iload_n (pc := 46) (i := 1) d_X5_fact_46 rfl rfl ?_
        refine Tr.if_eq (pc := 47) (tgt := 59) d_X5_fact_47 rfl (fun c47 => ?_) (fun c47 => ?_)
        · refine Tr.iload_n (pc := 59) (i := 2) d_X5_fact_59 rfl rfl ?_
          exact Tr.zret (pc := 60) d_X5_fact_60 rfl (by omega) ⟨hS, _, rfl, by omega, by omega, fun hq => (x42_6_6 (by omega))⟩
        · refine Tr.aload_n (pc := 50) (i := 0) d_X5_fact_50 rfl rfl ?_
          refine Tr.getf (pc := 51) d_X5_fact_51 f_5_32 (by decide) (by decide) (ty_6 hS.1.1) ?_
          refine Tr.tp 15 ((St.kp hS (by decide) (by decide) (by decide)).trans en_6_4) ?_
          refine Tr.iconst (pc := 54) d_X5_fact_54 (by decide) ?_
          refine Tr.iconst (pc := 55) d_X5_fact_55 (by decide) ?_
          refine Tr.callV (pc := 56) (as := [_, _]) d_X5_fact_56 s_5_215 ok_X4_emit rfl rfl (Nat.le_of_ble_eq_true rfl) (Nat.le_of_ble_eq_true rfl) (by decide) (ty_15 hS.1.1) ?_
          refine Tr.imp (Tr.deep (by decide) (sp_X4_emit_15_w7 hS.1.wk 5 (by omega) 0 (by omega) (by omega))) ?_
          rintro M56 _ ⟨h56, rfl⟩
          have hS := St.tr hS h56 (by decide) (by decide)
          refine Tr.sc [] rfl ?_
          refine Tr.iload_n (pc := 59) (i := 2) d_X5_fact_59 rfl rfl ?_
          exact Tr.zret (pc := 60) d_X5_fact_60 rfl (by omega) ⟨hS, _, rfl, by omega, by omega, fun hq => ((St.kp h56 (by decide) (by decide) (by decide)).trans (x42_6_6 (by omega)))⟩
      refine Tr.icmp_ge (pc := 8) (tgt := 41) d_X5_fact_8 rfl (fun c8 => ?_) (fun c8 => ?_)
      · refine Tr.pick [0, 1] (ls2 := [(0, (2, 6)), (1, (0, p4_1))]) rfl ?_
        exact J41 _ hS k4_6_6
      · refine Tr.aload_n (pc := 11) (i := 0) d_X5_fact_11 rfl rfl ?_
        refine Tr.bipush (pc := 12) d_X5_fact_12 rfl (by decide) ?_
        refine Tr.callV (pc := 14) (as := [_]) d_X5_fact_14 s_5_71 ok_X5_isOwn rfl rfl (Nat.le_of_ble_eq_true rfl) (Nat.le_of_ble_eq_true rfl) (by decide) (ty_6 hS.1.1) ?_
        refine Tr.imp (Tr.deep (by decide) (sp_X5_isOwn_6_w4 hS.1 ((St.kp hS (by decide) (by decide) (by decide)).trans en_6_2) 21 (by omega))) ?_
        rintro M14 _ ⟨h14, r14, rfl, lr14, ur14⟩
        have hS := St.tr hS h14 (by decide) (by decide)
        refine Tr.sc [(0, r14)] rfl ?_
        refine Tr.if_eq (pc := 17) (tgt := 41) d_X5_fact_17 rfl (fun c17 => ?_) (fun c17 => ?_)
        · refine Tr.pick [0, 1] (ls2 := [(0, (2, 6)), (1, (0, p4_1))]) rfl ?_
          exact J41 _ hS ((St.kp h14 (by decide) (by decide) (by decide)).trans k4_6_6)
        · refine Tr.aload_n (pc := 20) (i := 0) d_X5_fact_20 rfl rfl ?_
          refine Tr.callV (pc := 21) (as := []) d_X5_fact_21 s_5_74 ok_X5_goOn rfl rfl (Nat.le_of_ble_eq_true rfl) (Nat.le_of_ble_eq_true rfl) (by decide) (ty_6 hS.1.1) ?_
          refine Tr.imp (Tr.deep (by decide) (sp_X5_goOn_6 hS.1 )) ?_
          rintro M21 _ ⟨h21, r21, rfl, lr21, ur21⟩
          have hS := St.tr hS h21 (by decide) (by decide)
          refine Tr.sc [(0, r21)] rfl ?_
          refine Tr.pop (pc := 24) d_X5_fact_24 ne01 ?_
          refine Tr.iload_n (pc := 25) (i := 1) d_X5_fact_25 rfl rfl ?_
          have J34 : ∀ (M : Mem) (q34_0 : Int), St Tru ws_X5_fact_6_w15 as_X5_fact_6_w15 M0 M → (0 ≤ q34_0 ∧ q34_0 ≤ 1) → rd M 6 6 = 6 → Tr l K 15 mX5_fact 34 [(0, (2, 6)), (2, (0, p4_2))] [(0, q34_0)] M (q_X5_fact_6_w15 M0) := by
            intro M q34_0 hS bq34_0 k34_6_6
            refine Tr.istore_n (pc := 34) (i := 1) (ls2 := [(1, (0, q34_0)), (0, (2, 6)), (2, (0, p4_2))]) d_X5_fact_34 rfl (by decide) rfl ?_
            refine Tr.iincV (pc := 35) (n2 := (p4_2 + 1)) (ls2 := [(2, (0, (p4_2 + 1))), (1, (0, q34_0)), (0, (2, 6))]) d_X5_fact_35 rfl (by decide) ((w32_id (by omega)).trans (by omega)) rfl ?_
            refine Tr.goto (pc := 38) (tgt := 4) d_X5_fact_38 rfl ?_
            refine Tr.pick [2, 1, 0] (ls2 := [(0, (2, 6)), (1, (0, q34_0)), (2, (0, (p4_2 + 1)))]) rfl ?_
            exact J4 _ _ _ hS (by omega) (by omega) k34_6_6 (by omega)
          refine Tr.if_ne (pc := 26) (tgt := 33) d_X5_fact_26 rfl (fun c26 => ?_) (fun c26 => ?_)
          · refine Tr.iconst (pc := 33) d_X5_fact_33 (by decide) ?_
            refine Tr.pick [0, 2] (ls2 := [(0, (2, 6)), (2, (0, p4_2))]) rfl ?_
            exact J34 _ _ hS (by omega) ((St.kp h21 (by decide) (by decide) (by decide)).trans ((St.kp h14 (by decide) (by decide) (by decide)).trans k4_6_6))
          · refine Tr.iconst (pc := 29) d_X5_fact_29 (by decide) ?_
            refine Tr.goto (pc := 30) (tgt := 34) d_X5_fact_30 rfl ?_
            refine Tr.pick [0, 2] (ls2 := [(0, (2, 6)), (2, (0, p4_2))]) rfl ?_
            exact J34 _ _ hS (by omega) ((St.kp h21 (by decide) (by decide) (by decide)).trans ((St.kp h14 (by decide) (by decide) (by decide)).trans k4_6_6))
  refine Tr.pick [2, 1, 0] (ls2 := [(0, (2, 6)), (1, (0, 0)), (2, (0, 0))]) rfl ?_
  exact J4 _ _ _ _ hS (by omega) (by omega) en_6_6 (Nat.lt_succ_self _)

def ws_X5_both_6_w15 : List (Int × Int) := [(6, 0), (6, 1), (6, 5), (6, 6), (15, 11)]
def as_X5_both_6_w15 : List Int := [24, 25]
def q_X5_both_6_w15 (M0 M' : Mem) (r : Option PV) : Prop := St Tru ws_X5_both_6_w15 as_X5_both_6_w15 M0 M' ∧ ∃ v : Int, r = some (0, v) ∧ 0 ≤ v ∧ v ≤ 1 ∧ ((1 ≤ v ∧ v ≤ 1) → rd M' 6 6 = 6)
set_option maxRecDepth 100000 in
set_option maxHeartbeats 4000000 in
theorem sp_X5_both_6_w15 {l : Launch} {K : EC} {M0 : Mem} {xq : Int} (hI : In Tru M0) (hE : e_all K xq) (en_6_2 : rd M0 6 2 = 2) (en_6_3 : rd M0 6 3 = 7) (en_6_4 : rd M0 6 4 = 15) (en_6_6 : rd M0 6 6 = 6)   : Tr l K 16 mX5_both 0 [(0, (2, 6))] [] M0 (q_X5_both_6_w15 M0) := by
  have hS : St Tru ws_X5_both_6_w15 as_X5_both_6_w15 M0 M0 := St.rf hI
  refine Tr.aload_n (pc := 0) (i := 0) d_X5_both_0 rfl rfl ?_
  refine Tr.callV (pc := 1) (as := []) d_X5_both_1 s_5_218 ok_X5_fact rfl rfl (Nat.le_of_ble_eq_true rfl) (Nat.le_of_ble_eq_true rfl) (by decide) (ty_6 hS.1.1) ?_
  refine Tr.imp (Tr.deep (by decide) (sp_X5_fact_6_w15 hS.1 hE ((St.kp hS (by decide) (by decide) (by decide)).trans en_6_2) ((St.kp hS (by decide) (by decide) (by decide)).trans en_6_3) ((St.kp hS (by decide) (by decide) (by decide)).trans en_6_4) en_6_6)) ?_
  rintro M1 _ ⟨h1, r1, rfl, lr1, ur1, x1_6_6⟩
  have hS := St.tr hS h1 (by decide) (by decide)
  refine Tr.sc [(0, r1)] rfl ?_
  refine Tr.istore_n (pc := 4) (i := 1) (ls2 := [(1, (0, r1)), (0, (2, 6))]) d_X5_both_4 rfl (by decide) rfl ?_
  refine Tr.iconst (pc := 5) d_X5_both_5 (by decide) ?_
  refine Tr.istore_n (pc := 6) (i := 2) (ls2 := [(2, (0, 0)), (1, (0, r1)), (0, (2, 6))]) d_X5_both_6 rfl (by decide) rfl ?_
  have J7 : ∀ (n7 : Nat) (M : Mem) (p7_1 p7_2 : Int), St Tru ws_X5_both_6_w15 as_X5_both_6_w15 M0 M → (0 ≤ p7_1 ∧ p7_1 ≤ 1) → (0 ≤ p7_2 ∧ p7_2 ≤ 900) → (p7_1 = 1 → rd M 6 6 = 6) → (900 - p7_2).toNat < n7 → Tr l K 16 mX5_both 7 [(0, (2, 6)), (1, (0, p7_1)), (2, (0, p7_2))] [] M (q_X5_both_6_w15 M0) := by
    intro n7
    induction n7 with
    | zero => intro M p7_1 p7_2 hS bp7_1 bp7_2  y7_p7_1_6_60 hm7; exact absurd hm7 (Nat.not_lt_zero _)
    | succ n7 J7 =>
      intro M p7_1 p7_2 hS bp7_1 bp7_2  y7_p7_1_6_60 hm7
      have y7_p7_1_6_6 : 1 ≤ p7_1 ∧ p7_1 ≤ 1 → rd M 6 6 = 6 := fun hq => y7_p7_1_6_60 (by omega)
      refine Tr.iload_n (pc := 7) (i := 2) d_X5_both_7 rfl rfl ?_
      refine Tr.sipush (pc := 8) d_X5_both_8 rfl (by decide) ?_
      refine Tr.icmp_ge (pc := 11) (tgt := 53) d_X5_both_11 rfl (fun c11 => ?_) (fun c11 => ?_)
      · refine Tr.iload_n (pc := 53) (i := 1) d_X5_both_53 rfl rfl ?_
        exact Tr.zret (pc := 54) d_X5_both_54 rfl (by omega) ⟨hS, _, rfl, by omega, by omega, fun hq => (y7_p7_1_6_6 (by omega))⟩
      · refine Tr.iload_n (pc := 14) (i := 1) d_X5_both_14 rfl rfl ?_
        refine Tr.if_eq (pc := 15) (tgt := 53) d_X5_both_15 rfl (fun c15 => ?_) (fun c15 => ?_)
        · refine Tr.iload_n (pc := 53) (i := 1) d_X5_both_53 rfl rfl ?_
          exact Tr.zret (pc := 54) d_X5_both_54 rfl (by omega) ⟨hS, _, rfl, by omega, by omega, fun hq => absurd hq (by omega)⟩
        · refine Tr.aload_n (pc := 18) (i := 0) d_X5_both_18 rfl rfl ?_
          refine Tr.bipush (pc := 19) d_X5_both_19 rfl (by decide) ?_
          refine Tr.callV (pc := 21) (as := [_]) d_X5_both_21 s_5_71 ok_X5_isOwn rfl rfl (Nat.le_of_ble_eq_true rfl) (Nat.le_of_ble_eq_true rfl) (by decide) (ty_6 hS.1.1) ?_
          refine Tr.imp (Tr.deep (by decide) (sp_X5_isOwn_6_w3 hS.1 ((St.kp hS (by decide) (by decide) (by decide)).trans en_6_2) 20 (by omega))) ?_
          rintro M21 _ ⟨h21, r21, rfl, lr21, ur21⟩
          have hS := St.tr hS h21 (by decide) (by decide)
          refine Tr.sc [(0, r21)] rfl ?_
          refine Tr.if_eq (pc := 24) (tgt := 53) d_X5_both_24 rfl (fun c24 => ?_) (fun c24 => ?_)
          · refine Tr.iload_n (pc := 53) (i := 1) d_X5_both_53 rfl rfl ?_
            exact Tr.zret (pc := 54) d_X5_both_54 rfl (by omega) ⟨hS, _, rfl, by omega, by omega, fun _ => ((St.kp h21 (by decide) (by decide) (by decide)).trans (y7_p7_1_6_6 (by omega)))⟩
          · refine Tr.aload_n (pc := 27) (i := 0) d_X5_both_27 rfl rfl ?_
            refine Tr.callV (pc := 28) (as := []) d_X5_both_28 s_5_74 ok_X5_goOn rfl rfl (Nat.le_of_ble_eq_true rfl) (Nat.le_of_ble_eq_true rfl) (by decide) (ty_6 hS.1.1) ?_
            refine Tr.imp (Tr.deep (by decide) (sp_X5_goOn_6 hS.1 )) ?_
            rintro M28 _ ⟨h28, r28, rfl, lr28, ur28⟩
            have hS := St.tr hS h28 (by decide) (by decide)
            refine Tr.sc [(0, r28)] rfl ?_
            refine Tr.pop (pc := 31) d_X5_both_31 ne01 ?_
            refine Tr.aload_n (pc := 32) (i := 0) d_X5_both_32 rfl rfl ?_
            refine Tr.callV (pc := 33) (as := []) d_X5_both_33 s_5_218 ok_X5_fact rfl rfl (Nat.le_of_ble_eq_true rfl) (Nat.le_of_ble_eq_true rfl) (by decide) (ty_6 hS.1.1) ?_
            refine Tr.imp (Tr.deep (by decide) (sp_X5_fact_6_w15 hS.1 hE ((St.kp hS (by decide) (by decide) (by decide)).trans en_6_2) ((St.kp hS (by decide) (by decide) (by decide)).trans en_6_3) ((St.kp hS (by decide) (by decide) (by decide)).trans en_6_4) ((St.kp h28 (by decide) (by decide) (by decide)).trans ((St.kp h21 (by decide) (by decide) (by decide)).trans (y7_p7_1_6_6 (by omega)))))) ?_
            rintro M33 _ ⟨h33, r33, rfl, lr33, ur33, x33_6_6⟩
            have hS := St.tr hS h33 (by decide) (by decide)
            refine Tr.sc [(0, r33)] rfl ?_
            refine Tr.istore_n (pc := 36) (i := 1) (ls2 := [(1, (0, r33)), (0, (2, 6)), (2, (0, p7_2))]) d_X5_both_36 rfl (by decide) rfl ?_
            refine Tr.aload_n (pc := 37) (i := 0) d_X5_both_37 rfl rfl ?_
            refine Tr.getf (pc := 38) d_X5_both_38 f_5_32 (by decide) (by decide) (ty_6 hS.1.1) ?_
            refine Tr.tp 15 ((St.kp hS (by decide) (by decide) (by decide)).trans en_6_4) ?_
            refine Tr.bipush (pc := 41) d_X5_both_41 rfl (by decide) ?_
            refine Tr.iconst (pc := 43) d_X5_both_43 (by decide) ?_
            refine Tr.callV (pc := 44) (as := [_, _]) d_X5_both_44 s_5_215 ok_X4_emit rfl rfl (Nat.le_of_ble_eq_true rfl) (Nat.le_of_ble_eq_true rfl) (by decide) (ty_15 hS.1.1) ?_
            refine Tr.imp (Tr.deep (by decide) (sp_X4_emit_15_w9 hS.1.wk 16 (by omega) 0 (by omega) (by omega))) ?_
            rintro M44 _ ⟨h44, rfl⟩
            have hS := St.tr hS h44 (by decide) (by decide)
            refine Tr.sc [] rfl ?_
            refine Tr.iincV (pc := 47) (n2 := (p7_2 + 1)) (ls2 := [(2, (0, (p7_2 + 1))), (1, (0, r33)), (0, (2, 6))]) d_X5_both_47 rfl (by decide) ((w32_id (by omega)).trans (by omega)) rfl ?_
            refine Tr.goto (pc := 50) (tgt := 7) d_X5_both_50 rfl ?_
            refine Tr.pick [2, 1, 0] (ls2 := [(0, (2, 6)), (1, (0, r33)), (2, (0, (p7_2 + 1)))]) rfl ?_
            exact J7 _ _ _ hS (by omega) (by omega) (fun hq => ((St.kp h44 (by decide) (by decide) (by decide)).trans (x33_6_6 (by omega)))) (by omega)
  refine Tr.pick [2, 1, 0] (ls2 := [(0, (2, 6)), (1, (0, r1)), (2, (0, 0))]) rfl ?_
  exact J7 _ _ _ _ hS (by omega) (by omega) (fun hq => (x1_6_6 (by omega))) (Nat.lt_succ_self _)

def ws_X5_test_6_w15 : List (Int × Int) := [(6, 0), (6, 1), (6, 5), (6, 6), (15, 11)]
def as_X5_test_6_w15 : List Int := [24, 25]
def q_X5_test_6_w15 (M0 M' : Mem) (r : Option PV) : Prop := St Tru ws_X5_test_6_w15 as_X5_test_6_w15 M0 M' ∧ ∃ v : Int, r = some (0, v) ∧ 0 ≤ v ∧ v ≤ 1 ∧ ((1 ≤ v ∧ v ≤ 1) → rd M' 6 6 = 6)
set_option maxRecDepth 100000 in
set_option maxHeartbeats 4000000 in
theorem sp_X5_test_6_w15 {l : Launch} {K : EC} {M0 : Mem} {xq : Int} (hI : In Tru M0) (hE : e_all K xq) (en_6_2 : rd M0 6 2 = 2) (en_6_3 : rd M0 6 3 = 7) (en_6_4 : rd M0 6 4 = 15) (en_6_6 : rd M0 6 6 = 6)   : Tr l K 17 mX5_test 0 [(0, (2, 6))] [] M0 (q_X5_test_6_w15 M0) := by
  have hS : St Tru ws_X5_test_6_w15 as_X5_test_6_w15 M0 M0 := St.rf hI
  refine Tr.aload_n (pc := 0) (i := 0) d_X5_test_0 rfl rfl ?_
  refine Tr.callV (pc := 1) (as := []) d_X5_test_1 s_5_212 ok_X5_both rfl rfl (Nat.le_of_ble_eq_true rfl) (Nat.le_of_ble_eq_true rfl) (by decide) (ty_6 hS.1.1) ?_
  refine Tr.imp (Tr.deep (by decide) (sp_X5_both_6_w15 hS.1 hE ((St.kp hS (by decide) (by decide) (by decide)).trans en_6_2) ((St.kp hS (by decide) (by decide) (by decide)).trans en_6_3) ((St.kp hS (by decide) (by decide) (by decide)).trans en_6_4) en_6_6)) ?_
  rintro M1 _ ⟨h1, r1, rfl, lr1, ur1, x1_6_6⟩
  have hS := St.tr hS h1 (by decide) (by decide)
  refine Tr.sc [(0, r1)] rfl ?_
  refine Tr.istore_n (pc := 4) (i := 1) (ls2 := [(1, (0, r1)), (0, (2, 6))]) d_X5_test_4 rfl (by decide) rfl ?_
  refine Tr.iconst (pc := 5) d_X5_test_5 (by decide) ?_
  refine Tr.istore_n (pc := 6) (i := 2) (ls2 := [(2, (0, 0)), (1, (0, r1)), (0, (2, 6))]) d_X5_test_6 rfl (by decide) rfl ?_
  have J7 : ∀ (n7 : Nat) (M : Mem) (p7_1 p7_2 : Int), St Tru ws_X5_test_6_w15 as_X5_test_6_w15 M0 M → (0 ≤ p7_1 ∧ p7_1 ≤ 1) → (0 ≤ p7_2 ∧ p7_2 ≤ 900) → (p7_1 = 1 → rd M 6 6 = 6) → (900 - p7_2).toNat < n7 → Tr l K 17 mX5_test 7 [(0, (2, 6)), (1, (0, p7_1)), (2, (0, p7_2))] [] M (q_X5_test_6_w15 M0) := by
    intro n7
    induction n7 with
    | zero => intro M p7_1 p7_2 hS bp7_1 bp7_2  y7_p7_1_6_60 hm7; exact absurd hm7 (Nat.not_lt_zero _)
    | succ n7 J7 =>
      intro M p7_1 p7_2 hS bp7_1 bp7_2  y7_p7_1_6_60 hm7
      have y7_p7_1_6_6 : 1 ≤ p7_1 ∧ p7_1 ≤ 1 → rd M 6 6 = 6 := fun hq => y7_p7_1_6_60 (by omega)
      refine Tr.iload_n (pc := 7) (i := 2) d_X5_test_7 rfl rfl ?_
      refine Tr.sipush (pc := 8) d_X5_test_8 rfl (by decide) ?_
      refine Tr.icmp_ge (pc := 11) (tgt := 53) d_X5_test_11 rfl (fun c11 => ?_) (fun c11 => ?_)
      · refine Tr.iload_n (pc := 53) (i := 1) d_X5_test_53 rfl rfl ?_
        exact Tr.zret (pc := 54) d_X5_test_54 rfl (by omega) ⟨hS, _, rfl, by omega, by omega, fun hq => (y7_p7_1_6_6 (by omega))⟩
      · refine Tr.iload_n (pc := 14) (i := 1) d_X5_test_14 rfl rfl ?_
        refine Tr.if_eq (pc := 15) (tgt := 53) d_X5_test_15 rfl (fun c15 => ?_) (fun c15 => ?_)
        · refine Tr.iload_n (pc := 53) (i := 1) d_X5_test_53 rfl rfl ?_
          exact Tr.zret (pc := 54) d_X5_test_54 rfl (by omega) ⟨hS, _, rfl, by omega, by omega, fun hq => absurd hq (by omega)⟩
        · refine Tr.aload_n (pc := 18) (i := 0) d_X5_test_18 rfl rfl ?_
          refine Tr.bipush (pc := 19) d_X5_test_19 rfl (by decide) ?_
          refine Tr.callV (pc := 21) (as := [_]) d_X5_test_21 s_5_71 ok_X5_isOwn rfl rfl (Nat.le_of_ble_eq_true rfl) (Nat.le_of_ble_eq_true rfl) (by decide) (ty_6 hS.1.1) ?_
          refine Tr.imp (Tr.deep (by decide) (sp_X5_isOwn_6_w3 hS.1 ((St.kp hS (by decide) (by decide) (by decide)).trans en_6_2) 19 (by omega))) ?_
          rintro M21 _ ⟨h21, r21, rfl, lr21, ur21⟩
          have hS := St.tr hS h21 (by decide) (by decide)
          refine Tr.sc [(0, r21)] rfl ?_
          refine Tr.if_eq (pc := 24) (tgt := 53) d_X5_test_24 rfl (fun c24 => ?_) (fun c24 => ?_)
          · refine Tr.iload_n (pc := 53) (i := 1) d_X5_test_53 rfl rfl ?_
            exact Tr.zret (pc := 54) d_X5_test_54 rfl (by omega) ⟨hS, _, rfl, by omega, by omega, fun _ => ((St.kp h21 (by decide) (by decide) (by decide)).trans (y7_p7_1_6_6 (by omega)))⟩
          · refine Tr.aload_n (pc := 27) (i := 0) d_X5_test_27 rfl rfl ?_
            refine Tr.callV (pc := 28) (as := []) d_X5_test_28 s_5_74 ok_X5_goOn rfl rfl (Nat.le_of_ble_eq_true rfl) (Nat.le_of_ble_eq_true rfl) (by decide) (ty_6 hS.1.1) ?_
            refine Tr.imp (Tr.deep (by decide) (sp_X5_goOn_6 hS.1 )) ?_
            rintro M28 _ ⟨h28, r28, rfl, lr28, ur28⟩
            have hS := St.tr hS h28 (by decide) (by decide)
            refine Tr.sc [(0, r28)] rfl ?_
            refine Tr.pop (pc := 31) d_X5_test_31 ne01 ?_
            refine Tr.aload_n (pc := 32) (i := 0) d_X5_test_32 rfl rfl ?_
            refine Tr.callV (pc := 33) (as := []) d_X5_test_33 s_5_212 ok_X5_both rfl rfl (Nat.le_of_ble_eq_true rfl) (Nat.le_of_ble_eq_true rfl) (by decide) (ty_6 hS.1.1) ?_
            refine Tr.imp (Tr.deep (by decide) (sp_X5_both_6_w15 hS.1 hE ((St.kp hS (by decide) (by decide) (by decide)).trans en_6_2) ((St.kp hS (by decide) (by decide) (by decide)).trans en_6_3) ((St.kp hS (by decide) (by decide) (by decide)).trans en_6_4) ((St.kp h28 (by decide) (by decide) (by decide)).trans ((St.kp h21 (by decide) (by decide) (by decide)).trans (y7_p7_1_6_6 (by omega)))))) ?_
            rintro M33 _ ⟨h33, r33, rfl, lr33, ur33, x33_6_6⟩
            have hS := St.tr hS h33 (by decide) (by decide)
            refine Tr.sc [(0, r33)] rfl ?_
            refine Tr.istore_n (pc := 36) (i := 1) (ls2 := [(1, (0, r33)), (0, (2, 6)), (2, (0, p7_2))]) d_X5_test_36 rfl (by decide) rfl ?_
            refine Tr.aload_n (pc := 37) (i := 0) d_X5_test_37 rfl rfl ?_
            refine Tr.getf (pc := 38) d_X5_test_38 f_5_32 (by decide) (by decide) (ty_6 hS.1.1) ?_
            refine Tr.tp 15 ((St.kp hS (by decide) (by decide) (by decide)).trans en_6_4) ?_
            refine Tr.bipush (pc := 41) d_X5_test_41 rfl (by decide) ?_
            refine Tr.iconst (pc := 43) d_X5_test_43 (by decide) ?_
            refine Tr.callV (pc := 44) (as := [_, _]) d_X5_test_44 s_5_215 ok_X4_emit rfl rfl (Nat.le_of_ble_eq_true rfl) (Nat.le_of_ble_eq_true rfl) (by decide) (ty_15 hS.1.1) ?_
            refine Tr.imp (Tr.deep (by decide) (sp_X4_emit_15_w10 hS.1.wk 17 (by omega) 0 (by omega) (by omega))) ?_
            rintro M44 _ ⟨h44, rfl⟩
            have hS := St.tr hS h44 (by decide) (by decide)
            refine Tr.sc [] rfl ?_
            refine Tr.iincV (pc := 47) (n2 := (p7_2 + 1)) (ls2 := [(2, (0, (p7_2 + 1))), (1, (0, r33)), (0, (2, 6))]) d_X5_test_47 rfl (by decide) ((w32_id (by omega)).trans (by omega)) rfl ?_
            refine Tr.goto (pc := 50) (tgt := 7) d_X5_test_50 rfl ?_
            refine Tr.pick [2, 1, 0] (ls2 := [(0, (2, 6)), (1, (0, r33)), (2, (0, (p7_2 + 1)))]) rfl ?_
            exact J7 _ _ _ hS (by omega) (by omega) (fun hq => ((St.kp h44 (by decide) (by decide) (by decide)).trans (x33_6_6 (by omega)))) (by omega)
  refine Tr.pick [2, 1, 0] (ls2 := [(0, (2, 6)), (1, (0, r1)), (2, (0, 0))]) rfl ?_
  exact J7 _ _ _ _ hS (by omega) (by omega) (fun hq => (x1_6_6 (by omega))) (Nat.lt_succ_self _)

def ws_X5_plainFact_6_w14 : List (Int × Int) := [(6, 0), (6, 1), (6, 5), (6, 6), (15, 11)]
def as_X5_plainFact_6_w14 : List Int := [24, 25]
def q_X5_plainFact_6_w14 (M0 M' : Mem) (r : Option PV) : Prop := St Tru ws_X5_plainFact_6_w14 as_X5_plainFact_6_w14 M0 M' ∧ ∃ v : Int, r = some (0, v) ∧ 0 ≤ v ∧ v ≤ 1 ∧ ((1 ≤ v ∧ v ≤ 1) → rd M' 6 6 = 5)
set_option maxRecDepth 100000 in
set_option maxHeartbeats 4000000 in
theorem sp_X5_plainFact_6_w14 {l : Launch} {K : EC} {M0 : Mem} {xq : Int} (hI : In Tru M0) (hE : e_all K xq) (en_6_2 : rd M0 6 2 = 2) (en_6_3 : rd M0 6 3 = 7) (en_6_4 : rd M0 6 4 = 15) (en_6_6 : rd M0 6 6 = 5)   : Tr l K 18 mX5_plainFact 0 [(0, (2, 6))] [] M0 (q_X5_plainFact_6_w14 M0) := by
  have hS : St Tru ws_X5_plainFact_6_w14 as_X5_plainFact_6_w14 M0 M0 := St.rf hI
  refine Tr.aload_n (pc := 0) (i := 0) d_X5_plainFact_0 rfl rfl ?_
  refine Tr.bipush (pc := 1) d_X5_plainFact_1 rfl (by decide) ?_
  refine Tr.callV (pc := 3) (as := [_]) d_X5_plainFact_3 s_5_77 ok_X5_isSign rfl rfl (Nat.le_of_ble_eq_true rfl) (Nat.le_of_ble_eq_true rfl) (by decide) (ty_6 hS.1.1) ?_
  refine Tr.imp (Tr.deep (by decide) (sp_X5_isSign_6_w1 hS.1 ((St.kp hS (by decide) (by decide) (by decide)).trans en_6_2) 91 (by omega))) ?_
  rintro M3 _ ⟨h3, r3, rfl, lr3, ur3⟩
  have hS := St.tr hS h3 (by decide) (by decide)
  refine Tr.sc [(0, r3)] rfl ?_
  refine Tr.if_eq (pc := 6) (tgt := 40) d_X5_plainFact_6 rfl (fun c6 => ?_) (fun c6 => ?_)
  · refine Tr.aload_n (pc := 40) (i := 0) d_X5_plainFact_40 rfl rfl ?_
    refine Tr.bipush (pc := 41) d_X5_plainFact_41 rfl (by decide) ?_
    refine Tr.callV (pc := 43) (as := [_]) d_X5_plainFact_43 s_5_71 ok_X5_isOwn rfl rfl (Nat.le_of_ble_eq_true rfl) (Nat.le_of_ble_eq_true rfl) (by decide) (ty_6 hS.1.1) ?_
    refine Tr.imp (Tr.deep (by decide) (sp_X5_isOwn_6_w4 hS.1 ((St.kp hS (by decide) (by decide) (by decide)).trans en_6_2) 22 (by omega))) ?_
    rintro M43 _ ⟨h43, r43, rfl, lr43, ur43⟩
    have hS := St.tr hS h43 (by decide) (by decide)
    refine Tr.sc [(0, r43)] rfl ?_
    refine Tr.if_eq (pc := 46) (tgt := 63) d_X5_plainFact_46 rfl (fun c46 => ?_) (fun c46 => ?_)
    · refine Tr.aload_n (pc := 63) (i := 0) d_X5_plainFact_63 rfl rfl ?_
      refine Tr.bipush (pc := 64) d_X5_plainFact_64 rfl (by decide) ?_
      refine Tr.callV (pc := 66) (as := [_]) d_X5_plainFact_66 s_5_71 ok_X5_isOwn rfl rfl (Nat.le_of_ble_eq_true rfl) (Nat.le_of_ble_eq_true rfl) (by decide) (ty_6 hS.1.1) ?_
      refine Tr.imp (Tr.deep (by decide) (sp_X5_isOwn_6_w4 hS.1 ((St.kp hS (by decide) (by decide) (by decide)).trans en_6_2) 23 (by omega))) ?_
      rintro M66 _ ⟨h66, r66, rfl, lr66, ur66⟩
      have hS := St.tr hS h66 (by decide) (by decide)
      refine Tr.sc [(0, r66)] rfl ?_
      refine Tr.if_eq (pc := 69) (tgt := 106) d_X5_plainFact_69 rfl (fun c69 => ?_) (fun c69 => ?_)
      · refine Tr.aload_n (pc := 106) (i := 0) d_X5_plainFact_106 rfl rfl ?_
        refine Tr.callV (pc := 107) (as := []) d_X5_plainFact_107 s_5_174 ok_X5_sum rfl rfl (Nat.le_of_ble_eq_true rfl) (Nat.le_of_ble_eq_true rfl) (by decide) (ty_6 hS.1.1) ?_
        refine Tr.imp (Tr.deep (by decide) (sp_X5_sum_6_w14 hS.1 hE ((St.kp hS (by decide) (by decide) (by decide)).trans en_6_2) ((St.kp hS (by decide) (by decide) (by decide)).trans en_6_3) ((St.kp hS (by decide) (by decide) (by decide)).trans en_6_4) ((St.kp h66 (by decide) (by decide) (by decide)).trans ((St.kp h43 (by decide) (by decide) (by decide)).trans ((St.kp h3 (by decide) (by decide) (by decide)).trans en_6_6))))) ?_
        rintro M107 _ ⟨h107, r107, rfl, lr107, ur107, x107_6_6⟩
        have hS := St.tr hS h107 (by decide) (by decide)
        refine Tr.sc [(0, r107)] rfl ?_
        refine Tr.if_ne (pc := 110) (tgt := 115) d_X5_plainFact_110 rfl (fun c110 => ?_) (fun c110 => ?_)
        · refine Tr.aload_n (pc := 115) (i := 0) d_X5_plainFact_115 rfl rfl ?_
          refine Tr.bipush (pc := 116) d_X5_plainFact_116 rfl (by decide) ?_
          refine Tr.callV (pc := 118) (as := [_]) d_X5_plainFact_118 s_5_77 ok_X5_isSign rfl rfl (Nat.le_of_ble_eq_true rfl) (Nat.le_of_ble_eq_true rfl) (by decide) (ty_6 hS.1.1) ?_
          refine Tr.imp (Tr.deep (by decide) (sp_X5_isSign_6_w3 hS.1 ((St.kp hS (by decide) (by decide) (by decide)).trans en_6_2) 60 (by omega))) ?_
          rintro M118 _ ⟨h118, r118, rfl, lr118, ur118⟩
          have hS := St.tr hS h118 (by decide) (by decide)
          refine Tr.sc [(0, r118)] rfl ?_
          have J158 : ∀ (M : Mem) (q158_0 : Int), St Tru ws_X5_plainFact_6_w14 as_X5_plainFact_6_w14 M0 M → ((-1) ≤ q158_0 ∧ q158_0 ≤ 15) → rd M 6 6 = 5 → Tr l K 18 mX5_plainFact 158 [(0, (2, 6))] [(0, q158_0)] M (q_X5_plainFact_6_w14 M0) := by
            intro M q158_0 hS bq158_0 k158_6_6
            refine Tr.istore_n (pc := 158) (i := 1) (ls2 := [(1, (0, q158_0)), (0, (2, 6))]) d_X5_plainFact_158 rfl (by decide) rfl ?_
            refine Tr.iload_n (pc := 159) (i := 1) d_X5_plainFact_159 rfl rfl ?_
            refine Tr.if_ge (pc := 160) (tgt := 169) d_X5_plainFact_160 rfl (fun c160 => ?_) (fun c160 => ?_)
            · refine Tr.aload_n (pc := 169) (i := 0) d_X5_plainFact_169 rfl rfl ?_
              refine Tr.callV (pc := 170) (as := []) d_X5_plainFact_170 s_5_74 ok_X5_goOn rfl rfl (Nat.le_of_ble_eq_true rfl) (Nat.le_of_ble_eq_true rfl) (by decide) (ty_6 hS.1.1) ?_
              refine Tr.imp (Tr.deep (by decide) (sp_X5_goOn_6 hS.1 )) ?_
              rintro M170 _ ⟨h170, r170, rfl, lr170, ur170⟩
              have hS := St.tr hS h170 (by decide) (by decide)
              refine Tr.sc [(0, r170)] rfl ?_
              refine Tr.pop (pc := 173) d_X5_plainFact_173 ne01 ?_
              refine Tr.aload_n (pc := 174) (i := 0) d_X5_plainFact_174 rfl rfl ?_
              refine Tr.callV (pc := 175) (as := []) d_X5_plainFact_175 s_5_174 ok_X5_sum rfl rfl (Nat.le_of_ble_eq_true rfl) (Nat.le_of_ble_eq_true rfl) (by decide) (ty_6 hS.1.1) ?_
              refine Tr.imp (Tr.deep (by decide) (sp_X5_sum_6_w14 hS.1 hE ((St.kp hS (by decide) (by decide) (by decide)).trans en_6_2) ((St.kp hS (by decide) (by decide) (by decide)).trans en_6_3) ((St.kp hS (by decide) (by decide) (by decide)).trans en_6_4) ((St.kp h170 (by decide) (by decide) (by decide)).trans k158_6_6))) ?_
              rintro M175 _ ⟨h175, r175, rfl, lr175, ur175, x175_6_6⟩
              have hS := St.tr hS h175 (by decide) (by decide)
              refine Tr.sc [(0, r175)] rfl ?_
              refine Tr.istore_n (pc := 178) (i := 2) (ls2 := [(2, (0, r175)), (1, (0, q158_0)), (0, (2, 6))]) d_X5_plainFact_178 rfl (by decide) rfl ?_
              refine Tr.aload_n (pc := 179) (i := 0) d_X5_plainFact_179 rfl rfl ?_
              refine Tr.getf (pc := 180) d_X5_plainFact_180 f_5_32 (by decide) (by decide) (ty_6 hS.1.1) ?_
              refine Tr.tp 15 ((St.kp hS (by decide) (by decide) (by decide)).trans en_6_4) ?_
              refine Tr.iload_n (pc := 183) (i := 1) d_X5_plainFact_183 rfl rfl ?_
              refine Tr.iconst (pc := 184) d_X5_plainFact_184 (by decide) ?_
              refine Tr.callV (pc := 185) (as := [_, _]) d_X5_plainFact_185 s_5_215 ok_X4_emit rfl rfl (Nat.le_of_ble_eq_true rfl) (Nat.le_of_ble_eq_true rfl) (by decide) (ty_15 hS.1.1) ?_
              refine Tr.imp (Tr.deep (by decide) (sp_X4_emit_15_w8 hS.1.wk q158_0 (by omega) 0 (by omega) (by omega))) ?_
              rintro M185 _ ⟨h185, rfl⟩
              have hS := St.tr hS h185 (by decide) (by decide)
              refine Tr.sc [] rfl ?_
              refine Tr.iload_n (pc := 188) (i := 2) d_X5_plainFact_188 rfl rfl ?_
              exact Tr.zret (pc := 189) d_X5_plainFact_189 rfl (by omega) ⟨hS, _, rfl, by omega, by omega, fun hq => ((St.kp h185 (by decide) (by decide) (by decide)).trans (x175_6_6 (by omega)))⟩
            · refine Tr.aload_n (pc := 163) (i := 0) d_X5_plainFact_163 rfl rfl ?_
              refine Tr.iconst (pc := 164) d_X5_plainFact_164 (by decide) ?_
              refine Tr.callV (pc := 165) (as := [_]) d_X5_plainFact_165 s_5_56 ok_X5_refuse rfl rfl (Nat.le_of_ble_eq_true rfl) (Nat.le_of_ble_eq_true rfl) (by decide) (ty_6 hS.1.1) ?_
              refine Tr.imp (Tr.deep (by decide) (sp_X5_refuse_6_w1 hS.1 ((St.kp hS (by decide) (by decide) (by decide)).trans en_6_2) 1 (by omega))) ?_
              rintro M165 _ ⟨h165, r165, rfl, lr165, ur165⟩
              have hS := St.tr hS h165 (by decide) (by decide)
              refine Tr.sc [(0, r165)] rfl ?_
              exact Tr.zret (pc := 168) d_X5_plainFact_168 rfl (by omega) ⟨hS, _, rfl, by omega, by omega, fun hq => absurd hq (by omega)⟩
          refine Tr.if_eq (pc := 121) (tgt := 129) d_X5_plainFact_121 rfl (fun c121 => ?_) (fun c121 => ?_)
          · refine Tr.aload_n (pc := 129) (i := 0) d_X5_plainFact_129 rfl rfl ?_
            refine Tr.bipush (pc := 130) d_X5_plainFact_130 rfl (by decide) ?_
            refine Tr.callV (pc := 132) (as := [_]) d_X5_plainFact_132 s_5_77 ok_X5_isSign rfl rfl (Nat.le_of_ble_eq_true rfl) (Nat.le_of_ble_eq_true rfl) (by decide) (ty_6 hS.1.1) ?_
            refine Tr.imp (Tr.deep (by decide) (sp_X5_isSign_6_w4 hS.1 ((St.kp hS (by decide) (by decide) (by decide)).trans en_6_2) 62 (by omega))) ?_
            rintro M132 _ ⟨h132, r132, rfl, lr132, ur132⟩
            have hS := St.tr hS h132 (by decide) (by decide)
            refine Tr.sc [(0, r132)] rfl ?_
            refine Tr.if_eq (pc := 135) (tgt := 143) d_X5_plainFact_135 rfl (fun c135 => ?_) (fun c135 => ?_)
            · refine Tr.aload_n (pc := 143) (i := 0) d_X5_plainFact_143 rfl rfl ?_
              refine Tr.bipush (pc := 144) d_X5_plainFact_144 rfl (by decide) ?_
              refine Tr.callV (pc := 146) (as := [_]) d_X5_plainFact_146 s_5_77 ok_X5_isSign rfl rfl (Nat.le_of_ble_eq_true rfl) (Nat.le_of_ble_eq_true rfl) (by decide) (ty_6 hS.1.1) ?_
              refine Tr.imp (Tr.deep (by decide) (sp_X5_isSign_6_w4 hS.1 ((St.kp hS (by decide) (by decide) (by decide)).trans en_6_2) 61 (by omega))) ?_
              rintro M146 _ ⟨h146, r146, rfl, lr146, ur146⟩
              have hS := St.tr hS h146 (by decide) (by decide)
              refine Tr.sc [(0, r146)] rfl ?_
              refine Tr.if_eq (pc := 149) (tgt := 157) d_X5_plainFact_149 rfl (fun c149 => ?_) (fun c149 => ?_)
              · refine Tr.iconst (pc := 157) d_X5_plainFact_157 (by decide) ?_
                refine Tr.pick [0] (ls2 := [(0, (2, 6))]) rfl ?_
                exact J158 _ _ hS (by omega) ((St.kp h146 (by decide) (by decide) (by decide)).trans ((St.kp h132 (by decide) (by decide) (by decide)).trans ((St.kp h118 (by decide) (by decide) (by decide)).trans (x107_6_6 (by omega)))))
              · refine Tr.bipush (pc := 152) d_X5_plainFact_152 rfl (by decide) ?_
                refine Tr.goto (pc := 154) (tgt := 158) d_X5_plainFact_154 rfl ?_
                refine Tr.pick [0] (ls2 := [(0, (2, 6))]) rfl ?_
                exact J158 _ _ hS (by omega) ((St.kp h146 (by decide) (by decide) (by decide)).trans ((St.kp h132 (by decide) (by decide) (by decide)).trans ((St.kp h118 (by decide) (by decide) (by decide)).trans (x107_6_6 (by omega)))))
            · refine Tr.bipush (pc := 138) d_X5_plainFact_138 rfl (by decide) ?_
              refine Tr.goto (pc := 140) (tgt := 158) d_X5_plainFact_140 rfl ?_
              refine Tr.pick [0] (ls2 := [(0, (2, 6))]) rfl ?_
              exact J158 _ _ hS (by omega) ((St.kp h132 (by decide) (by decide) (by decide)).trans ((St.kp h118 (by decide) (by decide) (by decide)).trans (x107_6_6 (by omega))))
          · refine Tr.bipush (pc := 124) d_X5_plainFact_124 rfl (by decide) ?_
            refine Tr.goto (pc := 126) (tgt := 158) d_X5_plainFact_126 rfl ?_
            refine Tr.pick [0] (ls2 := [(0, (2, 6))]) rfl ?_
            exact J158 _ _ hS (by omega) ((St.kp h118 (by decide) (by decide) (by decide)).trans (x107_6_6 (by omega)))
        · refine Tr.iconst (pc := 113) d_X5_plainFact_113 (by decide) ?_
          exact Tr.zret (pc := 114) d_X5_plainFact_114 rfl (by omega) ⟨hS, _, rfl, by omega, by omega, fun hq => absurd hq (by omega)⟩
      · refine Tr.aload_n (pc := 72) (i := 0) d_X5_plainFact_72 rfl rfl ?_
        refine Tr.callV (pc := 73) (as := []) d_X5_plainFact_73 s_5_74 ok_X5_goOn rfl rfl (Nat.le_of_ble_eq_true rfl) (Nat.le_of_ble_eq_true rfl) (by decide) (ty_6 hS.1.1) ?_
        refine Tr.imp (Tr.deep (by decide) (sp_X5_goOn_6 hS.1 )) ?_
        rintro M73 _ ⟨h73, r73, rfl, lr73, ur73⟩
        have hS := St.tr hS h73 (by decide) (by decide)
        refine Tr.sc [(0, r73)] rfl ?_
        refine Tr.pop (pc := 76) d_X5_plainFact_76 ne01 ?_
        refine Tr.aload_n (pc := 77) (i := 0) d_X5_plainFact_77 rfl rfl ?_
        refine Tr.iconst (pc := 78) d_X5_plainFact_78 (by decide) ?_
        refine Tr.callV (pc := 79) (as := [_]) d_X5_plainFact_79 s_5_186 ok_X5_takeName rfl rfl (Nat.le_of_ble_eq_true rfl) (Nat.le_of_ble_eq_true rfl) (by decide) (ty_6 hS.1.1) ?_
        refine Tr.imp (Tr.deep (by decide) (sp_X5_takeName_6_v0_w1 hS.1 hE ((St.kp hS (by decide) (by decide) (by decide)).trans en_6_2) ((St.kp hS (by decide) (by decide) (by decide)).trans en_6_3))) ?_
        rintro M79 _ ⟨h79, r79, rfl, lr79, ur79⟩
        have hS := St.tr hS h79 (by decide) (by decide)
        refine Tr.sc [(0, r79)] rfl ?_
        refine Tr.istore_n (pc := 82) (i := 1) (ls2 := [(1, (0, r79)), (0, (2, 6))]) d_X5_plainFact_82 rfl (by decide) rfl ?_
        refine Tr.aload_n (pc := 83) (i := 0) d_X5_plainFact_83 rfl rfl ?_
        refine Tr.getf (pc := 84) d_X5_plainFact_84 f_5_32 (by decide) (by decide) (ty_6 hS.1.1) ?_
        refine Tr.tp 15 ((St.kp hS (by decide) (by decide) (by decide)).trans en_6_4) ?_
        refine Tr.iconst (pc := 87) d_X5_plainFact_87 (by decide) ?_
        refine Tr.iload_n (pc := 88) (i := 1) d_X5_plainFact_88 rfl rfl ?_
        refine Tr.iconst (pc := 89) d_X5_plainFact_89 (by decide) ?_
        refine Tr.mmax (pc := 90) d_X5_plainFact_90 ml_5_192 mw_mmax (Nat.le_of_ble_eq_true rfl) ?_
        refine Tr.gen (P := fun v => (v = r79 ∧ 0 ≤ r79) ∨ (v = 0 ∧ r79 ≤ 0)) (f_max_p _ _) (fun r90 er90 br90 => ?_)
        refine Tr.callV (pc := 93) (as := [_, _]) d_X5_plainFact_93 s_5_215 ok_X4_emit rfl rfl (Nat.le_of_ble_eq_true rfl) (Nat.le_of_ble_eq_true rfl) (by decide) (ty_15 hS.1.1) ?_
        refine Tr.imp (Tr.deep (by decide) (sp_X4_emit_15_w7 hS.1.wk 4 (by omega) r90 (by omega) (by omega))) ?_
        rintro M93 _ ⟨h93, rfl⟩
        have hS := St.tr hS h93 (by decide) (by decide)
        refine Tr.sc [] rfl ?_
        refine Tr.iload_n (pc := 96) (i := 1) d_X5_plainFact_96 rfl rfl ?_
        refine Tr.if_lt (pc := 97) (tgt := 104) d_X5_plainFact_97 rfl (fun c97 => ?_) (fun c97 => ?_)
        · refine Tr.iconst (pc := 104) d_X5_plainFact_104 (by decide) ?_
          exact Tr.zret (pc := 105) d_X5_plainFact_105 rfl (by omega) ⟨hS, _, rfl, by omega, by omega, fun hq => absurd hq (by omega)⟩
        · refine Tr.iconst (pc := 100) d_X5_plainFact_100 (by decide) ?_
          refine Tr.goto (pc := 101) (tgt := 105) d_X5_plainFact_101 rfl ?_
          exact Tr.zret (pc := 105) d_X5_plainFact_105 rfl (by omega) ⟨hS, _, rfl, by omega, by omega, fun _ => ((St.kp h93 (by decide) (by decide) (by decide)).trans ((St.kp h79 (by decide) (by decide) (by decide)).trans ((St.kp h73 (by decide) (by decide) (by decide)).trans ((St.kp h66 (by decide) (by decide) (by decide)).trans ((St.kp h43 (by decide) (by decide) (by decide)).trans ((St.kp h3 (by decide) (by decide) (by decide)).trans en_6_6))))))⟩
    · refine Tr.aload_n (pc := 49) (i := 0) d_X5_plainFact_49 rfl rfl ?_
      refine Tr.getf (pc := 50) d_X5_plainFact_50 f_5_32 (by decide) (by decide) (ty_6 hS.1.1) ?_
      refine Tr.tp 15 ((St.kp hS (by decide) (by decide) (by decide)).trans en_6_4) ?_
      refine Tr.iconst (pc := 53) d_X5_plainFact_53 (by decide) ?_
      refine Tr.iconst (pc := 54) d_X5_plainFact_54 (by decide) ?_
      refine Tr.callV (pc := 55) (as := [_, _]) d_X5_plainFact_55 s_5_215 ok_X4_emit rfl rfl (Nat.le_of_ble_eq_true rfl) (Nat.le_of_ble_eq_true rfl) (by decide) (ty_15 hS.1.1) ?_
      refine Tr.imp (Tr.deep (by decide) (sp_X4_emit_15_w3 hS.1.wk 0 (by omega) 1 (by omega) (by omega))) ?_
      rintro M55 _ ⟨h55, rfl⟩
      have hS := St.tr hS h55 (by decide) (by decide)
      refine Tr.sc [] rfl ?_
      refine Tr.aload_n (pc := 58) (i := 0) d_X5_plainFact_58 rfl rfl ?_
      refine Tr.callV (pc := 59) (as := []) d_X5_plainFact_59 s_5_74 ok_X5_goOn rfl rfl (Nat.le_of_ble_eq_true rfl) (Nat.le_of_ble_eq_true rfl) (by decide) (ty_6 hS.1.1) ?_
      refine Tr.imp (Tr.deep (by decide) (sp_X5_goOn_6 hS.1 )) ?_
      rintro M59 _ ⟨h59, r59, rfl, lr59, ur59⟩
      have hS := St.tr hS h59 (by decide) (by decide)
      refine Tr.sc [(0, r59)] rfl ?_
      exact Tr.zret (pc := 62) d_X5_plainFact_62 rfl (by omega) ⟨hS, _, rfl, by omega, by omega, fun _ => ((St.kp h59 (by decide) (by decide) (by decide)).trans ((St.kp h55 (by decide) (by decide) (by decide)).trans ((St.kp h43 (by decide) (by decide) (by decide)).trans ((St.kp h3 (by decide) (by decide) (by decide)).trans en_6_6))))⟩
  · refine Tr.aload_n (pc := 9) (i := 0) d_X5_plainFact_9 rfl rfl ?_
    refine Tr.bipush (pc := 10) d_X5_plainFact_10 rfl (by decide) ?_
    refine Tr.callV (pc := 12) (as := [_]) d_X5_plainFact_12 s_5_206 ok_X5_takeOpening rfl rfl (Nat.le_of_ble_eq_true rfl) (Nat.le_of_ble_eq_true rfl) (by decide) (ty_6 hS.1.1) ?_
    refine Tr.imp (Tr.deep (by decide) (sp_X5_takeOpening_6_w14 hS.1 ((St.kp hS (by decide) (by decide) (by decide)).trans en_6_2) ((St.kp h3 (by decide) (by decide) (by decide)).trans en_6_6) 91 (by omega))) ?_
    rintro M12 _ ⟨h12, r12, rfl, lr12, ur12, x12_6_6⟩
    have hS := St.tr hS h12 (by decide) (by decide)
    refine Tr.sc [(0, r12)] rfl ?_
    refine Tr.if_eq (pc := 15) (tgt := 38) d_X5_plainFact_15 rfl (fun c15 => ?_) (fun c15 => ?_)
    · refine Tr.iconst (pc := 38) d_X5_plainFact_38 (by decide) ?_
      exact Tr.zret (pc := 39) d_X5_plainFact_39 rfl (by omega) ⟨hS, _, rfl, by omega, by omega, fun hq => absurd hq (by omega)⟩
    · refine Tr.aload_n (pc := 18) (i := 0) d_X5_plainFact_18 rfl rfl ?_
      refine Tr.callV (pc := 19) (as := []) d_X5_plainFact_19 s_5_177 ok_X5_test rfl rfl (Nat.le_of_ble_eq_true rfl) (Nat.le_of_ble_eq_true rfl) (by decide) (ty_6 hS.1.1) ?_
      refine Tr.imp (Tr.deep (by decide) (sp_X5_test_6_w15 hS.1 hE ((St.kp hS (by decide) (by decide) (by decide)).trans en_6_2) ((St.kp hS (by decide) (by decide) (by decide)).trans en_6_3) ((St.kp hS (by decide) (by decide) (by decide)).trans en_6_4) (x12_6_6 (by omega)))) ?_
      rintro M19 _ ⟨h19, r19, rfl, lr19, ur19, x19_6_6⟩
      have hS := St.tr hS h19 (by decide) (by decide)
      refine Tr.sc [(0, r19)] rfl ?_
      refine Tr.if_eq (pc := 22) (tgt := 38) d_X5_plainFact_22 rfl (fun c22 => ?_) (fun c22 => ?_)
      · refine Tr.iconst (pc := 38) d_X5_plainFact_38 (by decide) ?_
        exact Tr.zret (pc := 39) d_X5_plainFact_39 rfl (by omega) ⟨hS, _, rfl, by omega, by omega, fun hq => absurd hq (by omega)⟩
      · refine Tr.aload_n (pc := 25) (i := 0) d_X5_plainFact_25 rfl rfl ?_
        refine Tr.bipush (pc := 26) d_X5_plainFact_26 rfl (by decide) ?_
        refine Tr.callV (pc := 28) (as := [_]) d_X5_plainFact_28 s_5_209 ok_X5_takeClosing rfl rfl (Nat.le_of_ble_eq_true rfl) (Nat.le_of_ble_eq_true rfl) (by decide) (ty_6 hS.1.1) ?_
        refine Tr.imp (Tr.deep (by decide) (sp_X5_takeClosing_6_w10 hS.1 ((St.kp hS (by decide) (by decide) (by decide)).trans en_6_2) (x19_6_6 (by omega)) 93 (by omega))) ?_
        rintro M28 _ ⟨h28, r28, rfl, lr28, ur28, x28_6_6⟩
        have hS := St.tr hS h28 (by decide) (by decide)
        refine Tr.sc [(0, r28)] rfl ?_
        refine Tr.if_eq (pc := 31) (tgt := 38) d_X5_plainFact_31 rfl (fun c31 => ?_) (fun c31 => ?_)
        · refine Tr.iconst (pc := 38) d_X5_plainFact_38 (by decide) ?_
          exact Tr.zret (pc := 39) d_X5_plainFact_39 rfl (by omega) ⟨hS, _, rfl, by omega, by omega, fun hq => absurd hq (by omega)⟩
        · refine Tr.iconst (pc := 34) d_X5_plainFact_34 (by decide) ?_
          refine Tr.goto (pc := 35) (tgt := 39) d_X5_plainFact_35 rfl ?_
          exact Tr.zret (pc := 39) d_X5_plainFact_39 rfl (by omega) ⟨hS, _, rfl, by omega, by omega, fun _ => (x28_6_6 (by omega))⟩

def ws_X5_fact_6_w14 : List (Int × Int) := [(6, 0), (6, 1), (6, 5), (6, 6), (15, 11)]
def as_X5_fact_6_w14 : List Int := [24, 25]
def q_X5_fact_6_w14 (M0 M' : Mem) (r : Option PV) : Prop := St Tru ws_X5_fact_6_w14 as_X5_fact_6_w14 M0 M' ∧ ∃ v : Int, r = some (0, v) ∧ 0 ≤ v ∧ v ≤ 1 ∧ ((1 ≤ v ∧ v ≤ 1) → rd M' 6 6 = 5)
set_option maxRecDepth 100000 in
set_option maxHeartbeats 4000000 in
theorem sp_X5_fact_6_w14 {l : Launch} {K : EC} {M0 : Mem} {xq : Int} (hI : In Tru M0) (hE : e_all K xq) (en_6_2 : rd M0 6 2 = 2) (en_6_3 : rd M0 6 3 = 7) (en_6_4 : rd M0 6 4 = 15) (en_6_6 : rd M0 6 6 = 5)   : Tr l K 19 mX5_fact 0 [(0, (2, 6))] [] M0 (q_X5_fact_6_w14 M0) := by
  have hS : St Tru ws_X5_fact_6_w14 as_X5_fact_6_w14 M0 M0 := St.rf hI
  refine Tr.iconst (pc := 0) d_X5_fact_0 (by decide) ?_
  refine Tr.istore_n (pc := 1) (i := 1) (ls2 := [(1, (0, 0)), (0, (2, 6))]) d_X5_fact_1 rfl (by decide) rfl ?_
  refine Tr.iconst (pc := 2) d_X5_fact_2 (by decide) ?_
  refine Tr.istore_n (pc := 3) (i := 2) (ls2 := [(2, (0, 0)), (1, (0, 0)), (0, (2, 6))]) d_X5_fact_3 rfl (by decide) rfl ?_
  have J4 : ∀ (n4 : Nat) (M : Mem) (p4_1 p4_2 : Int), St Tru ws_X5_fact_6_w14 as_X5_fact_6_w14 M0 M → (0 ≤ p4_1 ∧ p4_1 ≤ 1) → (0 ≤ p4_2 ∧ p4_2 ≤ 900) → rd M 6 6 = 5 → (900 - p4_2).toNat < n4 → Tr l K 19 mX5_fact 4 [(0, (2, 6)), (1, (0, p4_1)), (2, (0, p4_2))] [] M (q_X5_fact_6_w14 M0) := by
    intro n4
    induction n4 with
    | zero => intro M p4_1 p4_2 hS bp4_1 bp4_2 k4_6_6 hm4; exact absurd hm4 (Nat.not_lt_zero _)
    | succ n4 J4 =>
      intro M p4_1 p4_2 hS bp4_1 bp4_2 k4_6_6 hm4
      refine Tr.iload_n (pc := 4) (i := 2) d_X5_fact_4 rfl rfl ?_
      refine Tr.sipush (pc := 5) d_X5_fact_5 rfl (by decide) ?_
      have J41 : ∀ (M : Mem), St Tru ws_X5_fact_6_w14 as_X5_fact_6_w14 M0 M → rd M 6 6 = 5 → Tr l K 19 mX5_fact 41 [(0, (2, 6)), (1, (0, p4_1))] [] M (q_X5_fact_6_w14 M0) := by
        intro M  hS  k41_6_6
        refine Tr.aload_n (pc := 41) (i := 0) d_X5_fact_41 rfl rfl ?_
        refine Tr.callV (pc := 42) (as := []) d_X5_fact_42 s_5_221 ok_X5_plainFact rfl rfl (Nat.le_of_ble_eq_true rfl) (Nat.le_of_ble_eq_true rfl) (by decide) (ty_6 hS.1.1) ?_
        refine Tr.imp (Tr.deep (by decide) (sp_X5_plainFact_6_w14 hS.1 hE ((St.kp hS (by decide) (by decide) (by decide)).trans en_6_2) ((St.kp hS (by decide) (by decide) (by decide)).trans en_6_3) ((St.kp hS (by decide) (by decide) (by decide)).trans en_6_4) k41_6_6)) ?_
        rintro M42 _ ⟨h42, r42, rfl, lr42, ur42, x42_6_6⟩
        have hS := St.tr hS h42 (by decide) (by decide)
        refine Tr.sc [(0, r42)] rfl ?_
        refine Tr.istore_n (pc := 45) (i := 2) (ls2 := [(2, (0, r42)), (0, (2, 6)), (1, (0, p4_1))]) d_X5_fact_45 rfl (by decide) rfl ?_
        refine Tr.iload_n (pc := 46) (i := 1) d_X5_fact_46 rfl rfl ?_
        refine Tr.if_eq (pc := 47) (tgt := 59) d_X5_fact_47 rfl (fun c47 => ?_) (fun c47 => ?_)
        · refine Tr.iload_n (pc := 59) (i := 2) d_X5_fact_59 rfl rfl ?_
          exact Tr.zret (pc := 60) d_X5_fact_60 rfl (by omega) ⟨hS, _, rfl, by omega, by omega, fun hq => (x42_6_6 (by omega))⟩
        · refine Tr.aload_n (pc := 50) (i := 0) d_X5_fact_50 rfl rfl ?_
          refine Tr.getf (pc := 51) d_X5_fact_51 f_5_32 (by decide) (by decide) (ty_6 hS.1.1) ?_
          refine Tr.tp 15 ((St.kp hS (by decide) (by decide) (by decide)).trans en_6_4) ?_
          refine Tr.iconst (pc := 54) d_X5_fact_54 (by decide) ?_
          refine Tr.iconst (pc := 55) d_X5_fact_55 (by decide) ?_
          refine Tr.callV (pc := 56) (as := [_, _]) d_X5_fact_56 s_5_215 ok_X4_emit rfl rfl (Nat.le_of_ble_eq_true rfl) (Nat.le_of_ble_eq_true rfl) (by decide) (ty_15 hS.1.1) ?_
          refine Tr.imp (Tr.deep (by decide) (sp_X4_emit_15_w7 hS.1.wk 5 (by omega) 0 (by omega) (by omega))) ?_
          rintro M56 _ ⟨h56, rfl⟩
          have hS := St.tr hS h56 (by decide) (by decide)
          refine Tr.sc [] rfl ?_
          refine Tr.iload_n (pc := 59) (i := 2) d_X5_fact_59 rfl rfl ?_
          exact Tr.zret (pc := 60) d_X5_fact_60 rfl (by omega) ⟨hS, _, rfl, by omega, by omega, fun hq => ((St.kp h56 (by decide) (by decide) (by decide)).trans (x42_6_6 (by omega)))⟩
      refine Tr.icmp_ge (pc := 8) (tgt := 41) d_X5_fact_8 rfl (fun c8 => ?_) (fun c8 => ?_)
      · refine Tr.pick [0, 1] (ls2 := [(0, (2, 6)), (1, (0, p4_1))]) rfl ?_
        exact J41 _ hS k4_6_6
      · refine Tr.aload_n (pc := 11) (i := 0) d_X5_fact_11 rfl rfl ?_
        refine Tr.bipush (pc := 12) d_X5_fact_12 rfl (by decide) ?_
        refine Tr.callV (pc := 14) (as := [_]) d_X5_fact_14 s_5_71 ok_X5_isOwn rfl rfl (Nat.le_of_ble_eq_true rfl) (Nat.le_of_ble_eq_true rfl) (by decide) (ty_6 hS.1.1) ?_
        refine Tr.imp (Tr.deep (by decide) (sp_X5_isOwn_6_w4 hS.1 ((St.kp hS (by decide) (by decide) (by decide)).trans en_6_2) 21 (by omega))) ?_
        rintro M14 _ ⟨h14, r14, rfl, lr14, ur14⟩
        have hS := St.tr hS h14 (by decide) (by decide)
        refine Tr.sc [(0, r14)] rfl ?_
        refine Tr.if_eq (pc := 17) (tgt := 41) d_X5_fact_17 rfl (fun c17 => ?_) (fun c17 => ?_)
        · refine Tr.pick [0, 1] (ls2 := [(0, (2, 6)), (1, (0, p4_1))]) rfl ?_
          exact J41 _ hS ((St.kp h14 (by decide) (by decide) (by decide)).trans k4_6_6)
        · refine Tr.aload_n (pc := 20) (i := 0) d_X5_fact_20 rfl rfl ?_
          refine Tr.callV (pc := 21) (as := []) d_X5_fact_21 s_5_74 ok_X5_goOn rfl rfl (Nat.le_of_ble_eq_true rfl) (Nat.le_of_ble_eq_true rfl) (by decide) (ty_6 hS.1.1) ?_
          refine Tr.imp (Tr.deep (by decide) (sp_X5_goOn_6 hS.1 )) ?_
          rintro M21 _ ⟨h21, r21, rfl, lr21, ur21⟩
          have hS := St.tr hS h21 (by decide) (by decide)
          refine Tr.sc [(0, r21)] rfl ?_
          refine Tr.pop (pc := 24) d_X5_fact_24 ne01 ?_
          refine Tr.iload_n (pc := 25) (i := 1) d_X5_fact_25 rfl rfl ?_
          have J34 : ∀ (M : Mem) (q34_0 : Int), St Tru ws_X5_fact_6_w14 as_X5_fact_6_w14 M0 M → (0 ≤ q34_0 ∧ q34_0 ≤ 1) → rd M 6 6 = 5 → Tr l K 19 mX5_fact 34 [(0, (2, 6)), (2, (0, p4_2))] [(0, q34_0)] M (q_X5_fact_6_w14 M0) := by
            intro M q34_0 hS bq34_0 k34_6_6
            refine Tr.istore_n (pc := 34) (i := 1) (ls2 := [(1, (0, q34_0)), (0, (2, 6)), (2, (0, p4_2))]) d_X5_fact_34 rfl (by decide) rfl ?_
            refine Tr.iincV (pc := 35) (n2 := (p4_2 + 1)) (ls2 := [(2, (0, (p4_2 + 1))), (1, (0, q34_0)), (0, (2, 6))]) d_X5_fact_35 rfl (by decide) ((w32_id (by omega)).trans (by omega)) rfl ?_
            refine Tr.goto (pc := 38) (tgt := 4) d_X5_fact_38 rfl ?_
            refine Tr.pick [2, 1, 0] (ls2 := [(0, (2, 6)), (1, (0, q34_0)), (2, (0, (p4_2 + 1)))]) rfl ?_
            exact J4 _ _ _ hS (by omega) (by omega) k34_6_6 (by omega)
          refine Tr.if_ne (pc := 26) (tgt := 33) d_X5_fact_26 rfl (fun c26 => ?_) (fun c26 => ?_)
          · refine Tr.iconst (pc := 33) d_X5_fact_33 (by decide) ?_
            refine Tr.pick [0, 2] (ls2 := [(0, (2, 6)), (2, (0, p4_2))]) rfl ?_
            exact J34 _ _ hS (by omega) ((St.kp h21 (by decide) (by decide) (by decide)).trans ((St.kp h14 (by decide) (by decide) (by decide)).trans k4_6_6))
          · refine Tr.iconst (pc := 29) d_X5_fact_29 (by decide) ?_
            refine Tr.goto (pc := 30) (tgt := 34) d_X5_fact_30 rfl ?_
            refine Tr.pick [0, 2] (ls2 := [(0, (2, 6)), (2, (0, p4_2))]) rfl ?_
            exact J34 _ _ hS (by omega) ((St.kp h21 (by decide) (by decide) (by decide)).trans ((St.kp h14 (by decide) (by decide) (by decide)).trans k4_6_6))
  refine Tr.pick [2, 1, 0] (ls2 := [(0, (2, 6)), (1, (0, 0)), (2, (0, 0))]) rfl ?_
  exact J4 _ _ _ _ hS (by omega) (by omega) en_6_6 (Nat.lt_succ_self _)

def ws_X5_both_6_w14 : List (Int × Int) := [(6, 0), (6, 1), (6, 5), (6, 6), (15, 11)]
def as_X5_both_6_w14 : List Int := [24, 25]
def q_X5_both_6_w14 (M0 M' : Mem) (r : Option PV) : Prop := St Tru ws_X5_both_6_w14 as_X5_both_6_w14 M0 M' ∧ ∃ v : Int, r = some (0, v) ∧ 0 ≤ v ∧ v ≤ 1 ∧ ((1 ≤ v ∧ v ≤ 1) → rd M' 6 6 = 5)
set_option maxRecDepth 100000 in
set_option maxHeartbeats 4000000 in
theorem sp_X5_both_6_w14 {l : Launch} {K : EC} {M0 : Mem} {xq : Int} (hI : In Tru M0) (hE : e_all K xq) (en_6_2 : rd M0 6 2 = 2) (en_6_3 : rd M0 6 3 = 7) (en_6_4 : rd M0 6 4 = 15) (en_6_6 : rd M0 6 6 = 5)   : Tr l K 20 mX5_both 0 [(0, (2, 6))] [] M0 (q_X5_both_6_w14 M0) := by
  have hS : St Tru ws_X5_both_6_w14 as_X5_both_6_w14 M0 M0 := St.rf hI
  refine Tr.aload_n (pc := 0) (i := 0) d_X5_both_0 rfl rfl ?_
  refine Tr.callV (pc := 1) (as := []) d_X5_both_1 s_5_218 ok_X5_fact rfl rfl (Nat.le_of_ble_eq_true rfl) (Nat.le_of_ble_eq_true rfl) (by decide) (ty_6 hS.1.1) ?_
  refine Tr.imp (Tr.deep (by decide) (sp_X5_fact_6_w14 hS.1 hE ((St.kp hS (by decide) (by decide) (by decide)).trans en_6_2) ((St.kp hS (by decide) (by decide) (by decide)).trans en_6_3) ((St.kp hS (by decide) (by decide) (by decide)).trans en_6_4) en_6_6)) ?_
  rintro M1 _ ⟨h1, r1, rfl, lr1, ur1, x1_6_6⟩
  have hS := St.tr hS h1 (by decide) (by decide)
  refine Tr.sc [(0, r1)] rfl ?_
  refine Tr.istore_n (pc := 4) (i := 1) (ls2 := [(1, (0, r1)), (0, (2, 6))]) d_X5_both_4 rfl (by decide) rfl ?_
  refine Tr.iconst (pc := 5) d_X5_both_5 (by decide) ?_
  refine Tr.istore_n (pc := 6) (i := 2) (ls2 := [(2, (0, 0)), (1, (0, r1)), (0, (2, 6))]) d_X5_both_6 rfl (by decide) rfl ?_
  have J7 : ∀ (n7 : Nat) (M : Mem) (p7_1 p7_2 : Int), St Tru ws_X5_both_6_w14 as_X5_both_6_w14 M0 M → (0 ≤ p7_1 ∧ p7_1 ≤ 1) → (0 ≤ p7_2 ∧ p7_2 ≤ 900) → (p7_1 = 1 → rd M 6 6 = 5) → (900 - p7_2).toNat < n7 → Tr l K 20 mX5_both 7 [(0, (2, 6)), (1, (0, p7_1)), (2, (0, p7_2))] [] M (q_X5_both_6_w14 M0) := by
    intro n7
    induction n7 with
    | zero => intro M p7_1 p7_2 hS bp7_1 bp7_2  y7_p7_1_6_60 hm7; exact absurd hm7 (Nat.not_lt_zero _)
    | succ n7 J7 =>
      intro M p7_1 p7_2 hS bp7_1 bp7_2  y7_p7_1_6_60 hm7
      have y7_p7_1_6_6 : 1 ≤ p7_1 ∧ p7_1 ≤ 1 → rd M 6 6 = 5 := fun hq => y7_p7_1_6_60 (by omega)
      refine Tr.iload_n (pc := 7) (i := 2) d_X5_both_7 rfl rfl ?_
      refine Tr.sipush (pc := 8) d_X5_both_8 rfl (by decide) ?_
      refine Tr.icmp_ge (pc := 11) (tgt := 53) d_X5_both_11 rfl (fun c11 => ?_) (fun c11 => ?_)
      · refine Tr.iload_n (pc := 53) (i := 1) d_X5_both_53 rfl rfl ?_
        exact Tr.zret (pc := 54) d_X5_both_54 rfl (by omega) ⟨hS, _, rfl, by omega, by omega, fun hq => (y7_p7_1_6_6 (by omega))⟩
      · refine Tr.iload_n (pc := 14) (i := 1) d_X5_both_14 rfl rfl ?_
        refine Tr.if_eq (pc := 15) (tgt := 53) d_X5_both_15 rfl (fun c15 => ?_) (fun c15 => ?_)
        · refine Tr.iload_n (pc := 53) (i := 1) d_X5_both_53 rfl rfl ?_
          exact Tr.zret (pc := 54) d_X5_both_54 rfl (by omega) ⟨hS, _, rfl, by omega, by omega, fun hq => absurd hq (by omega)⟩
        · refine Tr.aload_n (pc := 18) (i := 0) d_X5_both_18 rfl rfl ?_
          refine Tr.bipush (pc := 19) d_X5_both_19 rfl (by decide) ?_
          refine Tr.callV (pc := 21) (as := [_]) d_X5_both_21 s_5_71 ok_X5_isOwn rfl rfl (Nat.le_of_ble_eq_true rfl) (Nat.le_of_ble_eq_true rfl) (by decide) (ty_6 hS.1.1) ?_
          refine Tr.imp (Tr.deep (by decide) (sp_X5_isOwn_6_w3 hS.1 ((St.kp hS (by decide) (by decide) (by decide)).trans en_6_2) 20 (by omega))) ?_
          rintro M21 _ ⟨h21, r21, rfl, lr21, ur21⟩
          have hS := St.tr hS h21 (by decide) (by decide)
          refine Tr.sc [(0, r21)] rfl ?_
          refine Tr.if_eq (pc := 24) (tgt := 53) d_X5_both_24 rfl (fun c24 => ?_) (fun c24 => ?_)
          · refine Tr.iload_n (pc := 53) (i := 1) d_X5_both_53 rfl rfl ?_
            exact Tr.zret (pc := 54) d_X5_both_54 rfl (by omega) ⟨hS, _, rfl, by omega, by omega, fun _ => ((St.kp h21 (by decide) (by decide) (by decide)).trans (y7_p7_1_6_6 (by omega)))⟩
          · refine Tr.aload_n (pc := 27) (i := 0) d_X5_both_27 rfl rfl ?_
            refine Tr.callV (pc := 28) (as := []) d_X5_both_28 s_5_74 ok_X5_goOn rfl rfl (Nat.le_of_ble_eq_true rfl) (Nat.le_of_ble_eq_true rfl) (by decide) (ty_6 hS.1.1) ?_
            refine Tr.imp (Tr.deep (by decide) (sp_X5_goOn_6 hS.1 )) ?_
            rintro M28 _ ⟨h28, r28, rfl, lr28, ur28⟩
            have hS := St.tr hS h28 (by decide) (by decide)
            refine Tr.sc [(0, r28)] rfl ?_
            refine Tr.pop (pc := 31) d_X5_both_31 ne01 ?_
            refine Tr.aload_n (pc := 32) (i := 0) d_X5_both_32 rfl rfl ?_
            refine Tr.callV (pc := 33) (as := []) d_X5_both_33 s_5_218 ok_X5_fact rfl rfl (Nat.le_of_ble_eq_true rfl) (Nat.le_of_ble_eq_true rfl) (by decide) (ty_6 hS.1.1) ?_
            refine Tr.imp (Tr.deep (by decide) (sp_X5_fact_6_w14 hS.1 hE ((St.kp hS (by decide) (by decide) (by decide)).trans en_6_2) ((St.kp hS (by decide) (by decide) (by decide)).trans en_6_3) ((St.kp hS (by decide) (by decide) (by decide)).trans en_6_4) ((St.kp h28 (by decide) (by decide) (by decide)).trans ((St.kp h21 (by decide) (by decide) (by decide)).trans (y7_p7_1_6_6 (by omega)))))) ?_
            rintro M33 _ ⟨h33, r33, rfl, lr33, ur33, x33_6_6⟩
            have hS := St.tr hS h33 (by decide) (by decide)
            refine Tr.sc [(0, r33)] rfl ?_
            refine Tr.istore_n (pc := 36) (i := 1) (ls2 := [(1, (0, r33)), (0, (2, 6)), (2, (0, p7_2))]) d_X5_both_36 rfl (by decide) rfl ?_
            refine Tr.aload_n (pc := 37) (i := 0) d_X5_both_37 rfl rfl ?_
            refine Tr.getf (pc := 38) d_X5_both_38 f_5_32 (by decide) (by decide) (ty_6 hS.1.1) ?_
            refine Tr.tp 15 ((St.kp hS (by decide) (by decide) (by decide)).trans en_6_4) ?_
            refine Tr.bipush (pc := 41) d_X5_both_41 rfl (by decide) ?_
            refine Tr.iconst (pc := 43) d_X5_both_43 (by decide) ?_
            refine Tr.callV (pc := 44) (as := [_, _]) d_X5_both_44 s_5_215 ok_X4_emit rfl rfl (Nat.le_of_ble_eq_true rfl) (Nat.le_of_ble_eq_true rfl) (by decide) (ty_15 hS.1.1) ?_
            refine Tr.imp (Tr.deep (by decide) (sp_X4_emit_15_w9 hS.1.wk 16 (by omega) 0 (by omega) (by omega))) ?_
            rintro M44 _ ⟨h44, rfl⟩
            have hS := St.tr hS h44 (by decide) (by decide)
            refine Tr.sc [] rfl ?_
            refine Tr.iincV (pc := 47) (n2 := (p7_2 + 1)) (ls2 := [(2, (0, (p7_2 + 1))), (1, (0, r33)), (0, (2, 6))]) d_X5_both_47 rfl (by decide) ((w32_id (by omega)).trans (by omega)) rfl ?_
            refine Tr.goto (pc := 50) (tgt := 7) d_X5_both_50 rfl ?_
            refine Tr.pick [2, 1, 0] (ls2 := [(0, (2, 6)), (1, (0, r33)), (2, (0, (p7_2 + 1)))]) rfl ?_
            exact J7 _ _ _ hS (by omega) (by omega) (fun hq => ((St.kp h44 (by decide) (by decide) (by decide)).trans (x33_6_6 (by omega)))) (by omega)
  refine Tr.pick [2, 1, 0] (ls2 := [(0, (2, 6)), (1, (0, r1)), (2, (0, 0))]) rfl ?_
  exact J7 _ _ _ _ hS (by omega) (by omega) (fun hq => (x1_6_6 (by omega))) (Nat.lt_succ_self _)

def ws_X5_test_6_w14 : List (Int × Int) := [(6, 0), (6, 1), (6, 5), (6, 6), (15, 11)]
def as_X5_test_6_w14 : List Int := [24, 25]
def q_X5_test_6_w14 (M0 M' : Mem) (r : Option PV) : Prop := St Tru ws_X5_test_6_w14 as_X5_test_6_w14 M0 M' ∧ ∃ v : Int, r = some (0, v) ∧ 0 ≤ v ∧ v ≤ 1 ∧ ((1 ≤ v ∧ v ≤ 1) → rd M' 6 6 = 5)
set_option maxRecDepth 100000 in
set_option maxHeartbeats 4000000 in
theorem sp_X5_test_6_w14 {l : Launch} {K : EC} {M0 : Mem} {xq : Int} (hI : In Tru M0) (hE : e_all K xq) (en_6_2 : rd M0 6 2 = 2) (en_6_3 : rd M0 6 3 = 7) (en_6_4 : rd M0 6 4 = 15) (en_6_6 : rd M0 6 6 = 5)   : Tr l K 21 mX5_test 0 [(0, (2, 6))] [] M0 (q_X5_test_6_w14 M0) := by
  have hS : St Tru ws_X5_test_6_w14 as_X5_test_6_w14 M0 M0 := St.rf hI
  refine Tr.aload_n (pc := 0) (i := 0) d_X5_test_0 rfl rfl ?_
  refine Tr.callV (pc := 1) (as := []) d_X5_test_1 s_5_212 ok_X5_both rfl rfl (Nat.le_of_ble_eq_true rfl) (Nat.le_of_ble_eq_true rfl) (by decide) (ty_6 hS.1.1) ?_
  refine Tr.imp (Tr.deep (by decide) (sp_X5_both_6_w14 hS.1 hE ((St.kp hS (by decide) (by decide) (by decide)).trans en_6_2) ((St.kp hS (by decide) (by decide) (by decide)).trans en_6_3) ((St.kp hS (by decide) (by decide) (by decide)).trans en_6_4) en_6_6)) ?_
  rintro M1 _ ⟨h1, r1, rfl, lr1, ur1, x1_6_6⟩
  have hS := St.tr hS h1 (by decide) (by decide)
  refine Tr.sc [(0, r1)] rfl ?_
  refine Tr.istore_n (pc := 4) (i := 1) (ls2 := [(1, (0, r1)), (0, (2, 6))]) d_X5_test_4 rfl (by decide) rfl ?_
  refine Tr.iconst (pc := 5) d_X5_test_5 (by decide) ?_
  refine Tr.istore_n (pc := 6) (i := 2) (ls2 := [(2, (0, 0)), (1, (0, r1)), (0, (2, 6))]) d_X5_test_6 rfl (by decide) rfl ?_
  have J7 : ∀ (n7 : Nat) (M : Mem) (p7_1 p7_2 : Int), St Tru ws_X5_test_6_w14 as_X5_test_6_w14 M0 M → (0 ≤ p7_1 ∧ p7_1 ≤ 1) → (0 ≤ p7_2 ∧ p7_2 ≤ 900) → (p7_1 = 1 → rd M 6 6 = 5) → (900 - p7_2).toNat < n7 → Tr l K 21 mX5_test 7 [(0, (2, 6)), (1, (0, p7_1)), (2, (0, p7_2))] [] M (q_X5_test_6_w14 M0) := by
    intro n7
    induction n7 with
    | zero => intro M p7_1 p7_2 hS bp7_1 bp7_2  y7_p7_1_6_60 hm7; exact absurd hm7 (Nat.not_lt_zero _)
    | succ n7 J7 =>
      intro M p7_1 p7_2 hS bp7_1 bp7_2  y7_p7_1_6_60 hm7
      have y7_p7_1_6_6 : 1 ≤ p7_1 ∧ p7_1 ≤ 1 → rd M 6 6 = 5 := fun hq => y7_p7_1_6_60 (by omega)
      refine Tr.iload_n (pc := 7) (i := 2) d_X5_test_7 rfl rfl ?_
      refine Tr.sipush (pc := 8) d_X5_test_8 rfl (by decide) ?_
      refine Tr.icmp_ge (pc := 11) (tgt := 53) d_X5_test_11 rfl (fun c11 => ?_) (fun c11 => ?_)
      · refine Tr.iload_n (pc := 53) (i := 1) d_X5_test_53 rfl rfl ?_
        exact Tr.zret (pc := 54) d_X5_test_54 rfl (by omega) ⟨hS, _, rfl, by omega, by omega, fun hq => (y7_p7_1_6_6 (by omega))⟩
      · refine Tr.iload_n (pc := 14) (i := 1) d_X5_test_14 rfl rfl ?_
        refine Tr.if_eq (pc := 15) (tgt := 53) d_X5_test_15 rfl (fun c15 => ?_) (fun c15 => ?_)
        · refine Tr.iload_n (pc := 53) (i := 1) d_X5_test_53 rfl rfl ?_
          exact Tr.zret (pc := 54) d_X5_test_54 rfl (by omega) ⟨hS, _, rfl, by omega, by omega, fun hq => absurd hq (by omega)⟩
        · refine Tr.aload_n (pc := 18) (i := 0) d_X5_test_18 rfl rfl ?_
          refine Tr.bipush (pc := 19) d_X5_test_19 rfl (by decide) ?_
          refine Tr.callV (pc := 21) (as := [_]) d_X5_test_21 s_5_71 ok_X5_isOwn rfl rfl (Nat.le_of_ble_eq_true rfl) (Nat.le_of_ble_eq_true rfl) (by decide) (ty_6 hS.1.1) ?_
          refine Tr.imp (Tr.deep (by decide) (sp_X5_isOwn_6_w3 hS.1 ((St.kp hS (by decide) (by decide) (by decide)).trans en_6_2) 19 (by omega))) ?_
          rintro M21 _ ⟨h21, r21, rfl, lr21, ur21⟩
          have hS := St.tr hS h21 (by decide) (by decide)
          refine Tr.sc [(0, r21)] rfl ?_
          refine Tr.if_eq (pc := 24) (tgt := 53) d_X5_test_24 rfl (fun c24 => ?_) (fun c24 => ?_)
          · refine Tr.iload_n (pc := 53) (i := 1) d_X5_test_53 rfl rfl ?_
            exact Tr.zret (pc := 54) d_X5_test_54 rfl (by omega) ⟨hS, _, rfl, by omega, by omega, fun _ => ((St.kp h21 (by decide) (by decide) (by decide)).trans (y7_p7_1_6_6 (by omega)))⟩
          · refine Tr.aload_n (pc := 27) (i := 0) d_X5_test_27 rfl rfl ?_
            refine Tr.callV (pc := 28) (as := []) d_X5_test_28 s_5_74 ok_X5_goOn rfl rfl (Nat.le_of_ble_eq_true rfl) (Nat.le_of_ble_eq_true rfl) (by decide) (ty_6 hS.1.1) ?_
            refine Tr.imp (Tr.deep (by decide) (sp_X5_goOn_6 hS.1 )) ?_
            rintro M28 _ ⟨h28, r28, rfl, lr28, ur28⟩
            have hS := St.tr hS h28 (by decide) (by decide)
            refine Tr.sc [(0, r28)] rfl ?_
            refine Tr.pop (pc := 31) d_X5_test_31 ne01 ?_
            refine Tr.aload_n (pc := 32) (i := 0) d_X5_test_32 rfl rfl ?_
            refine Tr.callV (pc := 33) (as := []) d_X5_test_33 s_5_212 ok_X5_both rfl rfl (Nat.le_of_ble_eq_true rfl) (Nat.le_of_ble_eq_true rfl) (by decide) (ty_6 hS.1.1) ?_
            refine Tr.imp (Tr.deep (by decide) (sp_X5_both_6_w14 hS.1 hE ((St.kp hS (by decide) (by decide) (by decide)).trans en_6_2) ((St.kp hS (by decide) (by decide) (by decide)).trans en_6_3) ((St.kp hS (by decide) (by decide) (by decide)).trans en_6_4) ((St.kp h28 (by decide) (by decide) (by decide)).trans ((St.kp h21 (by decide) (by decide) (by decide)).trans (y7_p7_1_6_6 (by omega)))))) ?_
            rintro M33 _ ⟨h33, r33, rfl, lr33, ur33, x33_6_6⟩
            have hS := St.tr hS h33 (by decide) (by decide)
            refine Tr.sc [(0, r33)] rfl ?_
            refine Tr.istore_n (pc := 36) (i := 1) (ls2 := [(1, (0, r33)), (0, (2, 6)), (2, (0, p7_2))]) d_X5_test_36 rfl (by decide) rfl ?_
            refine Tr.aload_n (pc := 37) (i := 0) d_X5_test_37 rfl rfl ?_
            refine Tr.getf (pc := 38) d_X5_test_38 f_5_32 (by decide) (by decide) (ty_6 hS.1.1) ?_
            refine Tr.tp 15 ((St.kp hS (by decide) (by decide) (by decide)).trans en_6_4) ?_
            refine Tr.bipush (pc := 41) d_X5_test_41 rfl (by decide) ?_
            refine Tr.iconst (pc := 43) d_X5_test_43 (by decide) ?_
            refine Tr.callV (pc := 44) (as := [_, _]) d_X5_test_44 s_5_215 ok_X4_emit rfl rfl (Nat.le_of_ble_eq_true rfl) (Nat.le_of_ble_eq_true rfl) (by decide) (ty_15 hS.1.1) ?_
            refine Tr.imp (Tr.deep (by decide) (sp_X4_emit_15_w10 hS.1.wk 17 (by omega) 0 (by omega) (by omega))) ?_
            rintro M44 _ ⟨h44, rfl⟩
            have hS := St.tr hS h44 (by decide) (by decide)
            refine Tr.sc [] rfl ?_
            refine Tr.iincV (pc := 47) (n2 := (p7_2 + 1)) (ls2 := [(2, (0, (p7_2 + 1))), (1, (0, r33)), (0, (2, 6))]) d_X5_test_47 rfl (by decide) ((w32_id (by omega)).trans (by omega)) rfl ?_
            refine Tr.goto (pc := 50) (tgt := 7) d_X5_test_50 rfl ?_
            refine Tr.pick [2, 1, 0] (ls2 := [(0, (2, 6)), (1, (0, r33)), (2, (0, (p7_2 + 1)))]) rfl ?_
            exact J7 _ _ _ hS (by omega) (by omega) (fun hq => ((St.kp h44 (by decide) (by decide) (by decide)).trans (x33_6_6 (by omega)))) (by omega)
  refine Tr.pick [2, 1, 0] (ls2 := [(0, (2, 6)), (1, (0, r1)), (2, (0, 0))]) rfl ?_
  exact J7 _ _ _ _ hS (by omega) (by omega) (fun hq => (x1_6_6 (by omega))) (Nat.lt_succ_self _)

def ws_X5_plainFact_6_w13 : List (Int × Int) := [(6, 0), (6, 1), (6, 5), (6, 6), (15, 11)]
def as_X5_plainFact_6_w13 : List Int := [24, 25]
def q_X5_plainFact_6_w13 (M0 M' : Mem) (r : Option PV) : Prop := St Tru ws_X5_plainFact_6_w13 as_X5_plainFact_6_w13 M0 M' ∧ ∃ v : Int, r = some (0, v) ∧ 0 ≤ v ∧ v ≤ 1 ∧ ((1 ≤ v ∧ v ≤ 1) → rd M' 6 6 = 4)
set_option maxRecDepth 100000 in
set_option maxHeartbeats 4000000 in
theorem sp_X5_plainFact_6_w13 {l : Launch} {K : EC} {M0 : Mem} {xq : Int} (hI : In Tru M0) (hE : e_all K xq) (en_6_2 : rd M0 6 2 = 2) (en_6_3 : rd M0 6 3 = 7) (en_6_4 : rd M0 6 4 = 15) (en_6_6 : rd M0 6 6 = 4)   : Tr l K 22 mX5_plainFact 0 [(0, (2, 6))] [] M0 (q_X5_plainFact_6_w13 M0) := by
  have hS : St Tru ws_X5_plainFact_6_w13 as_X5_plainFact_6_w13 M0 M0 := St.rf hI
  refine Tr.aload_n (pc := 0) (i := 0) d_X5_plainFact_0 rfl rfl ?_
  refine Tr.bipush (pc := 1) d_X5_plainFact_1 rfl (by decide) ?_
  refine Tr.callV (pc := 3) (as := [_]) d_X5_plainFact_3 s_5_77 ok_X5_isSign rfl rfl (Nat.le_of_ble_eq_true rfl) (Nat.le_of_ble_eq_true rfl) (by decide) (ty_6 hS.1.1) ?_
  refine Tr.imp (Tr.deep (by decide) (sp_X5_isSign_6_w1 hS.1 ((St.kp hS (by decide) (by decide) (by decide)).trans en_6_2) 91 (by omega))) ?_
  rintro M3 _ ⟨h3, r3, rfl, lr3, ur3⟩
  have hS := St.tr hS h3 (by decide) (by decide)
  refine Tr.sc [(0, r3)] rfl ?_
  refine Tr.if_eq (pc := 6) (tgt := 40) d_X5_plainFact_6 rfl (fun c6 => ?_) (fun c6 => ?_)
  · refine Tr.aload_n (pc := 40) (i := 0) d_X5_plainFact_40 rfl rfl ?_
    refine Tr.bipush (pc := 41) d_X5_plainFact_41 rfl (by decide) ?_
    refine Tr.callV (pc := 43) (as := [_]) d_X5_plainFact_43 s_5_71 ok_X5_isOwn rfl rfl (Nat.le_of_ble_eq_true rfl) (Nat.le_of_ble_eq_true rfl) (by decide) (ty_6 hS.1.1) ?_
    refine Tr.imp (Tr.deep (by decide) (sp_X5_isOwn_6_w4 hS.1 ((St.kp hS (by decide) (by decide) (by decide)).trans en_6_2) 22 (by omega))) ?_
    rintro M43 _ ⟨h43, r43, rfl, lr43, ur43⟩
    have hS := St.tr hS h43 (by decide) (by decide)
    refine Tr.sc [(0, r43)] rfl ?_
    refine Tr.if_eq (pc := 46) (tgt := 63) d_X5_plainFact_46 rfl (fun c46 => ?_) (fun c46 => ?_)
    · refine Tr.aload_n (pc := 63) (i := 0) d_X5_plainFact_63 rfl rfl ?_
      refine Tr.bipush (pc := 64) d_X5_plainFact_64 rfl (by decide) ?_
      refine Tr.callV (pc := 66) (as := [_]) d_X5_plainFact_66 s_5_71 ok_X5_isOwn rfl rfl (Nat.le_of_ble_eq_true rfl) (Nat.le_of_ble_eq_true rfl) (by decide) (ty_6 hS.1.1) ?_
      refine Tr.imp (Tr.deep (by decide) (sp_X5_isOwn_6_w4 hS.1 ((St.kp hS (by decide) (by decide) (by decide)).trans en_6_2) 23 (by omega))) ?_
      rintro M66 _ ⟨h66, r66, rfl, lr66, ur66⟩
      have hS := St.tr hS h66 (by decide) (by decide)
      refine Tr.sc [(0, r66)] rfl ?_
      refine Tr.if_eq (pc := 69) (tgt := 106) d_X5_plainFact_69 rfl (fun c69 => ?_) (fun c69 => ?_)
      · refine Tr.aload_n (pc := 106) (i := 0) d_X5_plainFact_106 rfl rfl ?_
        refine Tr.callV (pc := 107) (as := []) d_X5_plainFact_107 s_5_174 ok_X5_sum rfl rfl (Nat.le_of_ble_eq_true rfl) (Nat.le_of_ble_eq_true rfl) (by decide) (ty_6 hS.1.1) ?_
        refine Tr.imp (Tr.deep (by decide) (sp_X5_sum_6_w13 hS.1 hE ((St.kp hS (by decide) (by decide) (by decide)).trans en_6_2) ((St.kp hS (by decide) (by decide) (by decide)).trans en_6_3) ((St.kp hS (by decide) (by decide) (by decide)).trans en_6_4) ((St.kp h66 (by decide) (by decide) (by decide)).trans ((St.kp h43 (by decide) (by decide) (by decide)).trans ((St.kp h3 (by decide) (by decide) (by decide)).trans en_6_6))))) ?_
        rintro M107 _ ⟨h107, r107, rfl, lr107, ur107, x107_6_6⟩
        have hS := St.tr hS h107 (by decide) (by decide)
        refine Tr.sc [(0, r107)] rfl ?_
        refine Tr.if_ne (pc := 110) (tgt := 115) d_X5_plainFact_110 rfl (fun c110 => ?_) (fun c110 => ?_)
        · refine Tr.aload_n (pc := 115) (i := 0) d_X5_plainFact_115 rfl rfl ?_
          refine Tr.bipush (pc := 116) d_X5_plainFact_116 rfl (by decide) ?_
          refine Tr.callV (pc := 118) (as := [_]) d_X5_plainFact_118 s_5_77 ok_X5_isSign rfl rfl (Nat.le_of_ble_eq_true rfl) (Nat.le_of_ble_eq_true rfl) (by decide) (ty_6 hS.1.1) ?_
          refine Tr.imp (Tr.deep (by decide) (sp_X5_isSign_6_w3 hS.1 ((St.kp hS (by decide) (by decide) (by decide)).trans en_6_2) 60 (by omega))) ?_
          rintro M118 _ ⟨h118, r118, rfl, lr118, ur118⟩
          have hS := St.tr hS h118 (by decide) (by decide)
          refine Tr.sc [(0, r118)] rfl ?_
          have J158 : ∀ (M : Mem) (q158_0 : Int), St Tru ws_X5_plainFact_6_w13 as_X5_plainFact_6_w13 M0 M → ((-1) ≤ q158_0 ∧ q158_0 ≤ 15) → rd M 6 6 = 4 → Tr l K 22 mX5_plainFact 158 [(0, (2, 6))] [(0, q158_0)] M (q_X5_plainFact_6_w13 M0) := by
            intro M q158_0 hS bq158_0 k158_6_6
            refine Tr.istore_n (pc := 158) (i := 1) (ls2 := [(1, (0, q158_0)), (0, (2, 6))]) d_X5_plainFact_158 rfl (by decide) rfl ?_
            refine Tr.iload_n (pc := 159) (i := 1) d_X5_plainFact_159 rfl rfl ?_
            refine Tr.if_ge (pc := 160) (tgt := 169) d_X5_plainFact_160 rfl (fun c160 => ?_) (fun c160 => ?_)
            · refine Tr.aload_n (pc := 169) (i := 0) d_X5_plainFact_169 rfl rfl ?_
              refine Tr.callV (pc := 170) (as := []) d_X5_plainFact_170 s_5_74 ok_X5_goOn rfl rfl (Nat.le_of_ble_eq_true rfl) (Nat.le_of_ble_eq_true rfl) (by decide) (ty_6 hS.1.1) ?_
              refine Tr.imp (Tr.deep (by decide) (sp_X5_goOn_6 hS.1 )) ?_
              rintro M170 _ ⟨h170, r170, rfl, lr170, ur170⟩
              have hS := St.tr hS h170 (by decide) (by decide)
              refine Tr.sc [(0, r170)] rfl ?_
              refine Tr.pop (pc := 173) d_X5_plainFact_173 ne01 ?_
              refine Tr.aload_n (pc := 174) (i := 0) d_X5_plainFact_174 rfl rfl ?_
              refine Tr.callV (pc := 175) (as := []) d_X5_plainFact_175 s_5_174 ok_X5_sum rfl rfl (Nat.le_of_ble_eq_true rfl) (Nat.le_of_ble_eq_true rfl) (by decide) (ty_6 hS.1.1) ?_
              refine Tr.imp (Tr.deep (by decide) (sp_X5_sum_6_w13 hS.1 hE ((St.kp hS (by decide) (by decide) (by decide)).trans en_6_2) ((St.kp hS (by decide) (by decide) (by decide)).trans en_6_3) ((St.kp hS (by decide) (by decide) (by decide)).trans en_6_4) ((St.kp h170 (by decide) (by decide) (by decide)).trans k158_6_6))) ?_
              rintro M175 _ ⟨h175, r175, rfl, lr175, ur175, x175_6_6⟩
              have hS := St.tr hS h175 (by decide) (by decide)
              refine Tr.sc [(0, r175)] rfl ?_
              refine Tr.istore_n (pc := 178) (i := 2) (ls2 := [(2, (0, r175)), (1, (0, q158_0)), (0, (2, 6))]) d_X5_plainFact_178 rfl (by decide) rfl ?_
              refine Tr.aload_n (pc := 179) (i := 0) d_X5_plainFact_179 rfl rfl ?_
              refine Tr.getf (pc := 180) d_X5_plainFact_180 f_5_32 (by decide) (by decide) (ty_6 hS.1.1) ?_
              refine Tr.tp 15 ((St.kp hS (by decide) (by decide) (by decide)).trans en_6_4) ?_
              refine Tr.iload_n (pc := 183) (i := 1) d_X5_plainFact_183 rfl rfl ?_
              refine Tr.iconst (pc := 184) d_X5_plainFact_184 (by decide) ?_
              refine Tr.callV (pc := 185) (as := [_, _]) d_X5_plainFact_185 s_5_215 ok_X4_emit rfl rfl (Nat.le_of_ble_eq_true rfl) (Nat.le_of_ble_eq_true rfl) (by decide) (ty_15 hS.1.1) ?_
              refine Tr.imp (Tr.deep (by decide) (sp_X4_emit_15_w8 hS.1.wk q158_0 (by omega) 0 (by omega) (by omega))) ?_
              rintro M185 _ ⟨h185, rfl⟩
              have hS := St.tr hS h185 (by decide) (by decide)
              refine Tr.sc [] rfl ?_
              refine Tr.iload_n (pc := 188) (i := 2) d_X5_plainFact_188 rfl rfl ?_
              exact Tr.zret (pc := 189) d_X5_plainFact_189 rfl (by omega) ⟨hS, _, rfl, by omega, by omega, fun hq => ((St.kp h185 (by decide) (by decide) (by decide)).trans (x175_6_6 (by omega)))⟩
            · refine Tr.aload_n (pc := 163) (i := 0) d_X5_plainFact_163 rfl rfl ?_
              refine Tr.iconst (pc := 164) d_X5_plainFact_164 (by decide) ?_
              refine Tr.callV (pc := 165) (as := [_]) d_X5_plainFact_165 s_5_56 ok_X5_refuse rfl rfl (Nat.le_of_ble_eq_true rfl) (Nat.le_of_ble_eq_true rfl) (by decide) (ty_6 hS.1.1) ?_
              refine Tr.imp (Tr.deep (by decide) (sp_X5_refuse_6_w1 hS.1 ((St.kp hS (by decide) (by decide) (by decide)).trans en_6_2) 1 (by omega))) ?_
              rintro M165 _ ⟨h165, r165, rfl, lr165, ur165⟩
              have hS := St.tr hS h165 (by decide) (by decide)
              refine Tr.sc [(0, r165)] rfl ?_
              exact Tr.zret (pc := 168) d_X5_plainFact_168 rfl (by omega) ⟨hS, _, rfl, by omega, by omega, fun hq => absurd hq (by omega)⟩
          refine Tr.if_eq (pc := 121) (tgt := 129) d_X5_plainFact_121 rfl (fun c121 => ?_) (fun c121 => ?_)
          · refine Tr.aload_n (pc := 129) (i := 0) d_X5_plainFact_129 rfl rfl ?_
            refine Tr.bipush (pc := 130) d_X5_plainFact_130 rfl (by decide) ?_
            refine Tr.callV (pc := 132) (as := [_]) d_X5_plainFact_132 s_5_77 ok_X5_isSign rfl rfl (Nat.le_of_ble_eq_true rfl) (Nat.le_of_ble_eq_true rfl) (by decide) (ty_6 hS.1.1) ?_
            refine Tr.imp (Tr.deep (by decide) (sp_X5_isSign_6_w4 hS.1 ((St.kp hS (by decide) (by decide) (by decide)).trans en_6_2) 62 (by omega))) ?_
            rintro M132 _ ⟨h132, r132, rfl, lr132, ur132⟩
            have hS := St.tr hS h132 (by decide) (by decide)
            refine Tr.sc [(0, r132)] rfl ?_
            refine Tr.if_eq (pc := 135) (tgt := 143) d_X5_plainFact_135 rfl (fun c135 => ?_) (fun c135 => ?_)
            · refine Tr.aload_n (pc := 143) (i := 0) d_X5_plainFact_143 rfl rfl ?_
              refine Tr.bipush (pc := 144) d_X5_plainFact_144 rfl (by decide) ?_
              refine Tr.callV (pc := 146) (as := [_]) d_X5_plainFact_146 s_5_77 ok_X5_isSign rfl rfl (Nat.le_of_ble_eq_true rfl) (Nat.le_of_ble_eq_true rfl) (by decide) (ty_6 hS.1.1) ?_
              refine Tr.imp (Tr.deep (by decide) (sp_X5_isSign_6_w4 hS.1 ((St.kp hS (by decide) (by decide) (by decide)).trans en_6_2) 61 (by omega))) ?_
              rintro M146 _ ⟨h146, r146, rfl, lr146, ur146⟩
              have hS := St.tr hS h146 (by decide) (by decide)
              refine Tr.sc [(0, r146)] rfl ?_
              refine Tr.if_eq (pc := 149) (tgt := 157) d_X5_plainFact_149 rfl (fun c149 => ?_) (fun c149 => ?_)
              · refine Tr.iconst (pc := 157) d_X5_plainFact_157 (by decide) ?_
                refine Tr.pick [0] (ls2 := [(0, (2, 6))]) rfl ?_
                exact J158 _ _ hS (by omega) ((St.kp h146 (by decide) (by decide) (by decide)).trans ((St.kp h132 (by decide) (by decide) (by decide)).trans ((St.kp h118 (by decide) (by decide) (by decide)).trans (x107_6_6 (by omega)))))
              · refine Tr.bipush (pc := 152) d_X5_plainFact_152 rfl (by decide) ?_
                refine Tr.goto (pc := 154) (tgt := 158) d_X5_plainFact_154 rfl ?_
                refine Tr.pick [0] (ls2 := [(0, (2, 6))]) rfl ?_
                exact J158 _ _ hS (by omega) ((St.kp h146 (by decide) (by decide) (by decide)).trans ((St.kp h132 (by decide) (by decide) (by decide)).trans ((St.kp h118 (by decide) (by decide) (by decide)).trans (x107_6_6 (by omega)))))
            · refine Tr.bipush (pc := 138) d_X5_plainFact_138 rfl (by decide) ?_
              refine Tr.goto (pc := 140) (tgt := 158) d_X5_plainFact_140 rfl ?_
              refine Tr.pick [0] (ls2 := [(0, (2, 6))]) rfl ?_
              exact J158 _ _ hS (by omega) ((St.kp h132 (by decide) (by decide) (by decide)).trans ((St.kp h118 (by decide) (by decide) (by decide)).trans (x107_6_6 (by omega))))
          · refine Tr.bipush (pc := 124) d_X5_plainFact_124 rfl (by decide) ?_
            refine Tr.goto (pc := 126) (tgt := 158) d_X5_plainFact_126 rfl ?_
            refine Tr.pick [0] (ls2 := [(0, (2, 6))]) rfl ?_
            exact J158 _ _ hS (by omega) ((St.kp h118 (by decide) (by decide) (by decide)).trans (x107_6_6 (by omega)))
        · refine Tr.iconst (pc := 113) d_X5_plainFact_113 (by decide) ?_
          exact Tr.zret (pc := 114) d_X5_plainFact_114 rfl (by omega) ⟨hS, _, rfl, by omega, by omega, fun hq => absurd hq (by omega)⟩
      · refine Tr.aload_n (pc := 72) (i := 0) d_X5_plainFact_72 rfl rfl ?_
        refine Tr.callV (pc := 73) (as := []) d_X5_plainFact_73 s_5_74 ok_X5_goOn rfl rfl (Nat.le_of_ble_eq_true rfl) (Nat.le_of_ble_eq_true rfl) (by decide) (ty_6 hS.1.1) ?_
        refine Tr.imp (Tr.deep (by decide) (sp_X5_goOn_6 hS.1 )) ?_
        rintro M73 _ ⟨h73, r73, rfl, lr73, ur73⟩
        have hS := St.tr hS h73 (by decide) (by decide)
        refine Tr.sc [(0, r73)] rfl ?_
        refine Tr.pop (pc := 76) d_X5_plainFact_76 ne01 ?_
        refine Tr.aload_n (pc := 77) (i := 0) d_X5_plainFact_77 rfl rfl ?_
        refine Tr.iconst (pc := 78) d_X5_plainFact_78 (by decide) ?_
        refine Tr.callV (pc := 79) (as := [_]) d_X5_plainFact_79 s_5_186 ok_X5_takeName rfl rfl (Nat.le_of_ble_eq_true rfl) (Nat.le_of_ble_eq_true rfl) (by decide) (ty_6 hS.1.1) ?_
        refine Tr.imp (Tr.deep (by decide) (sp_X5_takeName_6_v0_w1 hS.1 hE ((St.kp hS (by decide) (by decide) (by decide)).trans en_6_2) ((St.kp hS (by decide) (by decide) (by decide)).trans en_6_3))) ?_
        rintro M79 _ ⟨h79, r79, rfl, lr79, ur79⟩
        have hS := St.tr hS h79 (by decide) (by decide)
        refine Tr.sc [(0, r79)] rfl ?_
        refine Tr.istore_n (pc := 82) (i := 1) (ls2 := [(1, (0, r79)), (0, (2, 6))]) d_X5_plainFact_82 rfl (by decide) rfl ?_
        refine Tr.aload_n (pc := 83) (i := 0) d_X5_plainFact_83 rfl rfl ?_
        refine Tr.getf (pc := 84) d_X5_plainFact_84 f_5_32 (by decide) (by decide) (ty_6 hS.1.1) ?_
        refine Tr.tp 15 ((St.kp hS (by decide) (by decide) (by decide)).trans en_6_4) ?_
        refine Tr.iconst (pc := 87) d_X5_plainFact_87 (by decide) ?_
        refine Tr.iload_n (pc := 88) (i := 1) d_X5_plainFact_88 rfl rfl ?_
        refine Tr.iconst (pc := 89) d_X5_plainFact_89 (by decide) ?_
        refine Tr.mmax (pc := 90) d_X5_plainFact_90 ml_5_192 mw_mmax (Nat.le_of_ble_eq_true rfl) ?_
        refine Tr.gen (P := fun v => (v = r79 ∧ 0 ≤ r79) ∨ (v = 0 ∧ r79 ≤ 0)) (f_max_p _ _) (fun r90 er90 br90 => ?_)
        refine Tr.callV (pc := 93) (as := [_, _]) d_X5_plainFact_93 s_5_215 ok_X4_emit rfl rfl (Nat.le_of_ble_eq_true rfl) (Nat.le_of_ble_eq_true rfl) (by decide) (ty_15 hS.1.1) ?_
        refine Tr.imp (Tr.deep (by decide) (sp_X4_emit_15_w7 hS.1.wk 4 (by omega) r90 (by omega) (by omega))) ?_
        rintro M93 _ ⟨h93, rfl⟩
        have hS := St.tr hS h93 (by decide) (by decide)
        refine Tr.sc [] rfl ?_
        refine Tr.iload_n (pc := 96) (i := 1) d_X5_plainFact_96 rfl rfl ?_
        refine Tr.if_lt (pc := 97) (tgt := 104) d_X5_plainFact_97 rfl (fun c97 => ?_) (fun c97 => ?_)
        · refine Tr.iconst (pc := 104) d_X5_plainFact_104 (by decide) ?_
          exact Tr.zret (pc := 105) d_X5_plainFact_105 rfl (by omega) ⟨hS, _, rfl, by omega, by omega, fun hq => absurd hq (by omega)⟩
        · refine Tr.iconst (pc := 100) d_X5_plainFact_100 (by decide) ?_
          refine Tr.goto (pc := 101) (tgt := 105) d_X5_plainFact_101 rfl ?_
          exact Tr.zret (pc := 105) d_X5_plainFact_105 rfl (by omega) ⟨hS, _, rfl, by omega, by omega, fun _ => ((St.kp h93 (by decide) (by decide) (by decide)).trans ((St.kp h79 (by decide) (by decide) (by decide)).trans ((St.kp h73 (by decide) (by decide) (by decide)).trans ((St.kp h66 (by decide) (by decide) (by decide)).trans ((St.kp h43 (by decide) (by decide) (by decide)).trans ((St.kp h3 (by decide) (by decide) (by decide)).trans en_6_6))))))⟩
    · refine Tr.aload_n (pc := 49) (i := 0) d_X5_plainFact_49 rfl rfl ?_
      refine Tr.getf (pc := 50) d_X5_plainFact_50 f_5_32 (by decide) (by decide) (ty_6 hS.1.1) ?_
      refine Tr.tp 15 ((St.kp hS (by decide) (by decide) (by decide)).trans en_6_4) ?_
      refine Tr.iconst (pc := 53) d_X5_plainFact_53 (by decide) ?_
      refine Tr.iconst (pc := 54) d_X5_plainFact_54 (by decide) ?_
      refine Tr.callV (pc := 55) (as := [_, _]) d_X5_plainFact_55 s_5_215 ok_X4_emit rfl rfl (Nat.le_of_ble_eq_true rfl) (Nat.le_of_ble_eq_true rfl) (by decide) (ty_15 hS.1.1) ?_
      refine Tr.imp (Tr.deep (by decide) (sp_X4_emit_15_w3 hS.1.wk 0 (by omega) 1 (by omega) (by omega))) ?_
      rintro M55 _ ⟨h55, rfl⟩
      have hS := St.tr hS h55 (by decide) (by decide)
      refine Tr.sc [] rfl ?_
      refine Tr.aload_n (pc := 58) (i := 0) d_X5_plainFact_58 rfl rfl ?_
      refine Tr.callV (pc := 59) (as := []) d_X5_plainFact_59 s_5_74 ok_X5_goOn rfl rfl (Nat.le_of_ble_eq_true rfl) (Nat.le_of_ble_eq_true rfl) (by decide) (ty_6 hS.1.1) ?_
      refine Tr.imp (Tr.deep (by decide) (sp_X5_goOn_6 hS.1 )) ?_
      rintro M59 _ ⟨h59, r59, rfl, lr59, ur59⟩
      have hS := St.tr hS h59 (by decide) (by decide)
      refine Tr.sc [(0, r59)] rfl ?_
      exact Tr.zret (pc := 62) d_X5_plainFact_62 rfl (by omega) ⟨hS, _, rfl, by omega, by omega, fun _ => ((St.kp h59 (by decide) (by decide) (by decide)).trans ((St.kp h55 (by decide) (by decide) (by decide)).trans ((St.kp h43 (by decide) (by decide) (by decide)).trans ((St.kp h3 (by decide) (by decide) (by decide)).trans en_6_6))))⟩
  · refine Tr.aload_n (pc := 9) (i := 0) d_X5_plainFact_9 rfl rfl ?_
    refine Tr.bipush (pc := 10) d_X5_plainFact_10 rfl (by decide) ?_
    refine Tr.callV (pc := 12) (as := [_]) d_X5_plainFact_12 s_5_206 ok_X5_takeOpening rfl rfl (Nat.le_of_ble_eq_true rfl) (Nat.le_of_ble_eq_true rfl) (by decide) (ty_6 hS.1.1) ?_
    refine Tr.imp (Tr.deep (by decide) (sp_X5_takeOpening_6_w13 hS.1 ((St.kp hS (by decide) (by decide) (by decide)).trans en_6_2) ((St.kp h3 (by decide) (by decide) (by decide)).trans en_6_6) 91 (by omega))) ?_
    rintro M12 _ ⟨h12, r12, rfl, lr12, ur12, x12_6_6⟩
    have hS := St.tr hS h12 (by decide) (by decide)
    refine Tr.sc [(0, r12)] rfl ?_
    refine Tr.if_eq (pc := 15) (tgt := 38) d_X5_plainFact_15 rfl (fun c15 => ?_) (fun c15 => ?_)
    · refine Tr.iconst (pc := 38) d_X5_plainFact_38 (by decide) ?_
      exact Tr.zret (pc := 39) d_X5_plainFact_39 rfl (by omega) ⟨hS, _, rfl, by omega, by omega, fun hq => absurd hq (by omega)⟩
    · refine Tr.aload_n (pc := 18) (i := 0) d_X5_plainFact_18 rfl rfl ?_
      refine Tr.callV (pc := 19) (as := []) d_X5_plainFact_19 s_5_177 ok_X5_test rfl rfl (Nat.le_of_ble_eq_true rfl) (Nat.le_of_ble_eq_true rfl) (by decide) (ty_6 hS.1.1) ?_
      refine Tr.imp (Tr.deep (by decide) (sp_X5_test_6_w14 hS.1 hE ((St.kp hS (by decide) (by decide) (by decide)).trans en_6_2) ((St.kp hS (by decide) (by decide) (by decide)).trans en_6_3) ((St.kp hS (by decide) (by decide) (by decide)).trans en_6_4) (x12_6_6 (by omega)))) ?_
      rintro M19 _ ⟨h19, r19, rfl, lr19, ur19, x19_6_6⟩
      have hS := St.tr hS h19 (by decide) (by decide)
      refine Tr.sc [(0, r19)] rfl ?_
      refine Tr.if_eq (pc := 22) (tgt := 38) d_X5_plainFact_22 rfl (fun c22 => ?_) (fun c22 => ?_)
      · refine Tr.iconst (pc := 38) d_X5_plainFact_38 (by decide) ?_
        exact Tr.zret (pc := 39) d_X5_plainFact_39 rfl (by omega) ⟨hS, _, rfl, by omega, by omega, fun hq => absurd hq (by omega)⟩
      · refine Tr.aload_n (pc := 25) (i := 0) d_X5_plainFact_25 rfl rfl ?_
        refine Tr.bipush (pc := 26) d_X5_plainFact_26 rfl (by decide) ?_
        refine Tr.callV (pc := 28) (as := [_]) d_X5_plainFact_28 s_5_209 ok_X5_takeClosing rfl rfl (Nat.le_of_ble_eq_true rfl) (Nat.le_of_ble_eq_true rfl) (by decide) (ty_6 hS.1.1) ?_
        refine Tr.imp (Tr.deep (by decide) (sp_X5_takeClosing_6_w11 hS.1 ((St.kp hS (by decide) (by decide) (by decide)).trans en_6_2) (x19_6_6 (by omega)) 93 (by omega))) ?_
        rintro M28 _ ⟨h28, r28, rfl, lr28, ur28, x28_6_6⟩
        have hS := St.tr hS h28 (by decide) (by decide)
        refine Tr.sc [(0, r28)] rfl ?_
        refine Tr.if_eq (pc := 31) (tgt := 38) d_X5_plainFact_31 rfl (fun c31 => ?_) (fun c31 => ?_)
        · refine Tr.iconst (pc := 38) d_X5_plainFact_38 (by decide) ?_
          exact Tr.zret (pc := 39) d_X5_plainFact_39 rfl (by omega) ⟨hS, _, rfl, by omega, by omega, fun hq => absurd hq (by omega)⟩
        · refine Tr.iconst (pc := 34) d_X5_plainFact_34 (by decide) ?_
          refine Tr.goto (pc := 35) (tgt := 39) d_X5_plainFact_35 rfl ?_
          exact Tr.zret (pc := 39) d_X5_plainFact_39 rfl (by omega) ⟨hS, _, rfl, by omega, by omega, fun _ => (x28_6_6 (by omega))⟩
end
/-! 43.22 -/
section
def ws_X5_fact_6_w13 : List (Int × Int) := [(6, 0), (6, 1), (6, 5), (6, 6), (15, 11)]
def as_X5_fact_6_w13 : List Int := [24, 25]
def q_X5_fact_6_w13 (M0 M' : Mem) (r : Option PV) : Prop := St Tru ws_X5_fact_6_w13 as_X5_fact_6_w13 M0 M' ∧ ∃ v : Int, r = some (0, v) ∧ 0 ≤ v ∧ v ≤ 1 ∧ ((1 ≤ v ∧ v ≤ 1) → rd M' 6 6 = 4)
set_option maxRecDepth 100000 in
set_option maxHeartbeats 4000000 in
theorem sp_X5_fact_6_w13 {l : Launch} {K : EC} {M0 : Mem} {xq : Int} (hI : In Tru M0) (hE : e_all K xq) (en_6_2 : rd M0 6 2 = 2) (en_6_3 : rd M0 6 3 = 7) (en_6_4 : rd M0 6 4 = 15) (en_6_6 : rd M0 6 6 = 4)   : Tr l K 23 mX5_fact 0 [(0, (2, 6))] [] M0 (q_X5_fact_6_w13 M0) := by
  have hS : St Tru ws_X5_fact_6_w13 as_X5_fact_6_w13 M0 M0 := St.rf hI
  refine Tr.iconst (pc := 0) d_X5_fact_0 (by decide) ?_
  refine Tr.istore_n (pc := 1) (i := 1) (ls2 := [(1, (0, 0)), (0, (2, 6))]) d_X5_fact_1 rfl (by decide) rfl ?_
  refine Tr.iconst (pc := 2) d_X5_fact_2 (by decide) ?_
  refine Tr.istore_n (pc := 3) (i := 2) (ls2 := [(2, (0, 0)), (1, (0, 0)), (0, (2, 6))]) d_X5_fact_3 rfl (by decide) rfl ?_
  have J4 : ∀ (n4 : Nat) (M : Mem) (p4_1 p4_2 : Int), St Tru ws_X5_fact_6_w13 as_X5_fact_6_w13 M0 M → (0 ≤ p4_1 ∧ p4_1 ≤ 1) → (0 ≤ p4_2 ∧ p4_2 ≤ 900) → rd M 6 6 = 4 → (900 - p4_2).toNat < n4 → Tr l K 23 mX5_fact 4 [(0, (2, 6)), (1, (0, p4_1)), (2, (0, p4_2))] [] M (q_X5_fact_6_w13 M0) := by
    intro n4
    induction n4 with
    | zero => intro M p4_1 p4_2 hS bp4_1 bp4_2 k4_6_6 hm4; exact absurd hm4 (Nat.not_lt_zero _)
    | succ n4 J4 =>
      intro M p4_1 p4_2 hS bp4_1 bp4_2 k4_6_6 hm4
      refine Tr.iload_n (pc := 4) (i := 2) d_X5_fact_4 rfl rfl ?_
      refine Tr.sipush (pc := 5) d_X5_fact_5 rfl (by decide) ?_
      have J41 : ∀ (M : Mem), St Tru ws_X5_fact_6_w13 as_X5_fact_6_w13 M0 M → rd M 6 6 = 4 → Tr l K 23 mX5_fact 41 [(0, (2, 6)), (1, (0, p4_1))] [] M (q_X5_fact_6_w13 M0) := by
        intro M  hS  k41_6_6
        refine Tr.aload_n (pc := 41) (i := 0) d_X5_fact_41 rfl rfl ?_
        refine Tr.callV (pc := 42) (as := []) d_X5_fact_42 s_5_221 ok_X5_plainFact rfl rfl (Nat.le_of_ble_eq_true rfl) (Nat.le_of_ble_eq_true rfl) (by decide) (ty_6 hS.1.1) ?_
        refine Tr.imp (Tr.deep (by decide) (sp_X5_plainFact_6_w13 hS.1 hE ((St.kp hS (by decide) (by decide) (by decide)).trans en_6_2) ((St.kp hS (by decide) (by decide) (by decide)).trans en_6_3) ((St.kp hS (by decide) (by decide) (by decide)).trans en_6_4) k41_6_6)) ?_
        rintro M42 _ ⟨h42, r42, rfl, lr42, ur42, x42_6_6⟩
        have hS := St.tr hS h42 (by decide) (by decide)
        refine Tr.sc [(0, r42)] rfl ?_
        refine Tr.istore_n (pc := 45) (i := 2) (ls2 := [(2, (0, r42)), (0, (2, 6)), (1, (0, p4_1))]) d_X5_fact_45 rfl (by decide) rfl ?_
        refine Tr.iload_n (pc := 46) (i := 1) d_X5_fact_46 rfl rfl ?_
        refine Tr.if_eq (pc := 47) (tgt := 59) d_X5_fact_47 rfl (fun c47 => ?_) (fun c47 => ?_)
        · refine Tr.iload_n (pc := 59) (i := 2) d_X5_fact_59 rfl rfl ?_
          exact Tr.zret (pc := 60) d_X5_fact_60 rfl (by omega) ⟨hS, _, rfl, by omega, by omega, fun hq => (x42_6_6 (by omega))⟩
        · refine Tr.aload_n (pc := 50) (i := 0) d_X5_fact_50 rfl rfl ?_
          refine Tr.getf (pc := 51) d_X5_fact_51 f_5_32 (by decide) (by decide) (ty_6 hS.1.1) ?_
          refine Tr.tp 15 ((St.kp hS (by decide) (by decide) (by decide)).trans en_6_4) ?_
          refine Tr.iconst (pc := 54) d_X5_fact_54 (by decide) ?_
          refine Tr.iconst (pc := 55) d_X5_fact_55 (by decide) ?_
          refine Tr.callV (pc := 56) (as := [_, _]) d_X5_fact_56 s_5_215 ok_X4_emit rfl rfl (Nat.le_of_ble_eq_true rfl) (Nat.le_of_ble_eq_true rfl) (by decide) (ty_15 hS.1.1) ?_
          refine Tr.imp (Tr.deep (by decide) (sp_X4_emit_15_w7 hS.1.wk 5 (by omega) 0 (by omega) (by omega))) ?_
          rintro M56 _ ⟨h56, rfl⟩
          have hS := St.tr hS h56 (by decide) (by decide)
          refine Tr.sc [] rfl ?_
          refine Tr.iload_n (pc := 59) (i := 2) d_X5_fact_59 rfl rfl ?_
          exact Tr.zret (pc := 60) d_X5_fact_60 rfl (by omega) ⟨hS, _, rfl, by omega, by omega, fun hq => ((St.kp h56 (by decide) (by decide) (by decide)).trans (x42_6_6 (by omega)))⟩
      refine Tr.icmp_ge (pc := 8) (tgt := 41) d_X5_fact_8 rfl (fun c8 => ?_) (fun c8 => ?_)
      · refine Tr.pick [0, 1] (ls2 := [(0, (2, 6)), (1, (0, p4_1))]) rfl ?_
        exact J41 _ hS k4_6_6
      · refine Tr.aload_n (pc := 11) (i := 0) d_X5_fact_11 rfl rfl ?_
        refine Tr.bipush (pc := 12) d_X5_fact_12 rfl (by decide) ?_
        refine Tr.callV (pc := 14) (as := [_]) d_X5_fact_14 s_5_71 ok_X5_isOwn rfl rfl (Nat.le_of_ble_eq_true rfl) (Nat.le_of_ble_eq_true rfl) (by decide) (ty_6 hS.1.1) ?_
        refine Tr.imp (Tr.deep (by decide) (sp_X5_isOwn_6_w4 hS.1 ((St.kp hS (by decide) (by decide) (by decide)).trans en_6_2) 21 (by omega))) ?_
        rintro M14 _ ⟨h14, r14, rfl, lr14, ur14⟩
        have hS := St.tr hS h14 (by decide) (by decide)
        refine Tr.sc [(0, r14)] rfl ?_
        refine Tr.if_eq (pc := 17) (tgt := 41) d_X5_fact_17 rfl (fun c17 => ?_) (fun c17 => ?_)
        · refine Tr.pick [0, 1] (ls2 := [(0, (2, 6)), (1, (0, p4_1))]) rfl ?_
          exact J41 _ hS ((St.kp h14 (by decide) (by decide) (by decide)).trans k4_6_6)
        · refine Tr.aload_n (pc := 20) (i := 0) d_X5_fact_20 rfl rfl ?_
          refine Tr.callV (pc := 21) (as := []) d_X5_fact_21 s_5_74 ok_X5_goOn rfl rfl (Nat.le_of_ble_eq_true rfl) (Nat.le_of_ble_eq_true rfl) (by decide) (ty_6 hS.1.1) ?_
          refine Tr.imp (Tr.deep (by decide) (sp_X5_goOn_6 hS.1 )) ?_
          rintro M21 _ ⟨h21, r21, rfl, lr21, ur21⟩
          have hS := St.tr hS h21 (by decide) (by decide)
          refine Tr.sc [(0, r21)] rfl ?_
          refine Tr.pop (pc := 24) d_X5_fact_24 ne01 ?_
          refine Tr.iload_n (pc := 25) (i := 1) d_X5_fact_25 rfl rfl ?_
          have J34 : ∀ (M : Mem) (q34_0 : Int), St Tru ws_X5_fact_6_w13 as_X5_fact_6_w13 M0 M → (0 ≤ q34_0 ∧ q34_0 ≤ 1) → rd M 6 6 = 4 → Tr l K 23 mX5_fact 34 [(0, (2, 6)), (2, (0, p4_2))] [(0, q34_0)] M (q_X5_fact_6_w13 M0) := by
            intro M q34_0 hS bq34_0 k34_6_6
            refine Tr.istore_n (pc := 34) (i := 1) (ls2 := [(1, (0, q34_0)), (0, (2, 6)), (2, (0, p4_2))]) d_X5_fact_34 rfl (by decide) rfl ?_
            refine Tr.iincV (pc := 35) (n2 := (p4_2 + 1)) (ls2 := [(2, (0, (p4_2 + 1))), (1, (0, q34_0)), (0, (2, 6))]) d_X5_fact_35 rfl (by decide) ((w32_id (by omega)).trans (by omega)) rfl ?_
            refine Tr.goto (pc := 38) (tgt := 4) d_X5_fact_38 rfl ?_
            refine Tr.pick [2, 1, 0] (ls2 := [(0, (2, 6)), (1, (0, q34_0)), (2, (0, (p4_2 + 1)))]) rfl ?_
            exact J4 _ _ _ hS (by omega) (by omega) k34_6_6 (by omega)
          refine Tr.if_ne (pc := 26) (tgt := 33) d_X5_fact_26 rfl (fun c26 => ?_) (fun c26 => ?_)
          · refine Tr.iconst (pc := 33) d_X5_fact_33 (by decide) ?_
            refine Tr.pick [0, 2] (ls2 := [(0, (2, 6)), (2, (0, p4_2))]) rfl ?_
            exact J34 _ _ hS (by omega) ((St.kp h21 (by decide) (by decide) (by decide)).trans ((St.kp h14 (by decide) (by decide) (by decide)).trans k4_6_6))
          · refine Tr.iconst (pc := 29) d_X5_fact_29 (by decide) ?_
            refine Tr.goto (pc := 30) (tgt := 34) d_X5_fact_30 rfl ?_
            refine Tr.pick [0, 2] (ls2 := [(0, (2, 6)), (2, (0, p4_2))]) rfl ?_
            exact J34 _ _ hS (by omega) ((St.kp h21 (by decide) (by decide) (by decide)).trans ((St.kp h14 (by decide) (by decide) (by decide)).trans k4_6_6))
  refine Tr.pick [2, 1, 0] (ls2 := [(0, (2, 6)), (1, (0, 0)), (2, (0, 0))]) rfl ?_
  exact J4 _ _ _ _ hS (by omega) (by omega) en_6_6 (Nat.lt_succ_self _)

def ws_X5_both_6_w13 : List (Int × Int) := [(6, 0), (6, 1), (6, 5), (6, 6), (15, 11)]
def as_X5_both_6_w13 : List Int := [24, 25]
def q_X5_both_6_w13 (M0 M' : Mem) (r : Option PV) : Prop := St Tru ws_X5_both_6_w13 as_X5_both_6_w13 M0 M' ∧ ∃ v : Int, r = some (0, v) ∧ 0 ≤ v ∧ v ≤ 1 ∧ ((1 ≤ v ∧ v ≤ 1) → rd M' 6 6 = 4)
set_option maxRecDepth 100000 in
set_option maxHeartbeats 4000000 in
theorem sp_X5_both_6_w13 {l : Launch} {K : EC} {M0 : Mem} {xq : Int} (hI : In Tru M0) (hE : e_all K xq) (en_6_2 : rd M0 6 2 = 2) (en_6_3 : rd M0 6 3 = 7) (en_6_4 : rd M0 6 4 = 15) (en_6_6 : rd M0 6 6 = 4)   : Tr l K 24 mX5_both 0 [(0, (2, 6))] [] M0 (q_X5_both_6_w13 M0) := by
  have hS : St Tru ws_X5_both_6_w13 as_X5_both_6_w13 M0 M0 := St.rf hI
  refine Tr.aload_n (pc := 0) (i := 0) d_X5_both_0 rfl rfl ?_
  refine Tr.callV (pc := 1) (as := []) d_X5_both_1 s_5_218 ok_X5_fact rfl rfl (Nat.le_of_ble_eq_true rfl) (Nat.le_of_ble_eq_true rfl) (by decide) (ty_6 hS.1.1) ?_
  refine Tr.imp (Tr.deep (by decide) (sp_X5_fact_6_w13 hS.1 hE ((St.kp hS (by decide) (by decide) (by decide)).trans en_6_2) ((St.kp hS (by decide) (by decide) (by decide)).trans en_6_3) ((St.kp hS (by decide) (by decide) (by decide)).trans en_6_4) en_6_6)) ?_
  rintro M1 _ ⟨h1, r1, rfl, lr1, ur1, x1_6_6⟩
  have hS := St.tr hS h1 (by decide) (by decide)
  refine Tr.sc [(0, r1)] rfl ?_
  refine Tr.istore_n (pc := 4) (i := 1) (ls2 := [(1, (0, r1)), (0, (2, 6))]) d_X5_both_4 rfl (by decide) rfl ?_
  refine Tr.iconst (pc := 5) d_X5_both_5 (by decide) ?_
  refine Tr.istore_n (pc := 6) (i := 2) (ls2 := [(2, (0, 0)), (1, (0, r1)), (0, (2, 6))]) d_X5_both_6 rfl (by decide) rfl ?_
  have J7 : ∀ (n7 : Nat) (M : Mem) (p7_1 p7_2 : Int), St Tru ws_X5_both_6_w13 as_X5_both_6_w13 M0 M → (0 ≤ p7_1 ∧ p7_1 ≤ 1) → (0 ≤ p7_2 ∧ p7_2 ≤ 900) → (p7_1 = 1 → rd M 6 6 = 4) → (900 - p7_2).toNat < n7 → Tr l K 24 mX5_both 7 [(0, (2, 6)), (1, (0, p7_1)), (2, (0, p7_2))] [] M (q_X5_both_6_w13 M0) := by
    intro n7
    induction n7 with
    | zero => intro M p7_1 p7_2 hS bp7_1 bp7_2  y7_p7_1_6_60 hm7; exact absurd hm7 (Nat.not_lt_zero _)
    | succ n7 J7 =>
      intro M p7_1 p7_2 hS bp7_1 bp7_2  y7_p7_1_6_60 hm7
      have y7_p7_1_6_6 : 1 ≤ p7_1 ∧ p7_1 ≤ 1 → rd M 6 6 = 4 := fun hq => y7_p7_1_6_60 (by omega)
      refine Tr.iload_n (pc := 7) (i := 2) d_X5_both_7 rfl rfl ?_
      refine Tr.sipush (pc := 8) d_X5_both_8 rfl (by decide) ?_
      refine Tr.icmp_ge (pc := 11) (tgt := 53) d_X5_both_11 rfl (fun c11 => ?_) (fun c11 => ?_)
      · refine Tr.iload_n (pc := 53) (i := 1) d_X5_both_53 rfl rfl ?_
        exact Tr.zret (pc := 54) d_X5_both_54 rfl (by omega) ⟨hS, _, rfl, by omega, by omega, fun hq => (y7_p7_1_6_6 (by omega))⟩
      · refine Tr.iload_n (pc := 14) (i := 1) d_X5_both_14 rfl rfl ?_
        refine Tr.if_eq (pc := 15) (tgt := 53) d_X5_both_15 rfl (fun c15 => ?_) (fun c15 => ?_)
        · refine Tr.iload_n (pc := 53) (i := 1) d_X5_both_53 rfl rfl ?_
          exact Tr.zret (pc := 54) d_X5_both_54 rfl (by omega) ⟨hS, _, rfl, by omega, by omega, fun hq => absurd hq (by omega)⟩
        · refine Tr.aload_n (pc := 18) (i := 0) d_X5_both_18 rfl rfl ?_
          refine Tr.bipush (pc := 19) d_X5_both_19 rfl (by decide) ?_
          refine Tr.callV (pc := 21) (as := [_]) d_X5_both_21 s_5_71 ok_X5_isOwn rfl rfl (Nat.le_of_ble_eq_true rfl) (Nat.le_of_ble_eq_true rfl) (by decide) (ty_6 hS.1.1) ?_
          refine Tr.imp (Tr.deep (by decide) (sp_X5_isOwn_6_w3 hS.1 ((St.kp hS (by decide) (by decide) (by decide)).trans en_6_2) 20 (by omega))) ?_
          rintro M21 _ ⟨h21, r21, rfl, lr21, ur21⟩
          have hS := St.tr hS h21 (by decide) (by decide)
          refine Tr.sc [(0, r21)] rfl ?_
          refine Tr.if_eq (pc := 24) (tgt := 53) d_X5_both_24 rfl (fun c24 => ?_) (fun c24 => ?_)
          · refine Tr.iload_n (pc := 53) (i := 1) d_X5_both_53 rfl rfl ?_
            exact Tr.zret (pc := 54) d_X5_both_54 rfl (by omega) ⟨hS, _, rfl, by omega, by omega, fun _ => ((St.kp h21 (by decide) (by decide) (by decide)).trans (y7_p7_1_6_6 (by omega)))⟩
          · refine Tr.aload_n (pc := 27) (i := 0) d_X5_both_27 rfl rfl ?_
            refine Tr.callV (pc := 28) (as := []) d_X5_both_28 s_5_74 ok_X5_goOn rfl rfl (Nat.le_of_ble_eq_true rfl) (Nat.le_of_ble_eq_true rfl) (by decide) (ty_6 hS.1.1) ?_
            refine Tr.imp (Tr.deep (by decide) (sp_X5_goOn_6 hS.1 )) ?_
            rintro M28 _ ⟨h28, r28, rfl, lr28, ur28⟩
            have hS := St.tr hS h28 (by decide) (by decide)
            refine Tr.sc [(0, r28)] rfl ?_
            refine Tr.pop (pc := 31) d_X5_both_31 ne01 ?_
            refine Tr.aload_n (pc := 32) (i := 0) d_X5_both_32 rfl rfl ?_
            refine Tr.callV (pc := 33) (as := []) d_X5_both_33 s_5_218 ok_X5_fact rfl rfl (Nat.le_of_ble_eq_true rfl) (Nat.le_of_ble_eq_true rfl) (by decide) (ty_6 hS.1.1) ?_
            refine Tr.imp (Tr.deep (by decide) (sp_X5_fact_6_w13 hS.1 hE ((St.kp hS (by decide) (by decide) (by decide)).trans en_6_2) ((St.kp hS (by decide) (by decide) (by decide)).trans en_6_3) ((St.kp hS (by decide) (by decide) (by decide)).trans en_6_4) ((St.kp h28 (by decide) (by decide) (by decide)).trans ((St.kp h21 (by decide) (by decide) (by decide)).trans (y7_p7_1_6_6 (by omega)))))) ?_
            rintro M33 _ ⟨h33, r33, rfl, lr33, ur33, x33_6_6⟩
            have hS := St.tr hS h33 (by decide) (by decide)
            refine Tr.sc [(0, r33)] rfl ?_
            refine Tr.istore_n (pc := 36) (i := 1) (ls2 := [(1, (0, r33)), (0, (2, 6)), (2, (0, p7_2))]) d_X5_both_36 rfl (by decide) rfl ?_
            refine Tr.aload_n (pc := 37) (i := 0) d_X5_both_37 rfl rfl ?_
            refine Tr.getf (pc := 38) d_X5_both_38 f_5_32 (by decide) (by decide) (ty_6 hS.1.1) ?_
            refine Tr.tp 15 ((St.kp hS (by decide) (by decide) (by decide)).trans en_6_4) ?_
            refine Tr.bipush (pc := 41) d_X5_both_41 rfl (by decide) ?_
            refine Tr.iconst (pc := 43) d_X5_both_43 (by decide) ?_
            refine Tr.callV (pc := 44) (as := [_, _]) d_X5_both_44 s_5_215 ok_X4_emit rfl rfl (Nat.le_of_ble_eq_true rfl) (Nat.le_of_ble_eq_true rfl) (by decide) (ty_15 hS.1.1) ?_
            refine Tr.imp (Tr.deep (by decide) (sp_X4_emit_15_w9 hS.1.wk 16 (by omega) 0 (by omega) (by omega))) ?_
            rintro M44 _ ⟨h44, rfl⟩
            have hS := St.tr hS h44 (by decide) (by decide)
            refine Tr.sc [] rfl ?_
            refine Tr.iincV (pc := 47) (n2 := (p7_2 + 1)) (ls2 := [(2, (0, (p7_2 + 1))), (1, (0, r33)), (0, (2, 6))]) d_X5_both_47 rfl (by decide) ((w32_id (by omega)).trans (by omega)) rfl ?_
            refine Tr.goto (pc := 50) (tgt := 7) d_X5_both_50 rfl ?_
            refine Tr.pick [2, 1, 0] (ls2 := [(0, (2, 6)), (1, (0, r33)), (2, (0, (p7_2 + 1)))]) rfl ?_
            exact J7 _ _ _ hS (by omega) (by omega) (fun hq => ((St.kp h44 (by decide) (by decide) (by decide)).trans (x33_6_6 (by omega)))) (by omega)
  refine Tr.pick [2, 1, 0] (ls2 := [(0, (2, 6)), (1, (0, r1)), (2, (0, 0))]) rfl ?_
  exact J7 _ _ _ _ hS (by omega) (by omega) (fun hq => (x1_6_6 (by omega))) (Nat.lt_succ_self _)

def ws_X5_test_6_w13 : List (Int × Int) := [(6, 0), (6, 1), (6, 5), (6, 6), (15, 11)]
def as_X5_test_6_w13 : List Int := [24, 25]
def q_X5_test_6_w13 (M0 M' : Mem) (r : Option PV) : Prop := St Tru ws_X5_test_6_w13 as_X5_test_6_w13 M0 M' ∧ ∃ v : Int, r = some (0, v) ∧ 0 ≤ v ∧ v ≤ 1 ∧ ((1 ≤ v ∧ v ≤ 1) → rd M' 6 6 = 4)
set_option maxRecDepth 100000 in
set_option maxHeartbeats 4000000 in
theorem sp_X5_test_6_w13 {l : Launch} {K : EC} {M0 : Mem} {xq : Int} (hI : In Tru M0) (hE : e_all K xq) (en_6_2 : rd M0 6 2 = 2) (en_6_3 : rd M0 6 3 = 7) (en_6_4 : rd M0 6 4 = 15) (en_6_6 : rd M0 6 6 = 4)   : Tr l K 25 mX5_test 0 [(0, (2, 6))] [] M0 (q_X5_test_6_w13 M0) := by
  have hS : St Tru ws_X5_test_6_w13 as_X5_test_6_w13 M0 M0 := St.rf hI
  refine Tr.aload_n (pc := 0) (i := 0) d_X5_test_0 rfl rfl ?_
  refine Tr.callV (pc := 1) (as := []) d_X5_test_1 s_5_212 ok_X5_both rfl rfl (Nat.le_of_ble_eq_true rfl) (Nat.le_of_ble_eq_true rfl) (by decide) (ty_6 hS.1.1) ?_
  refine Tr.imp (Tr.deep (by decide) (sp_X5_both_6_w13 hS.1 hE ((St.kp hS (by decide) (by decide) (by decide)).trans en_6_2) ((St.kp hS (by decide) (by decide) (by decide)).trans en_6_3) ((St.kp hS (by decide) (by decide) (by decide)).trans en_6_4) en_6_6)) ?_
  rintro M1 _ ⟨h1, r1, rfl, lr1, ur1, x1_6_6⟩
  have hS := St.tr hS h1 (by decide) (by decide)
  refine Tr.sc [(0, r1)] rfl ?_
  refine Tr.istore_n (pc := 4) (i := 1) (ls2 := [(1, (0, r1)), (0, (2, 6))]) d_X5_test_4 rfl (by decide) rfl ?_
  refine Tr.iconst (pc := 5) d_X5_test_5 (by decide) ?_
  refine Tr.istore_n (pc := 6) (i := 2) (ls2 := [(2, (0, 0)), (1, (0, r1)), (0, (2, 6))]) d_X5_test_6 rfl (by decide) rfl ?_
  have J7 : ∀ (n7 : Nat) (M : Mem) (p7_1 p7_2 : Int), St Tru ws_X5_test_6_w13 as_X5_test_6_w13 M0 M → (0 ≤ p7_1 ∧ p7_1 ≤ 1) → (0 ≤ p7_2 ∧ p7_2 ≤ 900) → (p7_1 = 1 → rd M 6 6 = 4) → (900 - p7_2).toNat < n7 → Tr l K 25 mX5_test 7 [(0, (2, 6)), (1, (0, p7_1)), (2, (0, p7_2))] [] M (q_X5_test_6_w13 M0) := by
    intro n7
    induction n7 with
    | zero => intro M p7_1 p7_2 hS bp7_1 bp7_2  y7_p7_1_6_60 hm7; exact absurd hm7 (Nat.not_lt_zero _)
    | succ n7 J7 =>
      intro M p7_1 p7_2 hS bp7_1 bp7_2  y7_p7_1_6_60 hm7
      have y7_p7_1_6_6 : 1 ≤ p7_1 ∧ p7_1 ≤ 1 → rd M 6 6 = 4 := fun hq => y7_p7_1_6_60 (by omega)
      refine Tr.iload_n (pc := 7) (i := 2) d_X5_test_7 rfl rfl ?_
      refine Tr.sipush (pc := 8) d_X5_test_8 rfl (by decide) ?_
      refine Tr.icmp_ge (pc := 11) (tgt := 53) d_X5_test_11 rfl (fun c11 => ?_) (fun c11 => ?_)
      · refine Tr.iload_n (pc := 53) (i := 1) d_X5_test_53 rfl rfl ?_
        exact Tr.zret (pc := 54) d_X5_test_54 rfl (by omega) ⟨hS, _, rfl, by omega, by omega, fun hq => (y7_p7_1_6_6 (by omega))⟩
      · refine Tr.iload_n (pc := 14) (i := 1) d_X5_test_14 rfl rfl ?_
        refine Tr.if_eq (pc := 15) (tgt := 53) d_X5_test_15 rfl (fun c15 => ?_) (fun c15 => ?_)
        · refine Tr.iload_n (pc := 53) (i := 1) d_X5_test_53 rfl rfl ?_
          exact Tr.zret (pc := 54) d_X5_test_54 rfl (by omega) ⟨hS, _, rfl, by omega, by omega, fun hq => absurd hq (by omega)⟩
        · refine Tr.aload_n (pc := 18) (i := 0) d_X5_test_18 rfl rfl ?_
          refine Tr.bipush (pc := 19) d_X5_test_19 rfl (by decide) ?_
          refine Tr.callV (pc := 21) (as := [_]) d_X5_test_21 s_5_71 ok_X5_isOwn rfl rfl (Nat.le_of_ble_eq_true rfl) (Nat.le_of_ble_eq_true rfl) (by decide) (ty_6 hS.1.1) ?_
          refine Tr.imp (Tr.deep (by decide) (sp_X5_isOwn_6_w3 hS.1 ((St.kp hS (by decide) (by decide) (by decide)).trans en_6_2) 19 (by omega))) ?_
          rintro M21 _ ⟨h21, r21, rfl, lr21, ur21⟩
          have hS := St.tr hS h21 (by decide) (by decide)
          refine Tr.sc [(0, r21)] rfl ?_
          refine Tr.if_eq (pc := 24) (tgt := 53) d_X5_test_24 rfl (fun c24 => ?_) (fun c24 => ?_)
          · refine Tr.iload_n (pc := 53) (i := 1) d_X5_test_53 rfl rfl ?_
            exact Tr.zret (pc := 54) d_X5_test_54 rfl (by omega) ⟨hS, _, rfl, by omega, by omega, fun _ => ((St.kp h21 (by decide) (by decide) (by decide)).trans (y7_p7_1_6_6 (by omega)))⟩
          · refine Tr.aload_n (pc := 27) (i := 0) d_X5_test_27 rfl rfl ?_
            refine Tr.callV (pc := 28) (as := []) d_X5_test_28 s_5_74 ok_X5_goOn rfl rfl (Nat.le_of_ble_eq_true rfl) (Nat.le_of_ble_eq_true rfl) (by decide) (ty_6 hS.1.1) ?_
            refine Tr.imp (Tr.deep (by decide) (sp_X5_goOn_6 hS.1 )) ?_
            rintro M28 _ ⟨h28, r28, rfl, lr28, ur28⟩
            have hS := St.tr hS h28 (by decide) (by decide)
            refine Tr.sc [(0, r28)] rfl ?_
            refine Tr.pop (pc := 31) d_X5_test_31 ne01 ?_
            refine Tr.aload_n (pc := 32) (i := 0) d_X5_test_32 rfl rfl ?_
            refine Tr.callV (pc := 33) (as := []) d_X5_test_33 s_5_212 ok_X5_both rfl rfl (Nat.le_of_ble_eq_true rfl) (Nat.le_of_ble_eq_true rfl) (by decide) (ty_6 hS.1.1) ?_
            refine Tr.imp (Tr.deep (by decide) (sp_X5_both_6_w13 hS.1 hE ((St.kp hS (by decide) (by decide) (by decide)).trans en_6_2) ((St.kp hS (by decide) (by decide) (by decide)).trans en_6_3) ((St.kp hS (by decide) (by decide) (by decide)).trans en_6_4) ((St.kp h28 (by decide) (by decide) (by decide)).trans ((St.kp h21 (by decide) (by decide) (by decide)).trans (y7_p7_1_6_6 (by omega)))))) ?_
            rintro M33 _ ⟨h33, r33, rfl, lr33, ur33, x33_6_6⟩
            have hS := St.tr hS h33 (by decide) (by decide)
            refine Tr.sc [(0, r33)] rfl ?_
            refine Tr.istore_n (pc := 36) (i := 1) (ls2 := [(1, (0, r33)), (0, (2, 6)), (2, (0, p7_2))]) d_X5_test_36 rfl (by decide) rfl ?_
            refine Tr.aload_n (pc := 37) (i := 0) d_X5_test_37 rfl rfl ?_
            refine Tr.getf (pc := 38) d_X5_test_38 f_5_32 (by decide) (by decide) (ty_6 hS.1.1) ?_
            refine Tr.tp 15 ((St.kp hS (by decide) (by decide) (by decide)).trans en_6_4) ?_
            refine Tr.bipush (pc := 41) d_X5_test_41 rfl (by decide) ?_
            refine Tr.iconst (pc := 43) d_X5_test_43 (by decide) ?_
            refine Tr.callV (pc := 44) (as := [_, _]) d_X5_test_44 s_5_215 ok_X4_emit rfl rfl (Nat.le_of_ble_eq_true rfl) (Nat.le_of_ble_eq_true rfl) (by decide) (ty_15 hS.1.1) ?_
            refine Tr.imp (Tr.deep (by decide) (sp_X4_emit_15_w10 hS.1.wk 17 (by omega) 0 (by omega) (by omega))) ?_
            rintro M44 _ ⟨h44, rfl⟩
            have hS := St.tr hS h44 (by decide) (by decide)
            refine Tr.sc [] rfl ?_
            refine Tr.iincV (pc := 47) (n2 := (p7_2 + 1)) (ls2 := [(2, (0, (p7_2 + 1))), (1, (0, r33)), (0, (2, 6))]) d_X5_test_47 rfl (by decide) ((w32_id (by omega)).trans (by omega)) rfl ?_
            refine Tr.goto (pc := 50) (tgt := 7) d_X5_test_50 rfl ?_
            refine Tr.pick [2, 1, 0] (ls2 := [(0, (2, 6)), (1, (0, r33)), (2, (0, (p7_2 + 1)))]) rfl ?_
            exact J7 _ _ _ hS (by omega) (by omega) (fun hq => ((St.kp h44 (by decide) (by decide) (by decide)).trans (x33_6_6 (by omega)))) (by omega)
  refine Tr.pick [2, 1, 0] (ls2 := [(0, (2, 6)), (1, (0, r1)), (2, (0, 0))]) rfl ?_
  exact J7 _ _ _ _ hS (by omega) (by omega) (fun hq => (x1_6_6 (by omega))) (Nat.lt_succ_self _)

def ws_X5_plainFact_6_w12 : List (Int × Int) := [(6, 0), (6, 1), (6, 5), (6, 6), (15, 11)]
def as_X5_plainFact_6_w12 : List Int := [24, 25]
def q_X5_plainFact_6_w12 (M0 M' : Mem) (r : Option PV) : Prop := St Tru ws_X5_plainFact_6_w12 as_X5_plainFact_6_w12 M0 M' ∧ ∃ v : Int, r = some (0, v) ∧ 0 ≤ v ∧ v ≤ 1 ∧ ((1 ≤ v ∧ v ≤ 1) → rd M' 6 6 = 3)
set_option maxRecDepth 100000 in
set_option maxHeartbeats 4000000 in
theorem sp_X5_plainFact_6_w12 {l : Launch} {K : EC} {M0 : Mem} {xq : Int} (hI : In Tru M0) (hE : e_all K xq) (en_6_2 : rd M0 6 2 = 2) (en_6_3 : rd M0 6 3 = 7) (en_6_4 : rd M0 6 4 = 15) (en_6_6 : rd M0 6 6 = 3)   : Tr l K 26 mX5_plainFact 0 [(0, (2, 6))] [] M0 (q_X5_plainFact_6_w12 M0) := by
  have hS : St Tru ws_X5_plainFact_6_w12 as_X5_plainFact_6_w12 M0 M0 := St.rf hI
  refine Tr.aload_n (pc := 0) (i := 0) d_X5_plainFact_0 rfl rfl ?_
  refine Tr.bipush (pc := 1) d_X5_plainFact_1 rfl (by decide) ?_
  refine Tr.callV (pc := 3) (as := [_]) d_X5_plainFact_3 s_5_77 ok_X5_isSign rfl rfl (Nat.le_of_ble_eq_true rfl) (Nat.le_of_ble_eq_true rfl) (by decide) (ty_6 hS.1.1) ?_
  refine Tr.imp (Tr.deep (by decide) (sp_X5_isSign_6_w1 hS.1 ((St.kp hS (by decide) (by decide) (by decide)).trans en_6_2) 91 (by omega))) ?_
  rintro M3 _ ⟨h3, r3, rfl, lr3, ur3⟩
  have hS := St.tr hS h3 (by decide) (by decide)
  refine Tr.sc [(0, r3)] rfl ?_
  refine Tr.if_eq (pc := 6) (tgt := 40) d_X5_plainFact_6 rfl (fun c6 => ?_) (fun c6 => ?_)
  · refine Tr.aload_n (pc := 40) (i := 0) d_X5_plainFact_40 rfl rfl ?_
    refine Tr.bipush (pc := 41) d_X5_plainFact_41 rfl (by decide) ?_
    refine Tr.callV (pc := 43) (as := [_]) d_X5_plainFact_43 s_5_71 ok_X5_isOwn rfl rfl (Nat.le_of_ble_eq_true rfl) (Nat.le_of_ble_eq_true rfl) (by decide) (ty_6 hS.1.1) ?_
    refine Tr.imp (Tr.deep (by decide) (sp_X5_isOwn_6_w4 hS.1 ((St.kp hS (by decide) (by decide) (by decide)).trans en_6_2) 22 (by omega))) ?_
    rintro M43 _ ⟨h43, r43, rfl, lr43, ur43⟩
    have hS := St.tr hS h43 (by decide) (by decide)
    refine Tr.sc [(0, r43)] rfl ?_
    refine Tr.if_eq (pc := 46) (tgt := 63) d_X5_plainFact_46 rfl (fun c46 => ?_) (fun c46 => ?_)
    · refine Tr.aload_n (pc := 63) (i := 0) d_X5_plainFact_63 rfl rfl ?_
      refine Tr.bipush (pc := 64) d_X5_plainFact_64 rfl (by decide) ?_
      refine Tr.callV (pc := 66) (as := [_]) d_X5_plainFact_66 s_5_71 ok_X5_isOwn rfl rfl (Nat.le_of_ble_eq_true rfl) (Nat.le_of_ble_eq_true rfl) (by decide) (ty_6 hS.1.1) ?_
      refine Tr.imp (Tr.deep (by decide) (sp_X5_isOwn_6_w4 hS.1 ((St.kp hS (by decide) (by decide) (by decide)).trans en_6_2) 23 (by omega))) ?_
      rintro M66 _ ⟨h66, r66, rfl, lr66, ur66⟩
      have hS := St.tr hS h66 (by decide) (by decide)
      refine Tr.sc [(0, r66)] rfl ?_
      refine Tr.if_eq (pc := 69) (tgt := 106) d_X5_plainFact_69 rfl (fun c69 => ?_) (fun c69 => ?_)
      · refine Tr.aload_n (pc := 106) (i := 0) d_X5_plainFact_106 rfl rfl ?_
        refine Tr.callV (pc := 107) (as := []) d_X5_plainFact_107 s_5_174 ok_X5_sum rfl rfl (Nat.le_of_ble_eq_true rfl) (Nat.le_of_ble_eq_true rfl) (by decide) (ty_6 hS.1.1) ?_
        refine Tr.imp (Tr.deep (by decide) (sp_X5_sum_6_w12 hS.1 hE ((St.kp hS (by decide) (by decide) (by decide)).trans en_6_2) ((St.kp hS (by decide) (by decide) (by decide)).trans en_6_3) ((St.kp hS (by decide) (by decide) (by decide)).trans en_6_4) ((St.kp h66 (by decide) (by decide) (by decide)).trans ((St.kp h43 (by decide) (by decide) (by decide)).trans ((St.kp h3 (by decide) (by decide) (by decide)).trans en_6_6))))) ?_
        rintro M107 _ ⟨h107, r107, rfl, lr107, ur107, x107_6_6⟩
        have hS := St.tr hS h107 (by decide) (by decide)
        refine Tr.sc [(0, r107)] rfl ?_
        refine Tr.if_ne (pc := 110) (tgt := 115) d_X5_plainFact_110 rfl (fun c110 => ?_) (fun c110 => ?_)
        · refine Tr.aload_n (pc := 115) (i := 0) d_X5_plainFact_115 rfl rfl ?_
          refine Tr.bipush (pc := 116) d_X5_plainFact_116 rfl (by decide) ?_
          refine Tr.callV (pc := 118) (as := [_]) d_X5_plainFact_118 s_5_77 ok_X5_isSign rfl rfl (Nat.le_of_ble_eq_true rfl) (Nat.le_of_ble_eq_true rfl) (by decide) (ty_6 hS.1.1) ?_
          refine Tr.imp (Tr.deep (by decide) (sp_X5_isSign_6_w3 hS.1 ((St.kp hS (by decide) (by decide) (by decide)).trans en_6_2) 60 (by omega))) ?_
          rintro M118 _ ⟨h118, r118, rfl, lr118, ur118⟩
          have hS := St.tr hS h118 (by decide) (by decide)
          refine Tr.sc [(0, r118)] rfl ?_
          have J158 : ∀ (M : Mem) (q158_0 : Int), St Tru ws_X5_plainFact_6_w12 as_X5_plainFact_6_w12 M0 M → ((-1) ≤ q158_0 ∧ q158_0 ≤ 15) → rd M 6 6 = 3 → Tr l K 26 mX5_plainFact 158 [(0, (2, 6))] [(0, q158_0)] M (q_X5_plainFact_6_w12 M0) := by
            intro M q158_0 hS bq158_0 k158_6_6
            refine Tr.istore_n (pc := 158) (i := 1) (ls2 := [(1, (0, q158_0)), (0, (2, 6))]) d_X5_plainFact_158 rfl (by decide) rfl ?_
            refine Tr.iload_n (pc := 159) (i := 1) d_X5_plainFact_159 rfl rfl ?_
            refine Tr.if_ge (pc := 160) (tgt := 169) d_X5_plainFact_160 rfl (fun c160 => ?_) (fun c160 => ?_)
            · refine Tr.aload_n (pc := 169) (i := 0) d_X5_plainFact_169 rfl rfl ?_
              refine Tr.callV (pc := 170) (as := []) d_X5_plainFact_170 s_5_74 ok_X5_goOn rfl rfl (Nat.le_of_ble_eq_true rfl) (Nat.le_of_ble_eq_true rfl) (by decide) (ty_6 hS.1.1) ?_
              refine Tr.imp (Tr.deep (by decide) (sp_X5_goOn_6 hS.1 )) ?_
              rintro M170 _ ⟨h170, r170, rfl, lr170, ur170⟩
              have hS := St.tr hS h170 (by decide) (by decide)
              refine Tr.sc [(0, r170)] rfl ?_
              refine Tr.pop (pc := 173) d_X5_plainFact_173 ne01 ?_
              refine Tr.aload_n (pc := 174) (i := 0) d_X5_plainFact_174 rfl rfl ?_
              refine Tr.callV (pc := 175) (as := []) d_X5_plainFact_175 s_5_174 ok_X5_sum rfl rfl (Nat.le_of_ble_eq_true rfl) (Nat.le_of_ble_eq_true rfl) (by decide) (ty_6 hS.1.1) ?_
              refine Tr.imp (Tr.deep (by decide) (sp_X5_sum_6_w12 hS.1 hE ((St.kp hS (by decide) (by decide) (by decide)).trans en_6_2) ((St.kp hS (by decide) (by decide) (by decide)).trans en_6_3) ((St.kp hS (by decide) (by decide) (by decide)).trans en_6_4) ((St.kp h170 (by decide) (by decide) (by decide)).trans k158_6_6))) ?_
              rintro M175 _ ⟨h175, r175, rfl, lr175, ur175, x175_6_6⟩
              have hS := St.tr hS h175 (by decide) (by decide)
              refine Tr.sc [(0, r175)] rfl ?_
              refine Tr.istore_n (pc := 178) (i := 2) (ls2 := [(2, (0, r175)), (1, (0, q158_0)), (0, (2, 6))]) d_X5_plainFact_178 rfl (by decide) rfl ?_
              refine Tr.aload_n (pc := 179) (i := 0) d_X5_plainFact_179 rfl rfl ?_
              refine Tr.getf (pc := 180) d_X5_plainFact_180 f_5_32 (by decide) (by decide) (ty_6 hS.1.1) ?_
              refine Tr.tp 15 ((St.kp hS (by decide) (by decide) (by decide)).trans en_6_4) ?_
              refine Tr.iload_n (pc := 183) (i := 1) d_X5_plainFact_183 rfl rfl ?_
              refine Tr.iconst (pc := 184) d_X5_plainFact_184 (by decide) ?_
              refine Tr.callV (pc := 185) (as := [_, _]) d_X5_plainFact_185 s_5_215 ok_X4_emit rfl rfl (Nat.le_of_ble_eq_true rfl) (Nat.le_of_ble_eq_true rfl) (by decide) (ty_15 hS.1.1) ?_
              refine Tr.imp (Tr.deep (by decide) (sp_X4_emit_15_w8 hS.1.wk q158_0 (by omega) 0 (by omega) (by omega))) ?_
              rintro M185 _ ⟨h185, rfl⟩
              have hS := St.tr hS h185 (by decide) (by decide)
              refine Tr.sc [] rfl ?_
              refine Tr.iload_n (pc := 188) (i := 2) d_X5_plainFact_188 rfl rfl ?_
              exact Tr.zret (pc := 189) d_X5_plainFact_189 rfl (by omega) ⟨hS, _, rfl, by omega, by omega, fun hq => ((St.kp h185 (by decide) (by decide) (by decide)).trans (x175_6_6 (by omega)))⟩
            · refine Tr.aload_n (pc := 163) (i := 0) d_X5_plainFact_163 rfl rfl ?_
              refine Tr.iconst (pc := 164) d_X5_plainFact_164 (by decide) ?_
              refine Tr.callV (pc := 165) (as := [_]) d_X5_plainFact_165 s_5_56 ok_X5_refuse rfl rfl (Nat.le_of_ble_eq_true rfl) (Nat.le_of_ble_eq_true rfl) (by decide) (ty_6 hS.1.1) ?_
              refine Tr.imp (Tr.deep (by decide) (sp_X5_refuse_6_w1 hS.1 ((St.kp hS (by decide) (by decide) (by decide)).trans en_6_2) 1 (by omega))) ?_
              rintro M165 _ ⟨h165, r165, rfl, lr165, ur165⟩
              have hS := St.tr hS h165 (by decide) (by decide)
              refine Tr.sc [(0, r165)] rfl ?_
              exact Tr.zret (pc := 168) d_X5_plainFact_168 rfl (by omega) ⟨hS, _, rfl, by omega, by omega, fun hq => absurd hq (by omega)⟩
          refine Tr.if_eq (pc := 121) (tgt := 129) d_X5_plainFact_121 rfl (fun c121 => ?_) (fun c121 => ?_)
          · refine Tr.aload_n (pc := 129) (i := 0) d_X5_plainFact_129 rfl rfl ?_
            refine Tr.bipush (pc := 130) d_X5_plainFact_130 rfl (by decide) ?_
            refine Tr.callV (pc := 132) (as := [_]) d_X5_plainFact_132 s_5_77 ok_X5_isSign rfl rfl (Nat.le_of_ble_eq_true rfl) (Nat.le_of_ble_eq_true rfl) (by decide) (ty_6 hS.1.1) ?_
            refine Tr.imp (Tr.deep (by decide) (sp_X5_isSign_6_w4 hS.1 ((St.kp hS (by decide) (by decide) (by decide)).trans en_6_2) 62 (by omega))) ?_
            rintro M132 _ ⟨h132, r132, rfl, lr132, ur132⟩
            have hS := St.tr hS h132 (by decide) (by decide)
            refine Tr.sc [(0, r132)] rfl ?_
            refine Tr.if_eq (pc := 135) (tgt := 143) d_X5_plainFact_135 rfl (fun c135 => ?_) (fun c135 => ?_)
            · refine Tr.aload_n (pc := 143) (i := 0) d_X5_plainFact_143 rfl rfl ?_
              refine Tr.bipush (pc := 144) d_X5_plainFact_144 rfl (by decide) ?_
              refine Tr.callV (pc := 146) (as := [_]) d_X5_plainFact_146 s_5_77 ok_X5_isSign rfl rfl (Nat.le_of_ble_eq_true rfl) (Nat.le_of_ble_eq_true rfl) (by decide) (ty_6 hS.1.1) ?_
              refine Tr.imp (Tr.deep (by decide) (sp_X5_isSign_6_w4 hS.1 ((St.kp hS (by decide) (by decide) (by decide)).trans en_6_2) 61 (by omega))) ?_
              rintro M146 _ ⟨h146, r146, rfl, lr146, ur146⟩
              have hS := St.tr hS h146 (by decide) (by decide)
              refine Tr.sc [(0, r146)] rfl ?_
              refine Tr.if_eq (pc := 149) (tgt := 157) d_X5_plainFact_149 rfl (fun c149 => ?_) (fun c149 => ?_)
              · refine Tr.iconst (pc := 157) d_X5_plainFact_157 (by decide) ?_
                refine Tr.pick [0] (ls2 := [(0, (2, 6))]) rfl ?_
                exact J158 _ _ hS (by omega) ((St.kp h146 (by decide) (by decide) (by decide)).trans ((St.kp h132 (by decide) (by decide) (by decide)).trans ((St.kp h118 (by decide) (by decide) (by decide)).trans (x107_6_6 (by omega)))))
              · refine Tr.bipush (pc := 152) d_X5_plainFact_152 rfl (by decide) ?_
                refine Tr.goto (pc := 154) (tgt := 158) d_X5_plainFact_154 rfl ?_
                refine Tr.pick [0] (ls2 := [(0, (2, 6))]) rfl ?_
                exact J158 _ _ hS (by omega) ((St.kp h146 (by decide) (by decide) (by decide)).trans ((St.kp h132 (by decide) (by decide) (by decide)).trans ((St.kp h118 (by decide) (by decide) (by decide)).trans (x107_6_6 (by omega)))))
            · refine Tr.bipush (pc := 138) d_X5_plainFact_138 rfl (by decide) ?_
              refine Tr.goto (pc := 140) (tgt := 158) d_X5_plainFact_140 rfl ?_
              refine Tr.pick [0] (ls2 := [(0, (2, 6))]) rfl ?_
              exact J158 _ _ hS (by omega) ((St.kp h132 (by decide) (by decide) (by decide)).trans ((St.kp h118 (by decide) (by decide) (by decide)).trans (x107_6_6 (by omega))))
          · refine Tr.bipush (pc := 124) d_X5_plainFact_124 rfl (by decide) ?_
            refine Tr.goto (pc := 126) (tgt := 158) d_X5_plainFact_126 rfl ?_
            refine Tr.pick [0] (ls2 := [(0, (2, 6))]) rfl ?_
            exact J158 _ _ hS (by omega) ((St.kp h118 (by decide) (by decide) (by decide)).trans (x107_6_6 (by omega)))
        · refine Tr.iconst (pc := 113) d_X5_plainFact_113 (by decide) ?_
          exact Tr.zret (pc := 114) d_X5_plainFact_114 rfl (by omega) ⟨hS, _, rfl, by omega, by omega, fun hq => absurd hq (by omega)⟩
      · refine Tr.aload_n (pc := 72) (i := 0) d_X5_plainFact_72 rfl rfl ?_
        refine Tr.callV (pc := 73) (as := []) d_X5_plainFact_73 s_5_74 ok_X5_goOn rfl rfl (Nat.le_of_ble_eq_true rfl) (Nat.le_of_ble_eq_true rfl) (by decide) (ty_6 hS.1.1) ?_
        refine Tr.imp (Tr.deep (by decide) (sp_X5_goOn_6 hS.1 )) ?_
        rintro M73 _ ⟨h73, r73, rfl, lr73, ur73⟩
        have hS := St.tr hS h73 (by decide) (by decide)
        refine Tr.sc [(0, r73)] rfl ?_
        refine Tr.pop (pc := 76) d_X5_plainFact_76 ne01 ?_
        refine Tr.aload_n (pc := 77) (i := 0) d_X5_plainFact_77 rfl rfl ?_
        refine Tr.iconst (pc := 78) d_X5_plainFact_78 (by decide) ?_
        refine Tr.callV (pc := 79) (as := [_]) d_X5_plainFact_79 s_5_186 ok_X5_takeName rfl rfl (Nat.le_of_ble_eq_true rfl) (Nat.le_of_ble_eq_true rfl) (by decide) (ty_6 hS.1.1) ?_
        refine Tr.imp (Tr.deep (by decide) (sp_X5_takeName_6_v0_w1 hS.1 hE ((St.kp hS (by decide) (by decide) (by decide)).trans en_6_2) ((St.kp hS (by decide) (by decide) (by decide)).trans en_6_3))) ?_
        rintro M79 _ ⟨h79, r79, rfl, lr79, ur79⟩
        have hS := St.tr hS h79 (by decide) (by decide)
        refine Tr.sc [(0, r79)] rfl ?_
        refine Tr.istore_n (pc := 82) (i := 1) (ls2 := [(1, (0, r79)), (0, (2, 6))]) d_X5_plainFact_82 rfl (by decide) rfl ?_
        refine Tr.aload_n (pc := 83) (i := 0) d_X5_plainFact_83 rfl rfl ?_
        refine Tr.getf (pc := 84) d_X5_plainFact_84 f_5_32 (by decide) (by decide) (ty_6 hS.1.1) ?_
        refine Tr.tp 15 ((St.kp hS (by decide) (by decide) (by decide)).trans en_6_4) ?_
        refine Tr.iconst (pc := 87) d_X5_plainFact_87 (by decide) ?_
        refine Tr.iload_n (pc := 88) (i := 1) d_X5_plainFact_88 rfl rfl ?_
        refine Tr.iconst (pc := 89) d_X5_plainFact_89 (by decide) ?_
        refine Tr.mmax (pc := 90) d_X5_plainFact_90 ml_5_192 mw_mmax (Nat.le_of_ble_eq_true rfl) ?_
        refine Tr.gen (P := fun v => (v = r79 ∧ 0 ≤ r79) ∨ (v = 0 ∧ r79 ≤ 0)) (f_max_p _ _) (fun r90 er90 br90 => ?_)
        refine Tr.callV (pc := 93) (as := [_, _]) d_X5_plainFact_93 s_5_215 ok_X4_emit rfl rfl (Nat.le_of_ble_eq_true rfl) (Nat.le_of_ble_eq_true rfl) (by decide) (ty_15 hS.1.1) ?_
        refine Tr.imp (Tr.deep (by decide) (sp_X4_emit_15_w7 hS.1.wk 4 (by omega) r90 (by omega) (by omega))) ?_
        rintro M93 _ ⟨h93, rfl⟩
        have hS := St.tr hS h93 (by decide) (by decide)
        refine Tr.sc [] rfl ?_
        refine Tr.iload_n (pc := 96) (i := 1) d_X5_plainFact_96 rfl rfl ?_
        refine Tr.if_lt (pc := 97) (tgt := 104) d_X5_plainFact_97 rfl (fun c97 => ?_) (fun c97 => ?_)
        · refine Tr.iconst (pc := 104) d_X5_plainFact_104 (by decide) ?_
          exact Tr.zret (pc := 105) d_X5_plainFact_105 rfl (by omega) ⟨hS, _, rfl, by omega, by omega, fun hq => absurd hq (by omega)⟩
        · refine Tr.iconst (pc := 100) d_X5_plainFact_100 (by decide) ?_
          refine Tr.goto (pc := 101) (tgt := 105) d_X5_plainFact_101 rfl ?_
          exact Tr.zret (pc := 105) d_X5_plainFact_105 rfl (by omega) ⟨hS, _, rfl, by omega, by omega, fun _ => ((St.kp h93 (by decide) (by decide) (by decide)).trans ((St.kp h79 (by decide) (by decide) (by decide)).trans ((St.kp h73 (by decide) (by decide) (by decide)).trans ((St.kp h66 (by decide) (by decide) (by decide)).trans ((St.kp h43 (by decide) (by decide) (by decide)).trans ((St.kp h3 (by decide) (by decide) (by decide)).trans en_6_6))))))⟩
    · refine Tr.aload_n (pc := 49) (i := 0) d_X5_plainFact_49 rfl rfl ?_
      refine Tr.getf (pc := 50) d_X5_plainFact_50 f_5_32 (by decide) (by decide) (ty_6 hS.1.1) ?_
      refine Tr.tp 15 ((St.kp hS (by decide) (by decide) (by decide)).trans en_6_4) ?_
      refine Tr.iconst (pc := 53) d_X5_plainFact_53 (by decide) ?_
      refine Tr.iconst (pc := 54) d_X5_plainFact_54 (by decide) ?_
      refine Tr.callV (pc := 55) (as := [_, _]) d_X5_plainFact_55 s_5_215 ok_X4_emit rfl rfl (Nat.le_of_ble_eq_true rfl) (Nat.le_of_ble_eq_true rfl) (by decide) (ty_15 hS.1.1) ?_
      refine Tr.imp (Tr.deep (by decide) (sp_X4_emit_15_w3 hS.1.wk 0 (by omega) 1 (by omega) (by omega))) ?_
      rintro M55 _ ⟨h55, rfl⟩
      have hS := St.tr hS h55 (by decide) (by decide)
      refine Tr.sc [] rfl ?_
      refine Tr.aload_n (pc := 58) (i := 0) d_X5_plainFact_58 rfl rfl ?_
      refine Tr.callV (pc := 59) (as := []) d_X5_plainFact_59 s_5_74 ok_X5_goOn rfl rfl (Nat.le_of_ble_eq_true rfl) (Nat.le_of_ble_eq_true rfl) (by decide) (ty_6 hS.1.1) ?_
      refine Tr.imp (Tr.deep (by decide) (sp_X5_goOn_6 hS.1 )) ?_
      rintro M59 _ ⟨h59, r59, rfl, lr59, ur59⟩
      have hS := St.tr hS h59 (by decide) (by decide)
      refine Tr.sc [(0, r59)] rfl ?_
      exact Tr.zret (pc := 62) d_X5_plainFact_62 rfl (by omega) ⟨hS, _, rfl, by omega, by omega, fun _ => ((St.kp h59 (by decide) (by decide) (by decide)).trans ((St.kp h55 (by decide) (by decide) (by decide)).trans ((St.kp h43 (by decide) (by decide) (by decide)).trans ((St.kp h3 (by decide) (by decide) (by decide)).trans en_6_6))))⟩
  · refine Tr.aload_n (pc := 9) (i := 0) d_X5_plainFact_9 rfl rfl ?_
    refine Tr.bipush (pc := 10) d_X5_plainFact_10 rfl (by decide) ?_
    refine Tr.callV (pc := 12) (as := [_]) d_X5_plainFact_12 s_5_206 ok_X5_takeOpening rfl rfl (Nat.le_of_ble_eq_true rfl) (Nat.le_of_ble_eq_true rfl) (by decide) (ty_6 hS.1.1) ?_
    refine Tr.imp (Tr.deep (by decide) (sp_X5_takeOpening_6_w12 hS.1 ((St.kp hS (by decide) (by decide) (by decide)).trans en_6_2) ((St.kp h3 (by decide) (by decide) (by decide)).trans en_6_6) 91 (by omega))) ?_
    rintro M12 _ ⟨h12, r12, rfl, lr12, ur12, x12_6_6⟩
    have hS := St.tr hS h12 (by decide) (by decide)
    refine Tr.sc [(0, r12)] rfl ?_
    refine Tr.if_eq (pc := 15) (tgt := 38) d_X5_plainFact_15 rfl (fun c15 => ?_) (fun c15 => ?_)
    · refine Tr.iconst (pc := 38) d_X5_plainFact_38 (by decide) ?_
      exact Tr.zret (pc := 39) d_X5_plainFact_39 rfl (by omega) ⟨hS, _, rfl, by omega, by omega, fun hq => absurd hq (by omega)⟩
    · refine Tr.aload_n (pc := 18) (i := 0) d_X5_plainFact_18 rfl rfl ?_
      refine Tr.callV (pc := 19) (as := []) d_X5_plainFact_19 s_5_177 ok_X5_test rfl rfl (Nat.le_of_ble_eq_true rfl) (Nat.le_of_ble_eq_true rfl) (by decide) (ty_6 hS.1.1) ?_
      refine Tr.imp (Tr.deep (by decide) (sp_X5_test_6_w13 hS.1 hE ((St.kp hS (by decide) (by decide) (by decide)).trans en_6_2) ((St.kp hS (by decide) (by decide) (by decide)).trans en_6_3) ((St.kp hS (by decide) (by decide) (by decide)).trans en_6_4) (x12_6_6 (by omega)))) ?_
      rintro M19 _ ⟨h19, r19, rfl, lr19, ur19, x19_6_6⟩
      have hS := St.tr hS h19 (by decide) (by decide)
      refine Tr.sc [(0, r19)] rfl ?_
      refine Tr.if_eq (pc := 22) (tgt := 38) d_X5_plainFact_22 rfl (fun c22 => ?_) (fun c22 => ?_)
      · refine Tr.iconst (pc := 38) d_X5_plainFact_38 (by decide) ?_
        exact Tr.zret (pc := 39) d_X5_plainFact_39 rfl (by omega) ⟨hS, _, rfl, by omega, by omega, fun hq => absurd hq (by omega)⟩
      · refine Tr.aload_n (pc := 25) (i := 0) d_X5_plainFact_25 rfl rfl ?_
        refine Tr.bipush (pc := 26) d_X5_plainFact_26 rfl (by decide) ?_
        refine Tr.callV (pc := 28) (as := [_]) d_X5_plainFact_28 s_5_209 ok_X5_takeClosing rfl rfl (Nat.le_of_ble_eq_true rfl) (Nat.le_of_ble_eq_true rfl) (by decide) (ty_6 hS.1.1) ?_
        refine Tr.imp (Tr.deep (by decide) (sp_X5_takeClosing_6_w12 hS.1 ((St.kp hS (by decide) (by decide) (by decide)).trans en_6_2) (x19_6_6 (by omega)) 93 (by omega))) ?_
        rintro M28 _ ⟨h28, r28, rfl, lr28, ur28, x28_6_6⟩
        have hS := St.tr hS h28 (by decide) (by decide)
        refine Tr.sc [(0, r28)] rfl ?_
        refine Tr.if_eq (pc := 31) (tgt := 38) d_X5_plainFact_31 rfl (fun c31 => ?_) (fun c31 => ?_)
        · refine Tr.iconst (pc := 38) d_X5_plainFact_38 (by decide) ?_
          exact Tr.zret (pc := 39) d_X5_plainFact_39 rfl (by omega) ⟨hS, _, rfl, by omega, by omega, fun hq => absurd hq (by omega)⟩
        · refine Tr.iconst (pc := 34) d_X5_plainFact_34 (by decide) ?_
          refine Tr.goto (pc := 35) (tgt := 39) d_X5_plainFact_35 rfl ?_
          exact Tr.zret (pc := 39) d_X5_plainFact_39 rfl (by omega) ⟨hS, _, rfl, by omega, by omega, fun _ => (x28_6_6 (by omega))⟩

def ws_X5_fact_6_w12 : List (Int × Int) := [(6, 0), (6, 1), (6, 5), (6, 6), (15, 11)]
def as_X5_fact_6_w12 : List Int := [24, 25]
def q_X5_fact_6_w12 (M0 M' : Mem) (r : Option PV) : Prop := St Tru ws_X5_fact_6_w12 as_X5_fact_6_w12 M0 M' ∧ ∃ v : Int, r = some (0, v) ∧ 0 ≤ v ∧ v ≤ 1 ∧ ((1 ≤ v ∧ v ≤ 1) → rd M' 6 6 = 3)
set_option maxRecDepth 100000 in
set_option maxHeartbeats 4000000 in
theorem sp_X5_fact_6_w12 {l : Launch} {K : EC} {M0 : Mem} {xq : Int} (hI : In Tru M0) (hE : e_all K xq) (en_6_2 : rd M0 6 2 = 2) (en_6_3 : rd M0 6 3 = 7) (en_6_4 : rd M0 6 4 = 15) (en_6_6 : rd M0 6 6 = 3)   : Tr l K 27 mX5_fact 0 [(0, (2, 6))] [] M0 (q_X5_fact_6_w12 M0) := by
  have hS : St Tru ws_X5_fact_6_w12 as_X5_fact_6_w12 M0 M0 := St.rf hI
  refine Tr.iconst (pc := 0) d_X5_fact_0 (by decide) ?_
  refine Tr.istore_n (pc := 1) (i := 1) (ls2 := [(1, (0, 0)), (0, (2, 6))]) d_X5_fact_1 rfl (by decide) rfl ?_
  refine Tr.iconst (pc := 2) d_X5_fact_2 (by decide) ?_
  refine Tr.istore_n (pc := 3) (i := 2) (ls2 := [(2, (0, 0)), (1, (0, 0)), (0, (2, 6))]) d_X5_fact_3 rfl (by decide) rfl ?_
  have J4 : ∀ (n4 : Nat) (M : Mem) (p4_1 p4_2 : Int), St Tru ws_X5_fact_6_w12 as_X5_fact_6_w12 M0 M → (0 ≤ p4_1 ∧ p4_1 ≤ 1) → (0 ≤ p4_2 ∧ p4_2 ≤ 900) → rd M 6 6 = 3 → (900 - p4_2).toNat < n4 → Tr l K 27 mX5_fact 4 [(0, (2, 6)), (1, (0, p4_1)), (2, (0, p4_2))] [] M (q_X5_fact_6_w12 M0) := by
    intro n4
    induction n4 with
    | zero => intro M p4_1 p4_2 hS bp4_1 bp4_2 k4_6_6 hm4; exact absurd hm4 (Nat.not_lt_zero _)
    | succ n4 J4 =>
      intro M p4_1 p4_2 hS bp4_1 bp4_2 k4_6_6 hm4
      refine Tr.iload_n (pc := 4) (i := 2) d_X5_fact_4 rfl rfl ?_
      refine Tr.sipush (pc := 5) d_X5_fact_5 rfl (by decide) ?_
      have J41 : ∀ (M : Mem), St Tru ws_X5_fact_6_w12 as_X5_fact_6_w12 M0 M → rd M 6 6 = 3 → Tr l K 27 mX5_fact 41 [(0, (2, 6)), (1, (0, p4_1))] [] M (q_X5_fact_6_w12 M0) := by
        intro M  hS  k41_6_6
        refine Tr.aload_n (pc := 41) (i := 0) d_X5_fact_41 rfl rfl ?_
        refine Tr.callV (pc := 42) (as := []) d_X5_fact_42 s_5_221 ok_X5_plainFact rfl rfl (Nat.le_of_ble_eq_true rfl) (Nat.le_of_ble_eq_true rfl) (by decide) (ty_6 hS.1.1) ?_
        refine Tr.imp (Tr.deep (by decide) (sp_X5_plainFact_6_w12 hS.1 hE ((St.kp hS (by decide) (by decide) (by decide)).trans en_6_2) ((St.kp hS (by decide) (by decide) (by decide)).trans en_6_3) ((St.kp hS (by decide) (by decide) (by decide)).trans en_6_4) k41_6_6)) ?_
        rintro M42 _ ⟨h42, r42, rfl, lr42, ur42, x42_6_6⟩
        have hS := St.tr hS h42 (by decide) (by decide)
        refine Tr.sc [(0, r42)] rfl ?_
        refine Tr.istore_n (pc := 45) (i := 2) (ls2 := [(2, (0, r42)), (0, (2, 6)), (1, (0, p4_1))]) d_X5_fact_45 rfl (by decide) rfl ?_
        refine Tr.iload_n (pc := 46) (i := 1) d_X5_fact_46 rfl rfl ?_
        refine Tr.if_eq (pc := 47) (tgt := 59) d_X5_fact_47 rfl (fun c47 => ?_) (fun c47 => ?_)
        · refine Tr.iload_n (pc := 59) (i := 2) d_X5_fact_59 rfl rfl ?_
          exact Tr.zret (pc := 60) d_X5_fact_60 rfl (by omega) ⟨hS, _, rfl, by omega, by omega, fun hq => (x42_6_6 (by omega))⟩
        · refine Tr.aload_n (pc := 50) (i := 0) d_X5_fact_50 rfl rfl ?_
          refine Tr.getf (pc := 51) d_X5_fact_51 f_5_32 (by decide) (by decide) (ty_6 hS.1.1) ?_
          refine Tr.tp 15 ((St.kp hS (by decide) (by decide) (by decide)).trans en_6_4) ?_
          refine Tr.iconst (pc := 54) d_X5_fact_54 (by decide) ?_
          refine Tr.iconst (pc := 55) d_X5_fact_55 (by decide) ?_
          refine Tr.callV (pc := 56) (as := [_, _]) d_X5_fact_56 s_5_215 ok_X4_emit rfl rfl (Nat.le_of_ble_eq_true rfl) (Nat.le_of_ble_eq_true rfl) (by decide) (ty_15 hS.1.1) ?_
          refine Tr.imp (Tr.deep (by decide) (sp_X4_emit_15_w7 hS.1.wk 5 (by omega) 0 (by omega) (by omega))) ?_
          rintro M56 _ ⟨h56, rfl⟩
          have hS := St.tr hS h56 (by decide) (by decide)
          refine Tr.sc [] rfl ?_
          refine Tr.iload_n (pc := 59) (i := 2) d_X5_fact_59 rfl rfl ?_
          exact Tr.zret (pc := 60) d_X5_fact_60 rfl (by omega) ⟨hS, _, rfl, by omega, by omega, fun hq => ((St.kp h56 (by decide) (by decide) (by decide)).trans (x42_6_6 (by omega)))⟩
      refine Tr.icmp_ge (pc := 8) (tgt := 41) d_X5_fact_8 rfl (fun c8 => ?_) (fun c8 => ?_)
      · refine Tr.pick [0, 1] (ls2 := [(0, (2, 6)), (1, (0, p4_1))]) rfl ?_
        exact J41 _ hS k4_6_6
      · refine Tr.aload_n (pc := 11) (i := 0) d_X5_fact_11 rfl rfl ?_
        refine Tr.bipush (pc := 12) d_X5_fact_12 rfl (by decide) ?_
        refine Tr.callV (pc := 14) (as := [_]) d_X5_fact_14 s_5_71 ok_X5_isOwn rfl rfl (Nat.le_of_ble_eq_true rfl) (Nat.le_of_ble_eq_true rfl) (by decide) (ty_6 hS.1.1) ?_
        refine Tr.imp (Tr.deep (by decide) (sp_X5_isOwn_6_w4 hS.1 ((St.kp hS (by decide) (by decide) (by decide)).trans en_6_2) 21 (by omega))) ?_
        rintro M14 _ ⟨h14, r14, rfl, lr14, ur14⟩
        have hS := St.tr hS h14 (by decide) (by decide)
        refine Tr.sc [(0, r14)] rfl ?_
        refine Tr.if_eq (pc := 17) (tgt := 41) d_X5_fact_17 rfl (fun c17 => ?_) (fun c17 => ?_)
        · refine Tr.pick [0, 1] (ls2 := [(0, (2, 6)), (1, (0, p4_1))]) rfl ?_
          exact J41 _ hS ((St.kp h14 (by decide) (by decide) (by decide)).trans k4_6_6)
        · refine Tr.aload_n (pc := 20) (i := 0) d_X5_fact_20 rfl rfl ?_
          refine Tr.callV (pc := 21) (as := []) d_X5_fact_21 s_5_74 ok_X5_goOn rfl rfl (Nat.le_of_ble_eq_true rfl) (Nat.le_of_ble_eq_true rfl) (by decide) (ty_6 hS.1.1) ?_
          refine Tr.imp (Tr.deep (by decide) (sp_X5_goOn_6 hS.1 )) ?_
          rintro M21 _ ⟨h21, r21, rfl, lr21, ur21⟩
          have hS := St.tr hS h21 (by decide) (by decide)
          refine Tr.sc [(0, r21)] rfl ?_
          refine Tr.pop (pc := 24) d_X5_fact_24 ne01 ?_
          refine Tr.iload_n (pc := 25) (i := 1) d_X5_fact_25 rfl rfl ?_
          have J34 : ∀ (M : Mem) (q34_0 : Int), St Tru ws_X5_fact_6_w12 as_X5_fact_6_w12 M0 M → (0 ≤ q34_0 ∧ q34_0 ≤ 1) → rd M 6 6 = 3 → Tr l K 27 mX5_fact 34 [(0, (2, 6)), (2, (0, p4_2))] [(0, q34_0)] M (q_X5_fact_6_w12 M0) := by
            intro M q34_0 hS bq34_0 k34_6_6
            refine Tr.istore_n (pc := 34) (i := 1) (ls2 := [(1, (0, q34_0)), (0, (2, 6)), (2, (0, p4_2))]) d_X5_fact_34 rfl (by decide) rfl ?_
            refine Tr.iincV (pc := 35) (n2 := (p4_2 + 1)) (ls2 := [(2, (0, (p4_2 + 1))), (1, (0, q34_0)), (0, (2, 6))]) d_X5_fact_35 rfl (by decide) ((w32_id (by omega)).trans (by omega)) rfl ?_
            refine Tr.goto (pc := 38) (tgt := 4) d_X5_fact_38 rfl ?_
            refine Tr.pick [2, 1, 0] (ls2 := [(0, (2, 6)), (1, (0, q34_0)), (2, (0, (p4_2 + 1)))]) rfl ?_
            exact J4 _ _ _ hS (by omega) (by omega) k34_6_6 (by omega)
          refine Tr.if_ne (pc := 26) (tgt := 33) d_X5_fact_26 rfl (fun c26 => ?_) (fun c26 => ?_)
          · refine Tr.iconst (pc := 33) d_X5_fact_33 (by decide) ?_
            refine Tr.pick [0, 2] (ls2 := [(0, (2, 6)), (2, (0, p4_2))]) rfl ?_
            exact J34 _ _ hS (by omega) ((St.kp h21 (by decide) (by decide) (by decide)).trans ((St.kp h14 (by decide) (by decide) (by decide)).trans k4_6_6))
          · refine Tr.iconst (pc := 29) d_X5_fact_29 (by decide) ?_
            refine Tr.goto (pc := 30) (tgt := 34) d_X5_fact_30 rfl ?_
            refine Tr.pick [0, 2] (ls2 := [(0, (2, 6)), (2, (0, p4_2))]) rfl ?_
            exact J34 _ _ hS (by omega) ((St.kp h21 (by decide) (by decide) (by decide)).trans ((St.kp h14 (by decide) (by decide) (by decide)).trans k4_6_6))
  refine Tr.pick [2, 1, 0] (ls2 := [(0, (2, 6)), (1, (0, 0)), (2, (0, 0))]) rfl ?_
  exact J4 _ _ _ _ hS (by omega) (by omega) en_6_6 (Nat.lt_succ_self _)

def ws_X5_both_6_w12 : List (Int × Int) := [(6, 0), (6, 1), (6, 5), (6, 6), (15, 11)]
def as_X5_both_6_w12 : List Int := [24, 25]
def q_X5_both_6_w12 (M0 M' : Mem) (r : Option PV) : Prop := St Tru ws_X5_both_6_w12 as_X5_both_6_w12 M0 M' ∧ ∃ v : Int, r = some (0, v) ∧ 0 ≤ v ∧ v ≤ 1 ∧ ((1 ≤ v ∧ v ≤ 1) → rd M' 6 6 = 3)
set_option maxRecDepth 100000 in
set_option maxHeartbeats 4000000 in
theorem sp_X5_both_6_w12 {l : Launch} {K : EC} {M0 : Mem} {xq : Int} (hI : In Tru M0) (hE : e_all K xq) (en_6_2 : rd M0 6 2 = 2) (en_6_3 : rd M0 6 3 = 7) (en_6_4 : rd M0 6 4 = 15) (en_6_6 : rd M0 6 6 = 3)   : Tr l K 28 mX5_both 0 [(0, (2, 6))] [] M0 (q_X5_both_6_w12 M0) := by
  have hS : St Tru ws_X5_both_6_w12 as_X5_both_6_w12 M0 M0 := St.rf hI
  refine Tr.aload_n (pc := 0) (i := 0) d_X5_both_0 rfl rfl ?_
  refine Tr.callV (pc := 1) (as := []) d_X5_both_1 s_5_218 ok_X5_fact rfl rfl (Nat.le_of_ble_eq_true rfl) (Nat.le_of_ble_eq_true rfl) (by decide) (ty_6 hS.1.1) ?_
  refine Tr.imp (Tr.deep (by decide) (sp_X5_fact_6_w12 hS.1 hE ((St.kp hS (by decide) (by decide) (by decide)).trans en_6_2) ((St.kp hS (by decide) (by decide) (by decide)).trans en_6_3) ((St.kp hS (by decide) (by decide) (by decide)).trans en_6_4) en_6_6)) ?_
  rintro M1 _ ⟨h1, r1, rfl, lr1, ur1, x1_6_6⟩
  have hS := St.tr hS h1 (by decide) (by decide)
  refine Tr.sc [(0, r1)] rfl ?_
  refine Tr.istore_n (pc := 4) (i := 1) (ls2 := [(1, (0, r1)), (0, (2, 6))]) d_X5_both_4 rfl (by decide) rfl ?_
  refine Tr.iconst (pc := 5) d_X5_both_5 (by decide) ?_
  refine Tr.istore_n (pc := 6) (i := 2) (ls2 := [(2, (0, 0)), (1, (0, r1)), (0, (2, 6))]) d_X5_both_6 rfl (by decide) rfl ?_
  have J7 : ∀ (n7 : Nat) (M : Mem) (p7_1 p7_2 : Int), St Tru ws_X5_both_6_w12 as_X5_both_6_w12 M0 M → (0 ≤ p7_1 ∧ p7_1 ≤ 1) → (0 ≤ p7_2 ∧ p7_2 ≤ 900) → (p7_1 = 1 → rd M 6 6 = 3) → (900 - p7_2).toNat < n7 → Tr l K 28 mX5_both 7 [(0, (2, 6)), (1, (0, p7_1)), (2, (0, p7_2))] [] M (q_X5_both_6_w12 M0) := by
    intro n7
    induction n7 with
    | zero => intro M p7_1 p7_2 hS bp7_1 bp7_2  y7_p7_1_6_60 hm7; exact absurd hm7 (Nat.not_lt_zero _)
    | succ n7 J7 =>
      intro M p7_1 p7_2 hS bp7_1 bp7_2  y7_p7_1_6_60 hm7
      have y7_p7_1_6_6 : 1 ≤ p7_1 ∧ p7_1 ≤ 1 → rd M 6 6 = 3 := fun hq => y7_p7_1_6_60 (by omega)
      refine Tr.iload_n (pc := 7) (i := 2) d_X5_both_7 rfl rfl ?_
      refine Tr.sipush (pc := 8) d_X5_both_8 rfl (by decide) ?_
      refine Tr.icmp_ge (pc := 11) (tgt := 53) d_X5_both_11 rfl (fun c11 => ?_) (fun c11 => ?_)
      · refine Tr.iload_n (pc := 53) (i := 1) d_X5_both_53 rfl rfl ?_
        exact Tr.zret (pc := 54) d_X5_both_54 rfl (by omega) ⟨hS, _, rfl, by omega, by omega, fun hq => (y7_p7_1_6_6 (by omega))⟩
      · refine Tr.iload_n (pc := 14) (i := 1) d_X5_both_14 rfl rfl ?_
        refine Tr.if_eq (pc := 15) (tgt := 53) d_X5_both_15 rfl (fun c15 => ?_) (fun c15 => ?_)
        · refine Tr.iload_n (pc := 53) (i := 1) d_X5_both_53 rfl rfl ?_
          exact Tr.zret (pc := 54) d_X5_both_54 rfl (by omega) ⟨hS, _, rfl, by omega, by omega, fun hq => absurd hq (by omega)⟩
        · refine Tr.aload_n (pc := 18) (i := 0) d_X5_both_18 rfl rfl ?_
          refine Tr.bipush (pc := 19) d_X5_both_19 rfl (by decide) ?_
          refine Tr.callV (pc := 21) (as := [_]) d_X5_both_21 s_5_71 ok_X5_isOwn rfl rfl (Nat.le_of_ble_eq_true rfl) (Nat.le_of_ble_eq_true rfl) (by decide) (ty_6 hS.1.1) ?_
          refine Tr.imp (Tr.deep (by decide) (sp_X5_isOwn_6_w3 hS.1 ((St.kp hS (by decide) (by decide) (by decide)).trans en_6_2) 20 (by omega))) ?_
          rintro M21 _ ⟨h21, r21, rfl, lr21, ur21⟩
          have hS := St.tr hS h21 (by decide) (by decide)
          refine Tr.sc [(0, r21)] rfl ?_
          refine Tr.if_eq (pc := 24) (tgt := 53) d_X5_both_24 rfl (fun c24 => ?_) (fun c24 => ?_)
          · refine Tr.iload_n (pc := 53) (i := 1) d_X5_both_53 rfl rfl ?_
            exact Tr.zret (pc := 54) d_X5_both_54 rfl (by omega) ⟨hS, _, rfl, by omega, by omega, fun _ => ((St.kp h21 (by decide) (by decide) (by decide)).trans (y7_p7_1_6_6 (by omega)))⟩
          · refine Tr.aload_n (pc := 27) (i := 0) d_X5_both_27 rfl rfl ?_
            refine Tr.callV (pc := 28) (as := []) d_X5_both_28 s_5_74 ok_X5_goOn rfl rfl (Nat.le_of_ble_eq_true rfl) (Nat.le_of_ble_eq_true rfl) (by decide) (ty_6 hS.1.1) ?_
            refine Tr.imp (Tr.deep (by decide) (sp_X5_goOn_6 hS.1 )) ?_
            rintro M28 _ ⟨h28, r28, rfl, lr28, ur28⟩
            have hS := St.tr hS h28 (by decide) (by decide)
            refine Tr.sc [(0, r28)] rfl ?_
            refine Tr.pop (pc := 31) d_X5_both_31 ne01 ?_
            refine Tr.aload_n (pc := 32) (i := 0) d_X5_both_32 rfl rfl ?_
            refine Tr.callV (pc := 33) (as := []) d_X5_both_33 s_5_218 ok_X5_fact rfl rfl (Nat.le_of_ble_eq_true rfl) (Nat.le_of_ble_eq_true rfl) (by decide) (ty_6 hS.1.1) ?_
            refine Tr.imp (Tr.deep (by decide) (sp_X5_fact_6_w12 hS.1 hE ((St.kp hS (by decide) (by decide) (by decide)).trans en_6_2) ((St.kp hS (by decide) (by decide) (by decide)).trans en_6_3) ((St.kp hS (by decide) (by decide) (by decide)).trans en_6_4) ((St.kp h28 (by decide) (by decide) (by decide)).trans ((St.kp h21 (by decide) (by decide) (by decide)).trans (y7_p7_1_6_6 (by omega)))))) ?_
            rintro M33 _ ⟨h33, r33, rfl, lr33, ur33, x33_6_6⟩
            have hS := St.tr hS h33 (by decide) (by decide)
            refine Tr.sc [(0, r33)] rfl ?_
            refine Tr.istore_n (pc := 36) (i := 1) (ls2 := [(1, (0, r33)), (0, (2, 6)), (2, (0, p7_2))]) d_X5_both_36 rfl (by decide) rfl ?_
            refine Tr.aload_n (pc := 37) (i := 0) d_X5_both_37 rfl rfl ?_
            refine Tr.getf (pc := 38) d_X5_both_38 f_5_32 (by decide) (by decide) (ty_6 hS.1.1) ?_
            refine Tr.tp 15 ((St.kp hS (by decide) (by decide) (by decide)).trans en_6_4) ?_
            refine Tr.bipush (pc := 41) d_X5_both_41 rfl (by decide) ?_
            refine Tr.iconst (pc := 43) d_X5_both_43 (by decide) ?_
            refine Tr.callV (pc := 44) (as := [_, _]) d_X5_both_44 s_5_215 ok_X4_emit rfl rfl (Nat.le_of_ble_eq_true rfl) (Nat.le_of_ble_eq_true rfl) (by decide) (ty_15 hS.1.1) ?_
            refine Tr.imp (Tr.deep (by decide) (sp_X4_emit_15_w9 hS.1.wk 16 (by omega) 0 (by omega) (by omega))) ?_
            rintro M44 _ ⟨h44, rfl⟩
            have hS := St.tr hS h44 (by decide) (by decide)
            refine Tr.sc [] rfl ?_
            refine Tr.iincV (pc := 47) (n2 := (p7_2 + 1)) (ls2 := [(2, (0, (p7_2 + 1))), (1, (0, r33)), (0, (2, 6))]) d_X5_both_47 rfl (by decide) ((w32_id (by omega)).trans (by omega)) rfl ?_
            refine Tr.goto (pc := 50) (tgt := 7) d_X5_both_50 rfl ?_
            refine Tr.pick [2, 1, 0] (ls2 := [(0, (2, 6)), (1, (0, r33)), (2, (0, (p7_2 + 1)))]) rfl ?_
            exact J7 _ _ _ hS (by omega) (by omega) (fun hq => ((St.kp h44 (by decide) (by decide) (by decide)).trans (x33_6_6 (by omega)))) (by omega)
  refine Tr.pick [2, 1, 0] (ls2 := [(0, (2, 6)), (1, (0, r1)), (2, (0, 0))]) rfl ?_
  exact J7 _ _ _ _ hS (by omega) (by omega) (fun hq => (x1_6_6 (by omega))) (Nat.lt_succ_self _)

def ws_X5_test_6_w12 : List (Int × Int) := [(6, 0), (6, 1), (6, 5), (6, 6), (15, 11)]
def as_X5_test_6_w12 : List Int := [24, 25]
def q_X5_test_6_w12 (M0 M' : Mem) (r : Option PV) : Prop := St Tru ws_X5_test_6_w12 as_X5_test_6_w12 M0 M' ∧ ∃ v : Int, r = some (0, v) ∧ 0 ≤ v ∧ v ≤ 1 ∧ ((1 ≤ v ∧ v ≤ 1) → rd M' 6 6 = 3)
set_option maxRecDepth 100000 in
set_option maxHeartbeats 4000000 in
theorem sp_X5_test_6_w12 {l : Launch} {K : EC} {M0 : Mem} {xq : Int} (hI : In Tru M0) (hE : e_all K xq) (en_6_2 : rd M0 6 2 = 2) (en_6_3 : rd M0 6 3 = 7) (en_6_4 : rd M0 6 4 = 15) (en_6_6 : rd M0 6 6 = 3)   : Tr l K 29 mX5_test 0 [(0, (2, 6))] [] M0 (q_X5_test_6_w12 M0) := by
  have hS : St Tru ws_X5_test_6_w12 as_X5_test_6_w12 M0 M0 := St.rf hI
  refine Tr.aload_n (pc := 0) (i := 0) d_X5_test_0 rfl rfl ?_
  refine Tr.callV (pc := 1) (as := []) d_X5_test_1 s_5_212 ok_X5_both rfl rfl (Nat.le_of_ble_eq_true rfl) (Nat.le_of_ble_eq_true rfl) (by decide) (ty_6 hS.1.1) ?_
  refine Tr.imp (Tr.deep (by decide) (sp_X5_both_6_w12 hS.1 hE ((St.kp hS (by decide) (by decide) (by decide)).trans en_6_2) ((St.kp hS (by decide) (by decide) (by decide)).trans en_6_3) ((St.kp hS (by decide) (by decide) (by decide)).trans en_6_4) en_6_6)) ?_
  rintro M1 _ ⟨h1, r1, rfl, lr1, ur1, x1_6_6⟩
  have hS := St.tr hS h1 (by decide) (by decide)
  refine Tr.sc [(0, r1)] rfl ?_
  refine Tr.istore_n (pc := 4) (i := 1) (ls2 := [(1, (0, r1)), (0, (2, 6))]) d_X5_test_4 rfl (by decide) rfl ?_
  refine Tr.iconst (pc := 5) d_X5_test_5 (by decide) ?_
  refine Tr.istore_n (pc := 6) (i := 2) (ls2 := [(2, (0, 0)), (1, (0, r1)), (0, (2, 6))]) d_X5_test_6 rfl (by decide) rfl ?_
  have J7 : ∀ (n7 : Nat) (M : Mem) (p7_1 p7_2 : Int), St Tru ws_X5_test_6_w12 as_X5_test_6_w12 M0 M → (0 ≤ p7_1 ∧ p7_1 ≤ 1) → (0 ≤ p7_2 ∧ p7_2 ≤ 900) → (p7_1 = 1 → rd M 6 6 = 3) → (900 - p7_2).toNat < n7 → Tr l K 29 mX5_test 7 [(0, (2, 6)), (1, (0, p7_1)), (2, (0, p7_2))] [] M (q_X5_test_6_w12 M0) := by
    intro n7
    induction n7 with
    | zero => intro M p7_1 p7_2 hS bp7_1 bp7_2  y7_p7_1_6_60 hm7; exact absurd hm7 (Nat.not_lt_zero _)
    | succ n7 J7 =>
      intro M p7_1 p7_2 hS bp7_1 bp7_2  y7_p7_1_6_60 hm7
      have y7_p7_1_6_6 : 1 ≤ p7_1 ∧ p7_1 ≤ 1 → rd M 6 6 = 3 := fun hq => y7_p7_1_6_60 (by omega)
      refine Tr.iload_n (pc := 7) (i := 2) d_X5_test_7 rfl rfl ?_
      refine Tr.sipush (pc := 8) d_X5_test_8 rfl (by decide) ?_
      refine Tr.icmp_ge (pc := 11) (tgt := 53) d_X5_test_11 rfl (fun c11 => ?_) (fun c11 => ?_)
      · refine Tr.iload_n (pc := 53) (i := 1) d_X5_test_53 rfl rfl ?_
        exact Tr.zret (pc := 54) d_X5_test_54 rfl (by omega) ⟨hS, _, rfl, by omega, by omega, fun hq => (y7_p7_1_6_6 (by omega))⟩
      · refine Tr.iload_n (pc := 14) (i := 1) d_X5_test_14 rfl rfl ?_
        refine Tr.if_eq (pc := 15) (tgt := 53) d_X5_test_15 rfl (fun c15 => ?_) (fun c15 => ?_)
        · refine Tr.iload_n (pc := 53) (i := 1) d_X5_test_53 rfl rfl ?_
          exact Tr.zret (pc := 54) d_X5_test_54 rfl (by omega) ⟨hS, _, rfl, by omega, by omega, fun hq => absurd hq (by omega)⟩
        · refine Tr.aload_n (pc := 18) (i := 0) d_X5_test_18 rfl rfl ?_
          refine Tr.bipush (pc := 19) d_X5_test_19 rfl (by decide) ?_
          refine Tr.callV (pc := 21) (as := [_]) d_X5_test_21 s_5_71 ok_X5_isOwn rfl rfl (Nat.le_of_ble_eq_true rfl) (Nat.le_of_ble_eq_true rfl) (by decide) (ty_6 hS.1.1) ?_
          refine Tr.imp (Tr.deep (by decide) (sp_X5_isOwn_6_w3 hS.1 ((St.kp hS (by decide) (by decide) (by decide)).trans en_6_2) 19 (by omega))) ?_
          rintro M21 _ ⟨h21, r21, rfl, lr21, ur21⟩
          have hS := St.tr hS h21 (by decide) (by decide)
          refine Tr.sc [(0, r21)] rfl ?_
          refine Tr.if_eq (pc := 24) (tgt := 53) d_X5_test_24 rfl (fun c24 => ?_) (fun c24 => ?_)
          · refine Tr.iload_n (pc := 53) (i := 1) d_X5_test_53 rfl rfl ?_
            exact Tr.zret (pc := 54) d_X5_test_54 rfl (by omega) ⟨hS, _, rfl, by omega, by omega, fun _ => ((St.kp h21 (by decide) (by decide) (by decide)).trans (y7_p7_1_6_6 (by omega)))⟩
          · refine Tr.aload_n (pc := 27) (i := 0) d_X5_test_27 rfl rfl ?_
            refine Tr.callV (pc := 28) (as := []) d_X5_test_28 s_5_74 ok_X5_goOn rfl rfl (Nat.le_of_ble_eq_true rfl) (Nat.le_of_ble_eq_true rfl) (by decide) (ty_6 hS.1.1) ?_
            refine Tr.imp (Tr.deep (by decide) (sp_X5_goOn_6 hS.1 )) ?_
            rintro M28 _ ⟨h28, r28, rfl, lr28, ur28⟩
            have hS := St.tr hS h28 (by decide) (by decide)
            refine Tr.sc [(0, r28)] rfl ?_
            refine Tr.pop (pc := 31) d_X5_test_31 ne01 ?_
            refine Tr.aload_n (pc := 32) (i := 0) d_X5_test_32 rfl rfl ?_
            refine Tr.callV (pc := 33) (as := []) d_X5_test_33 s_5_212 ok_X5_both rfl rfl (Nat.le_of_ble_eq_true rfl) (Nat.le_of_ble_eq_true rfl) (by decide) (ty_6 hS.1.1) ?_
            refine Tr.imp (Tr.deep (by decide) (sp_X5_both_6_w12 hS.1 hE ((St.kp hS (by decide) (by decide) (by decide)).trans en_6_2) ((St.kp hS (by decide) (by decide) (by decide)).trans en_6_3) ((St.kp hS (by decide) (by decide) (by decide)).trans en_6_4) ((St.kp h28 (by decide) (by decide) (by decide)).trans ((St.kp h21 (by decide) (by decide) (by decide)).trans (y7_p7_1_6_6 (by omega)))))) ?_
            rintro M33 _ ⟨h33, r33, rfl, lr33, ur33, x33_6_6⟩
            have hS := St.tr hS h33 (by decide) (by decide)
            refine Tr.sc [(0, r33)] rfl ?_
            refine Tr.istore_n (pc := 36) (i := 1) (ls2 := [(1, (0, r33)), (0, (2, 6)), (2, (0, p7_2))]) d_X5_test_36 rfl (by decide) rfl ?_
            refine Tr.aload_n (pc := 37) (i := 0) d_X5_test_37 rfl rfl ?_
            refine Tr.getf (pc := 38) d_X5_test_38 f_5_32 (by decide) (by decide) (ty_6 hS.1.1) ?_
            refine Tr.tp 15 ((St.kp hS (by decide) (by decide) (by decide)).trans en_6_4) ?_
            refine Tr.bipush (pc := 41) d_X5_test_41 rfl (by decide) ?_
            refine Tr.iconst (pc := 43) d_X5_test_43 (by decide) ?_
            refine Tr.callV (pc := 44) (as := [_, _]) d_X5_test_44 s_5_215 ok_X4_emit rfl rfl (Nat.le_of_ble_eq_true rfl) (Nat.le_of_ble_eq_true rfl) (by decide) (ty_15 hS.1.1) ?_
            refine Tr.imp (Tr.deep (by decide) (sp_X4_emit_15_w10 hS.1.wk 17 (by omega) 0 (by omega) (by omega))) ?_
            rintro M44 _ ⟨h44, rfl⟩
            have hS := St.tr hS h44 (by decide) (by decide)
            refine Tr.sc [] rfl ?_
            refine Tr.iincV (pc := 47) (n2 := (p7_2 + 1)) (ls2 := [(2, (0, (p7_2 + 1))), (1, (0, r33)), (0, (2, 6))]) d_X5_test_47 rfl (by decide) ((w32_id (by omega)).trans (by omega)) rfl ?_
            refine Tr.goto (pc := 50) (tgt := 7) d_X5_test_50 rfl ?_
            refine Tr.pick [2, 1, 0] (ls2 := [(0, (2, 6)), (1, (0, r33)), (2, (0, (p7_2 + 1)))]) rfl ?_
            exact J7 _ _ _ hS (by omega) (by omega) (fun hq => ((St.kp h44 (by decide) (by decide) (by decide)).trans (x33_6_6 (by omega)))) (by omega)
  refine Tr.pick [2, 1, 0] (ls2 := [(0, (2, 6)), (1, (0, r1)), (2, (0, 0))]) rfl ?_
  exact J7 _ _ _ _ hS (by omega) (by omega) (fun hq => (x1_6_6 (by omega))) (Nat.lt_succ_self _)

def ws_X5_plainFact_6_w11 : List (Int × Int) := [(6, 0), (6, 1), (6, 5), (6, 6), (15, 11)]
def as_X5_plainFact_6_w11 : List Int := [24, 25]
def q_X5_plainFact_6_w11 (M0 M' : Mem) (r : Option PV) : Prop := St Tru ws_X5_plainFact_6_w11 as_X5_plainFact_6_w11 M0 M' ∧ ∃ v : Int, r = some (0, v) ∧ 0 ≤ v ∧ v ≤ 1 ∧ ((1 ≤ v ∧ v ≤ 1) → rd M' 6 6 = 2)
set_option maxRecDepth 100000 in
set_option maxHeartbeats 4000000 in
theorem sp_X5_plainFact_6_w11 {l : Launch} {K : EC} {M0 : Mem} {xq : Int} (hI : In Tru M0) (hE : e_all K xq) (en_6_2 : rd M0 6 2 = 2) (en_6_3 : rd M0 6 3 = 7) (en_6_4 : rd M0 6 4 = 15) (en_6_6 : rd M0 6 6 = 2)   : Tr l K 30 mX5_plainFact 0 [(0, (2, 6))] [] M0 (q_X5_plainFact_6_w11 M0) := by
  have hS : St Tru ws_X5_plainFact_6_w11 as_X5_plainFact_6_w11 M0 M0 := St.rf hI
  refine Tr.aload_n (pc := 0) (i := 0) d_X5_plainFact_0 rfl rfl ?_
  refine Tr.bipush (pc := 1) d_X5_plainFact_1 rfl (by decide) ?_
  refine Tr.callV (pc := 3) (as := [_]) d_X5_plainFact_3 s_5_77 ok_X5_isSign rfl rfl (Nat.le_of_ble_eq_true rfl) (Nat.le_of_ble_eq_true rfl) (by decide) (ty_6 hS.1.1) ?_
  refine Tr.imp (Tr.deep (by decide) (sp_X5_isSign_6_w1 hS.1 ((St.kp hS (by decide) (by decide) (by decide)).trans en_6_2) 91 (by omega))) ?_
  rintro M3 _ ⟨h3, r3, rfl, lr3, ur3⟩
  have hS := St.tr hS h3 (by decide) (by decide)
  refine Tr.sc [(0, r3)] rfl ?_
  refine Tr.if_eq (pc := 6) (tgt := 40) d_X5_plainFact_6 rfl (fun c6 => ?_) (fun c6 => ?_)
  · refine Tr.aload_n (pc := 40) (i := 0) d_X5_plainFact_40 rfl rfl ?_
    refine Tr.bipush (pc := 41) d_X5_plainFact_41 rfl (by decide) ?_
    refine Tr.callV (pc := 43) (as := [_]) d_X5_plainFact_43 s_5_71 ok_X5_isOwn rfl rfl (Nat.le_of_ble_eq_true rfl) (Nat.le_of_ble_eq_true rfl) (by decide) (ty_6 hS.1.1) ?_
    refine Tr.imp (Tr.deep (by decide) (sp_X5_isOwn_6_w4 hS.1 ((St.kp hS (by decide) (by decide) (by decide)).trans en_6_2) 22 (by omega))) ?_
    rintro M43 _ ⟨h43, r43, rfl, lr43, ur43⟩
    have hS := St.tr hS h43 (by decide) (by decide)
    refine Tr.sc [(0, r43)] rfl ?_
    refine Tr.if_eq (pc := 46) (tgt := 63) d_X5_plainFact_46 rfl (fun c46 => ?_) (fun c46 => ?_)
    · refine Tr.aload_n (pc := 63) (i := 0) d_X5_plainFact_63 rfl rfl ?_
      refine Tr.bipush (pc := 64) d_X5_plainFact_64 rfl (by decide) ?_
      refine Tr.callV (pc := 66) (as := [_]) d_X5_plainFact_66 s_5_71 ok_X5_isOwn rfl rfl (Nat.le_of_ble_eq_true rfl) (Nat.le_of_ble_eq_true rfl) (by decide) (ty_6 hS.1.1) ?_
      refine Tr.imp (Tr.deep (by decide) (sp_X5_isOwn_6_w4 hS.1 ((St.kp hS (by decide) (by decide) (by decide)).trans en_6_2) 23 (by omega))) ?_
      rintro M66 _ ⟨h66, r66, rfl, lr66, ur66⟩
      have hS := St.tr hS h66 (by decide) (by decide)
      refine Tr.sc [(0, r66)] rfl ?_
      refine Tr.if_eq (pc := 69) (tgt := 106) d_X5_plainFact_69 rfl (fun c69 => ?_) (fun c69 => ?_)
      · refine Tr.aload_n (pc := 106) (i := 0) d_X5_plainFact_106 rfl rfl ?_
        refine Tr.callV (pc := 107) (as := []) d_X5_plainFact_107 s_5_174 ok_X5_sum rfl rfl (Nat.le_of_ble_eq_true rfl) (Nat.le_of_ble_eq_true rfl) (by decide) (ty_6 hS.1.1) ?_
        refine Tr.imp (Tr.deep (by decide) (sp_X5_sum_6_w11 hS.1 hE ((St.kp hS (by decide) (by decide) (by decide)).trans en_6_2) ((St.kp hS (by decide) (by decide) (by decide)).trans en_6_3) ((St.kp hS (by decide) (by decide) (by decide)).trans en_6_4) ((St.kp h66 (by decide) (by decide) (by decide)).trans ((St.kp h43 (by decide) (by decide) (by decide)).trans ((St.kp h3 (by decide) (by decide) (by decide)).trans en_6_6))))) ?_
        rintro M107 _ ⟨h107, r107, rfl, lr107, ur107, x107_6_6⟩
        have hS := St.tr hS h107 (by decide) (by decide)
        refine Tr.sc [(0, r107)] rfl ?_
        refine Tr.if_ne (pc := 110) (tgt := 115) d_X5_plainFact_110 rfl (fun c110 => ?_) (fun c110 => ?_)
        · refine Tr.aload_n (pc := 115) (i := 0) d_X5_plainFact_115 rfl rfl ?_
          refine Tr.bipush (pc := 116) d_X5_plainFact_116 rfl (by decide) ?_
          refine Tr.callV (pc := 118) (as := [_]) d_X5_plainFact_118 s_5_77 ok_X5_isSign rfl rfl (Nat.le_of_ble_eq_true rfl) (Nat.le_of_ble_eq_true rfl) (by decide) (ty_6 hS.1.1) ?_
          refine Tr.imp (Tr.deep (by decide) (sp_X5_isSign_6_w3 hS.1 ((St.kp hS (by decide) (by decide) (by decide)).trans en_6_2) 60 (by omega))) ?_
          rintro M118 _ ⟨h118, r118, rfl, lr118, ur118⟩
          have hS := St.tr hS h118 (by decide) (by decide)
          refine Tr.sc [(0, r118)] rfl ?_
          have J158 : ∀ (M : Mem) (q158_0 : Int), St Tru ws_X5_plainFact_6_w11 as_X5_plainFact_6_w11 M0 M → ((-1) ≤ q158_0 ∧ q158_0 ≤ 15) → rd M 6 6 = 2 → Tr l K 30 mX5_plainFact 158 [(0, (2, 6))] [(0, q158_0)] M (q_X5_plainFact_6_w11 M0) := by
            intro M q158_0 hS bq158_0 k158_6_6
            refine Tr.istore_n (pc := 158) (i := 1) (ls2 := [(1, (0, q158_0)), (0, (2, 6))]) d_X5_plainFact_158 rfl (by decide) rfl ?_
            refine Tr.iload_n (pc := 159) (i := 1) d_X5_plainFact_159 rfl rfl ?_
            refine Tr.if_ge (pc := 160) (tgt := 169) d_X5_plainFact_160 rfl (fun c160 => ?_) (fun c160 => ?_)
            · refine Tr.aload_n (pc := 169) (i := 0) d_X5_plainFact_169 rfl rfl ?_
              refine Tr.callV (pc := 170) (as := []) d_X5_plainFact_170 s_5_74 ok_X5_goOn rfl rfl (Nat.le_of_ble_eq_true rfl) (Nat.le_of_ble_eq_true rfl) (by decide) (ty_6 hS.1.1) ?_
              refine Tr.imp (Tr.deep (by decide) (sp_X5_goOn_6 hS.1 )) ?_
              rintro M170 _ ⟨h170, r170, rfl, lr170, ur170⟩
              have hS := St.tr hS h170 (by decide) (by decide)
              refine Tr.sc [(0, r170)] rfl ?_
              refine Tr.pop (pc := 173) d_X5_plainFact_173 ne01 ?_
              refine Tr.aload_n (pc := 174) (i := 0) d_X5_plainFact_174 rfl rfl ?_
              refine Tr.callV (pc := 175) (as := []) d_X5_plainFact_175 s_5_174 ok_X5_sum rfl rfl (Nat.le_of_ble_eq_true rfl) (Nat.le_of_ble_eq_true rfl) (by decide) (ty_6 hS.1.1) ?_
              refine Tr.imp (Tr.deep (by decide) (sp_X5_sum_6_w11 hS.1 hE ((St.kp hS (by decide) (by decide) (by decide)).trans en_6_2) ((St.kp hS (by decide) (by decide) (by decide)).trans en_6_3) ((St.kp hS (by decide) (by decide) (by decide)).trans en_6_4) ((St.kp h170 (by decide) (by decide) (by decide)).trans k158_6_6))) ?_
              rintro M175 _ ⟨h175, r175, rfl, lr175, ur175, x175_6_6⟩
              have hS := St.tr hS h175 (by decide) (by decide)
              refine Tr.sc [(0, r175)] rfl ?_
              refine Tr.istore_n (pc := 178) (i := 2) (ls2 := [(2, (0, r175)), (1, (0, q158_0)), (0, (2, 6))]) d_X5_plainFact_178 rfl (by decide) rfl ?_
              refine Tr.aload_n (pc := 179) (i := 0) d_X5_plainFact_179 rfl rfl ?_
              refine Tr.getf (pc := 180) d_X5_plainFact_180 f_5_32 (by decide) (by decide) (ty_6 hS.1.1) ?_
              refine Tr.tp 15 ((St.kp hS (by decide) (by decide) (by decide)).trans en_6_4) ?_
              refine Tr.iload_n (pc := 183) (i := 1) d_X5_plainFact_183 rfl rfl ?_
              refine Tr.iconst (pc := 184) d_X5_plainFact_184 (by decide) ?_
              refine Tr.callV (pc := 185) (as := [_, _]) d_X5_plainFact_185 s_5_215 ok_X4_emit rfl rfl (Nat.le_of_ble_eq_true rfl) (Nat.le_of_ble_eq_true rfl) (by decide) (ty_15 hS.1.1) ?_
              refine Tr.imp (Tr.deep (by decide) (sp_X4_emit_15_w8 hS.1.wk q158_0 (by omega) 0 (by omega) (by omega))) ?_
              rintro M185 _ ⟨h185, rfl⟩
              have hS := St.tr hS h185 (by decide) (by decide)
              refine Tr.sc [] rfl ?_
              refine Tr.iload_n (pc := 188) (i := 2) d_X5_plainFact_188 rfl rfl ?_
              exact Tr.zret (pc := 189) d_X5_plainFact_189 rfl (by omega) ⟨hS, _, rfl, by omega, by omega, fun hq => ((St.kp h185 (by decide) (by decide) (by decide)).trans (x175_6_6 (by omega)))⟩
            · refine Tr.aload_n (pc := 163) (i := 0) d_X5_plainFact_163 rfl rfl ?_
              refine Tr.iconst (pc := 164) d_X5_plainFact_164 (by decide) ?_
              refine Tr.callV (pc := 165) (as := [_]) d_X5_plainFact_165 s_5_56 ok_X5_refuse rfl rfl (Nat.le_of_ble_eq_true rfl) (Nat.le_of_ble_eq_true rfl) (by decide) (ty_6 hS.1.1) ?_
              refine Tr.imp (Tr.deep (by decide) (sp_X5_refuse_6_w1 hS.1 ((St.kp hS (by decide) (by decide) (by decide)).trans en_6_2) 1 (by omega))) ?_
              rintro M165 _ ⟨h165, r165, rfl, lr165, ur165⟩
              have hS := St.tr hS h165 (by decide) (by decide)
              refine Tr.sc [(0, r165)] rfl ?_
              exact Tr.zret (pc := 168) d_X5_plainFact_168 rfl (by omega) ⟨hS, _, rfl, by omega, by omega, fun hq => absurd hq (by omega)⟩
          refine Tr.if_eq (pc := 121) (tgt := 129) d_X5_plainFact_121 rfl (fun c121 => ?_) (fun c121 => ?_)
          · refine Tr.aload_n (pc := 129) (i := 0) d_X5_plainFact_129 rfl rfl ?_
            refine Tr.bipush (pc := 130) d_X5_plainFact_130 rfl (by decide) ?_
            refine Tr.callV (pc := 132) (as := [_]) d_X5_plainFact_132 s_5_77 ok_X5_isSign rfl rfl (Nat.le_of_ble_eq_true rfl) (Nat.le_of_ble_eq_true rfl) (by decide) (ty_6 hS.1.1) ?_
            refine Tr.imp (Tr.deep (by decide) (sp_X5_isSign_6_w4 hS.1 ((St.kp hS (by decide) (by decide) (by decide)).trans en_6_2) 62 (by omega))) ?_
            rintro M132 _ ⟨h132, r132, rfl, lr132, ur132⟩
            have hS := St.tr hS h132 (by decide) (by decide)
            refine Tr.sc [(0, r132)] rfl ?_
            refine Tr.if_eq (pc := 135) (tgt := 143) d_X5_plainFact_135 rfl (fun c135 => ?_) (fun c135 => ?_)
            · refine Tr.aload_n (pc := 143) (i := 0) d_X5_plainFact_143 rfl rfl ?_
              refine Tr.bipush (pc := 144) d_X5_plainFact_144 rfl (by decide) ?_
              refine Tr.callV (pc := 146) (as := [_]) d_X5_plainFact_146 s_5_77 ok_X5_isSign rfl rfl (Nat.le_of_ble_eq_true rfl) (Nat.le_of_ble_eq_true rfl) (by decide) (ty_6 hS.1.1) ?_
              refine Tr.imp (Tr.deep (by decide) (sp_X5_isSign_6_w4 hS.1 ((St.kp hS (by decide) (by decide) (by decide)).trans en_6_2) 61 (by omega))) ?_
              rintro M146 _ ⟨h146, r146, rfl, lr146, ur146⟩
              have hS := St.tr hS h146 (by decide) (by decide)
              refine Tr.sc [(0, r146)] rfl ?_
              refine Tr.if_eq (pc := 149) (tgt := 157) d_X5_plainFact_149 rfl (fun c149 => ?_) (fun c149 => ?_)
              · refine Tr.iconst (pc := 157) d_X5_plainFact_157 (by decide) ?_
                refine Tr.pick [0] (ls2 := [(0, (2, 6))]) rfl ?_
                exact J158 _ _ hS (by omega) ((St.kp h146 (by decide) (by decide) (by decide)).trans ((St.kp h132 (by decide) (by decide) (by decide)).trans ((St.kp h118 (by decide) (by decide) (by decide)).trans (x107_6_6 (by omega)))))
              · refine Tr.bipush (pc := 152) d_X5_plainFact_152 rfl (by decide) ?_
                refine Tr.goto (pc := 154) (tgt := 158) d_X5_plainFact_154 rfl ?_
                refine Tr.pick [0] (ls2 := [(0, (2, 6))]) rfl ?_
                exact J158 _ _ hS (by omega) ((St.kp h146 (by decide) (by decide) (by decide)).trans ((St.kp h132 (by decide) (by decide) (by decide)).trans ((St.kp h118 (by decide) (by decide) (by decide)).trans (x107_6_6 (by omega)))))
            · refine Tr.bipush (pc := 138) d_X5_plainFact_138 rfl (by decide) ?_
              refine Tr.goto (pc := 140) (tgt := 158) d_X5_plainFact_140 rfl ?_
              refine Tr.pick [0] (ls2 := [(0, (2, 6))]) rfl ?_
              exact J158 _ _ hS (by omega) ((St.kp h132 (by decide) (by decide) (by decide)).trans ((St.kp h118 (by decide) (by decide) (by decide)).trans (x107_6_6 (by omega))))
          · refine Tr.bipush (pc := 124) d_X5_plainFact_124 rfl (by decide) ?_
            refine Tr.goto (pc := 126) (tgt := 158) d_X5_plainFact_126 rfl ?_
            refine Tr.pick [0] (ls2 := [(0, (2, 6))]) rfl ?_
            exact J158 _ _ hS (by omega) ((St.kp h118 (by decide) (by decide) (by decide)).trans (x107_6_6 (by omega)))
        · refine Tr.iconst (pc := 113) d_X5_plainFact_113 (by decide) ?_
          exact Tr.zret (pc := 114) d_X5_plainFact_114 rfl (by omega) ⟨hS, _, rfl, by omega, by omega, fun hq => absurd hq (by omega)⟩
      · refine Tr.aload_n (pc := 72) (i := 0) d_X5_plainFact_72 rfl rfl ?_
        refine Tr.callV (pc := 73) (as := []) d_X5_plainFact_73 s_5_74 ok_X5_goOn rfl rfl (Nat.le_of_ble_eq_true rfl) (Nat.le_of_ble_eq_true rfl) (by decide) (ty_6 hS.1.1) ?_
        refine Tr.imp (Tr.deep (by decide) (sp_X5_goOn_6 hS.1 )) ?_
        rintro M73 _ ⟨h73, r73, rfl, lr73, ur73⟩
        have hS := St.tr hS h73 (by decide) (by decide)
        refine Tr.sc [(0, r73)] rfl ?_
        refine Tr.pop (pc := 76) d_X5_plainFact_76 ne01 ?_
        refine Tr.aload_n (pc := 77) (i := 0) d_X5_plainFact_77 rfl rfl ?_
        refine Tr.iconst (pc := 78) d_X5_plainFact_78 (by decide) ?_
        refine Tr.callV (pc := 79) (as := [_]) d_X5_plainFact_79 s_5_186 ok_X5_takeName rfl rfl (Nat.le_of_ble_eq_true rfl) (Nat.le_of_ble_eq_true rfl) (by decide) (ty_6 hS.1.1) ?_
        refine Tr.imp (Tr.deep (by decide) (sp_X5_takeName_6_v0_w1 hS.1 hE ((St.kp hS (by decide) (by decide) (by decide)).trans en_6_2) ((St.kp hS (by decide) (by decide) (by decide)).trans en_6_3))) ?_
        rintro M79 _ ⟨h79, r79, rfl, lr79, ur79⟩
        have hS := St.tr hS h79 (by decide) (by decide)
        refine Tr.sc [(0, r79)] rfl ?_
        refine Tr.istore_n (pc := 82) (i := 1) (ls2 := [(1, (0, r79)), (0, (2, 6))]) d_X5_plainFact_82 rfl (by decide) rfl ?_
        refine Tr.aload_n (pc := 83) (i := 0) d_X5_plainFact_83 rfl rfl ?_
        refine Tr.getf (pc := 84) d_X5_plainFact_84 f_5_32 (by decide) (by decide) (ty_6 hS.1.1) ?_
        refine Tr.tp 15 ((St.kp hS (by decide) (by decide) (by decide)).trans en_6_4) ?_
        refine Tr.iconst (pc := 87) d_X5_plainFact_87 (by decide) ?_
        refine Tr.iload_n (pc := 88) (i := 1) d_X5_plainFact_88 rfl rfl ?_
        refine Tr.iconst (pc := 89) d_X5_plainFact_89 (by decide) ?_
        refine Tr.mmax (pc := 90) d_X5_plainFact_90 ml_5_192 mw_mmax (Nat.le_of_ble_eq_true rfl) ?_
        refine Tr.gen (P := fun v => (v = r79 ∧ 0 ≤ r79) ∨ (v = 0 ∧ r79 ≤ 0)) (f_max_p _ _) (fun r90 er90 br90 => ?_)
        refine Tr.callV (pc := 93) (as := [_, _]) d_X5_plainFact_93 s_5_215 ok_X4_emit rfl rfl (Nat.le_of_ble_eq_true rfl) (Nat.le_of_ble_eq_true rfl) (by decide) (ty_15 hS.1.1) ?_
        refine Tr.imp (Tr.deep (by decide) (sp_X4_emit_15_w7 hS.1.wk 4 (by omega) r90 (by omega) (by omega))) ?_
        rintro M93 _ ⟨h93, rfl⟩
        have hS := St.tr hS h93 (by decide) (by decide)
        refine Tr.sc [] rfl ?_
        refine Tr.iload_n (pc := 96) (i := 1) d_X5_plainFact_96 rfl rfl ?_
        refine Tr.if_lt (pc := 97) (tgt := 104) d_X5_plainFact_97 rfl (fun c97 => ?_) (fun c97 => ?_)
        · refine Tr.iconst (pc := 104) d_X5_plainFact_104 (by decide) ?_
          exact Tr.zret (pc := 105) d_X5_plainFact_105 rfl (by omega) ⟨hS, _, rfl, by omega, by omega, fun hq => absurd hq (by omega)⟩
        · refine Tr.iconst (pc := 100) d_X5_plainFact_100 (by decide) ?_
          refine Tr.goto (pc := 101) (tgt := 105) d_X5_plainFact_101 rfl ?_
          exact Tr.zret (pc := 105) d_X5_plainFact_105 rfl (by omega) ⟨hS, _, rfl, by omega, by omega, fun _ => ((St.kp h93 (by decide) (by decide) (by decide)).trans ((St.kp h79 (by decide) (by decide) (by decide)).trans ((St.kp h73 (by decide) (by decide) (by decide)).trans ((St.kp h66 (by decide) (by decide) (by decide)).trans ((St.kp h43 (by decide) (by decide) (by decide)).trans ((St.kp h3 (by decide) (by decide) (by decide)).trans en_6_6))))))⟩
    · refine Tr.aload_n (pc := 49) (i := 0) d_X5_plainFact_49 rfl rfl ?_
      refine Tr.getf (pc := 50) d_X5_plainFact_50 f_5_32 (by decide) (by decide) (ty_6 hS.1.1) ?_
      refine Tr.tp 15 ((St.kp hS (by decide) (by decide) (by decide)).trans en_6_4) ?_
      refine Tr.iconst (pc := 53) d_X5_plainFact_53 (by decide) ?_
      refine Tr.iconst (pc := 54) d_X5_plainFact_54 (by decide) ?_
      refine Tr.callV (pc := 55) (as := [_, _]) d_X5_plainFact_55 s_5_215 ok_X4_emit rfl rfl (Nat.le_of_ble_eq_true rfl) (Nat.le_of_ble_eq_true rfl) (by decide) (ty_15 hS.1.1) ?_
      refine Tr.imp (Tr.deep (by decide) (sp_X4_emit_15_w3 hS.1.wk 0 (by omega) 1 (by omega) (by omega))) ?_
      rintro M55 _ ⟨h55, rfl⟩
      have hS := St.tr hS h55 (by decide) (by decide)
      refine Tr.sc [] rfl ?_
      refine Tr.aload_n (pc := 58) (i := 0) d_X5_plainFact_58 rfl rfl ?_
      refine Tr.callV (pc := 59) (as := []) d_X5_plainFact_59 s_5_74 ok_X5_goOn rfl rfl (Nat.le_of_ble_eq_true rfl) (Nat.le_of_ble_eq_true rfl) (by decide) (ty_6 hS.1.1) ?_
      refine Tr.imp (Tr.deep (by decide) (sp_X5_goOn_6 hS.1 )) ?_
      rintro M59 _ ⟨h59, r59, rfl, lr59, ur59⟩
      have hS := St.tr hS h59 (by decide) (by decide)
      refine Tr.sc [(0, r59)] rfl ?_
      exact Tr.zret (pc := 62) d_X5_plainFact_62 rfl (by omega) ⟨hS, _, rfl, by omega, by omega, fun _ => ((St.kp h59 (by decide) (by decide) (by decide)).trans ((St.kp h55 (by decide) (by decide) (by decide)).trans ((St.kp h43 (by decide) (by decide) (by decide)).trans ((St.kp h3 (by decide) (by decide) (by decide)).trans en_6_6))))⟩
  · refine Tr.aload_n (pc := 9) (i := 0) d_X5_plainFact_9 rfl rfl ?_
    refine Tr.bipush (pc := 10) d_X5_plainFact_10 rfl (by decide) ?_
    refine Tr.callV (pc := 12) (as := [_]) d_X5_plainFact_12 s_5_206 ok_X5_takeOpening rfl rfl (Nat.le_of_ble_eq_true rfl) (Nat.le_of_ble_eq_true rfl) (by decide) (ty_6 hS.1.1) ?_
    refine Tr.imp (Tr.deep (by decide) (sp_X5_takeOpening_6_w11 hS.1 ((St.kp hS (by decide) (by decide) (by decide)).trans en_6_2) ((St.kp h3 (by decide) (by decide) (by decide)).trans en_6_6) 91 (by omega))) ?_
    rintro M12 _ ⟨h12, r12, rfl, lr12, ur12, x12_6_6⟩
    have hS := St.tr hS h12 (by decide) (by decide)
    refine Tr.sc [(0, r12)] rfl ?_
    refine Tr.if_eq (pc := 15) (tgt := 38) d_X5_plainFact_15 rfl (fun c15 => ?_) (fun c15 => ?_)
    · refine Tr.iconst (pc := 38) d_X5_plainFact_38 (by decide) ?_
      exact Tr.zret (pc := 39) d_X5_plainFact_39 rfl (by omega) ⟨hS, _, rfl, by omega, by omega, fun hq => absurd hq (by omega)⟩
    · refine Tr.aload_n (pc := 18) (i := 0) d_X5_plainFact_18 rfl rfl ?_
      refine Tr.callV (pc := 19) (as := []) d_X5_plainFact_19 s_5_177 ok_X5_test rfl rfl (Nat.le_of_ble_eq_true rfl) (Nat.le_of_ble_eq_true rfl) (by decide) (ty_6 hS.1.1) ?_
      refine Tr.imp (Tr.deep (by decide) (sp_X5_test_6_w12 hS.1 hE ((St.kp hS (by decide) (by decide) (by decide)).trans en_6_2) ((St.kp hS (by decide) (by decide) (by decide)).trans en_6_3) ((St.kp hS (by decide) (by decide) (by decide)).trans en_6_4) (x12_6_6 (by omega)))) ?_
      rintro M19 _ ⟨h19, r19, rfl, lr19, ur19, x19_6_6⟩
      have hS := St.tr hS h19 (by decide) (by decide)
      refine Tr.sc [(0, r19)] rfl ?_
      refine Tr.if_eq (pc := 22) (tgt := 38) d_X5_plainFact_22 rfl (fun c22 => ?_) (fun c22 => ?_)
      · refine Tr.iconst (pc := 38) d_X5_plainFact_38 (by decide) ?_
        exact Tr.zret (pc := 39) d_X5_plainFact_39 rfl (by omega) ⟨hS, _, rfl, by omega, by omega, fun hq => absurd hq (by omega)⟩
      · refine Tr.aload_n (pc := 25) (i := 0) d_X5_plainFact_25 rfl rfl ?_
        refine Tr.bipush (pc := 26) d_X5_plainFact_26 rfl (by decide) ?_
        refine Tr.callV (pc := 28) (as := [_]) d_X5_plainFact_28 s_5_209 ok_X5_takeClosing rfl rfl (Nat.le_of_ble_eq_true rfl) (Nat.le_of_ble_eq_true rfl) (by decide) (ty_6 hS.1.1) ?_
        refine Tr.imp (Tr.deep (by decide) (sp_X5_takeClosing_6_w13 hS.1 ((St.kp hS (by decide) (by decide) (by decide)).trans en_6_2) (x19_6_6 (by omega)) 93 (by omega))) ?_
        rintro M28 _ ⟨h28, r28, rfl, lr28, ur28, x28_6_6⟩
        have hS := St.tr hS h28 (by decide) (by decide)
        refine Tr.sc [(0, r28)] rfl ?_
        refine Tr.if_eq (pc := 31) (tgt := 38) d_X5_plainFact_31 rfl (fun c31 => ?_) (fun c31 => ?_)
        · refine Tr.iconst (pc := 38) d_X5_plainFact_38 (by decide) ?_
          exact Tr.zret (pc := 39) d_X5_plainFact_39 rfl (by omega) ⟨hS, _, rfl, by omega, by omega, fun hq => absurd hq (by omega)⟩
        · refine Tr.iconst (pc := 34) d_X5_plainFact_34 (by decide) ?_
          refine Tr.goto (pc := 35) (tgt := 39) d_X5_plainFact_35 rfl ?_
          exact Tr.zret (pc := 39) d_X5_plainFact_39 rfl (by omega) ⟨hS, _, rfl, by omega, by omega, fun _ => (x28_6_6 (by omega))⟩
end
/-! 43.23 -/
section
def ws_X5_fact_6_w11 : List (Int × Int) := [(6, 0), (6, 1), (6, 5), (6, 6), (15, 11)]
def as_X5_fact_6_w11 : List Int := [24, 25]
def q_X5_fact_6_w11 (M0 M' : Mem) (r : Option PV) : Prop := St Tru ws_X5_fact_6_w11 as_X5_fact_6_w11 M0 M' ∧ ∃ v : Int, r = some (0, v) ∧ 0 ≤ v ∧ v ≤ 1 ∧ ((1 ≤ v ∧ v ≤ 1) → rd M' 6 6 = 2)
set_option maxRecDepth 100000 in
set_option maxHeartbeats 4000000 in
theorem sp_X5_fact_6_w11 {l : Launch} {K : EC} {M0 : Mem} {xq : Int} (hI : In Tru M0) (hE : e_all K xq) (en_6_2 : rd M0 6 2 = 2) (en_6_3 : rd M0 6 3 = 7) (en_6_4 : rd M0 6 4 = 15) (en_6_6 : rd M0 6 6 = 2)   : Tr l K 31 mX5_fact 0 [(0, (2, 6))] [] M0 (q_X5_fact_6_w11 M0) := by
  have hS : St Tru ws_X5_fact_6_w11 as_X5_fact_6_w11 M0 M0 := St.rf hI
  refine Tr.iconst (pc := 0) d_X5_fact_0 (by decide) ?_
  refine Tr.istore_n (pc := 1) (i := 1) (ls2 := [(1, (0, 0)), (0, (2, 6))]) d_X5_fact_1 rfl (by decide) rfl ?_
  refine Tr.iconst (pc := 2) d_X5_fact_2 (by decide) ?_
  refine Tr.istore_n (pc := 3) (i := 2) (ls2 := [(2, (0, 0)), (1, (0, 0)), (0, (2, 6))]) d_X5_fact_3 rfl (by decide) rfl ?_
  have J4 : ∀ (n4 : Nat) (M : Mem) (p4_1 p4_2 : Int), St Tru ws_X5_fact_6_w11 as_X5_fact_6_w11 M0 M → (0 ≤ p4_1 ∧ p4_1 ≤ 1) → (0 ≤ p4_2 ∧ p4_2 ≤ 900) → rd M 6 6 = 2 → (900 - p4_2).toNat < n4 → Tr l K 31 mX5_fact 4 [(0, (2, 6)), (1, (0, p4_1)), (2, (0, p4_2))] [] M (q_X5_fact_6_w11 M0) := by
    intro n4
    induction n4 with
    | zero => intro M p4_1 p4_2 hS bp4_1 bp4_2 k4_6_6 hm4; exact absurd hm4 (Nat.not_lt_zero _)
    | succ n4 J4 =>
      intro M p4_1 p4_2 hS bp4_1 bp4_2 k4_6_6 hm4
      refine Tr.iload_n (pc := 4) (i := 2) d_X5_fact_4 rfl rfl ?_
      refine Tr.sipush (pc := 5) d_X5_fact_5 rfl (by decide) ?_
      have J41 : ∀ (M : Mem), St Tru ws_X5_fact_6_w11 as_X5_fact_6_w11 M0 M → rd M 6 6 = 2 → Tr l K 31 mX5_fact 41 [(0, (2, 6)), (1, (0, p4_1))] [] M (q_X5_fact_6_w11 M0) := by
        intro M  hS  k41_6_6
        refine Tr.aload_n (pc := 41) (i := 0) d_X5_fact_41 rfl rfl ?_
        refine Tr.callV (pc := 42) (as := []) d_X5_fact_42 s_5_221 ok_X5_plainFact rfl rfl (Nat.le_of_ble_eq_true rfl) (Nat.le_of_ble_eq_true rfl) (by decide) (ty_6 hS.1.1) ?_
        refine Tr.imp (Tr.deep (by decide) (sp_X5_plainFact_6_w11 hS.1 hE ((St.kp hS (by decide) (by decide) (by decide)).trans en_6_2) ((St.kp hS (by decide) (by decide) (by decide)).trans en_6_3) ((St.kp hS (by decide) (by decide) (by decide)).trans en_6_4) k41_6_6)) ?_
        rintro M42 _ ⟨h42, r42, rfl, lr42, ur42, x42_6_6⟩
        have hS := St.tr hS h42 (by decide) (by decide)
        refine Tr.sc [(0, r42)] rfl ?_
        refine Tr.istore_n (pc := 45) (i := 2) (ls2 := [(2, (0, r42)), (0, (2, 6)), (1, (0, p4_1))]) d_X5_fact_45 rfl (by decide) rfl ?_
        refine Tr.iload_n (pc := 46) (i := 1) d_X5_fact_46 rfl rfl ?_
        refine Tr.if_eq (pc := 47) (tgt := 59) d_X5_fact_47 rfl (fun c47 => ?_) (fun c47 => ?_)
        · refine Tr.iload_n (pc := 59) (i := 2) d_X5_fact_59 rfl rfl ?_
          exact Tr.zret (pc := 60) d_X5_fact_60 rfl (by omega) ⟨hS, _, rfl, by omega, by omega, fun hq => (x42_6_6 (by omega))⟩
        · refine Tr.aload_n (pc := 50) (i := 0) d_X5_fact_50 rfl rfl ?_
          refine Tr.getf (pc := 51) d_X5_fact_51 f_5_32 (by decide) (by decide) (ty_6 hS.1.1) ?_
          refine Tr.tp 15 ((St.kp hS (by decide) (by decide) (by decide)).trans en_6_4) ?_
          refine Tr.iconst (pc := 54) d_X5_fact_54 (by decide) ?_
          refine Tr.iconst (pc := 55) d_X5_fact_55 (by decide) ?_
          refine Tr.callV (pc := 56) (as := [_, _]) d_X5_fact_56 s_5_215 ok_X4_emit rfl rfl (Nat.le_of_ble_eq_true rfl) (Nat.le_of_ble_eq_true rfl) (by decide) (ty_15 hS.1.1) ?_
          refine Tr.imp (Tr.deep (by decide) (sp_X4_emit_15_w7 hS.1.wk 5 (by omega) 0 (by omega) (by omega))) ?_
          rintro M56 _ ⟨h56, rfl⟩
          have hS := St.tr hS h56 (by decide) (by decide)
          refine Tr.sc [] rfl ?_
          refine Tr.iload_n (pc := 59) (i := 2) d_X5_fact_59 rfl rfl ?_
          exact Tr.zret (pc := 60) d_X5_fact_60 rfl (by omega) ⟨hS, _, rfl, by omega, by omega, fun hq => ((St.kp h56 (by decide) (by decide) (by decide)).trans (x42_6_6 (by omega)))⟩
      refine Tr.icmp_ge (pc := 8) (tgt := 41) d_X5_fact_8 rfl (fun c8 => ?_) (fun c8 => ?_)
      · refine Tr.pick [0, 1] (ls2 := [(0, (2, 6)), (1, (0, p4_1))]) rfl ?_
        exact J41 _ hS k4_6_6
      · refine Tr.aload_n (pc := 11) (i := 0) d_X5_fact_11 rfl rfl ?_
        refine Tr.bipush (pc := 12) d_X5_fact_12 rfl (by decide) ?_
        refine Tr.callV (pc := 14) (as := [_]) d_X5_fact_14 s_5_71 ok_X5_isOwn rfl rfl (Nat.le_of_ble_eq_true rfl) (Nat.le_of_ble_eq_true rfl) (by decide) (ty_6 hS.1.1) ?_
        refine Tr.imp (Tr.deep (by decide) (sp_X5_isOwn_6_w4 hS.1 ((St.kp hS (by decide) (by decide) (by decide)).trans en_6_2) 21 (by omega))) ?_
        rintro M14 _ ⟨h14, r14, rfl, lr14, ur14⟩
        have hS := St.tr hS h14 (by decide) (by decide)
        refine Tr.sc [(0, r14)] rfl ?_
        refine Tr.if_eq (pc := 17) (tgt := 41) d_X5_fact_17 rfl (fun c17 => ?_) (fun c17 => ?_)
        · refine Tr.pick [0, 1] (ls2 := [(0, (2, 6)), (1, (0, p4_1))]) rfl ?_
          exact J41 _ hS ((St.kp h14 (by decide) (by decide) (by decide)).trans k4_6_6)
        · refine Tr.aload_n (pc := 20) (i := 0) d_X5_fact_20 rfl rfl ?_
          refine Tr.callV (pc := 21) (as := []) d_X5_fact_21 s_5_74 ok_X5_goOn rfl rfl (Nat.le_of_ble_eq_true rfl) (Nat.le_of_ble_eq_true rfl) (by decide) (ty_6 hS.1.1) ?_
          refine Tr.imp (Tr.deep (by decide) (sp_X5_goOn_6 hS.1 )) ?_
          rintro M21 _ ⟨h21, r21, rfl, lr21, ur21⟩
          have hS := St.tr hS h21 (by decide) (by decide)
          refine Tr.sc [(0, r21)] rfl ?_
          refine Tr.pop (pc := 24) d_X5_fact_24 ne01 ?_
          refine Tr.iload_n (pc := 25) (i := 1) d_X5_fact_25 rfl rfl ?_
          have J34 : ∀ (M : Mem) (q34_0 : Int), St Tru ws_X5_fact_6_w11 as_X5_fact_6_w11 M0 M → (0 ≤ q34_0 ∧ q34_0 ≤ 1) → rd M 6 6 = 2 → Tr l K 31 mX5_fact 34 [(0, (2, 6)), (2, (0, p4_2))] [(0, q34_0)] M (q_X5_fact_6_w11 M0) := by
            intro M q34_0 hS bq34_0 k34_6_6
            refine Tr.istore_n (pc := 34) (i := 1) (ls2 := [(1, (0, q34_0)), (0, (2, 6)), (2, (0, p4_2))]) d_X5_fact_34 rfl (by decide) rfl ?_
            refine Tr.iincV (pc := 35) (n2 := (p4_2 + 1)) (ls2 := [(2, (0, (p4_2 + 1))), (1, (0, q34_0)), (0, (2, 6))]) d_X5_fact_35 rfl (by decide) ((w32_id (by omega)).trans (by omega)) rfl ?_
            refine Tr.goto (pc := 38) (tgt := 4) d_X5_fact_38 rfl ?_
            refine Tr.pick [2, 1, 0] (ls2 := [(0, (2, 6)), (1, (0, q34_0)), (2, (0, (p4_2 + 1)))]) rfl ?_
            exact J4 _ _ _ hS (by omega) (by omega) k34_6_6 (by omega)
          refine Tr.if_ne (pc := 26) (tgt := 33) d_X5_fact_26 rfl (fun c26 => ?_) (fun c26 => ?_)
          · refine Tr.iconst (pc := 33) d_X5_fact_33 (by decide) ?_
            refine Tr.pick [0, 2] (ls2 := [(0, (2, 6)), (2, (0, p4_2))]) rfl ?_
            exact J34 _ _ hS (by omega) ((St.kp h21 (by decide) (by decide) (by decide)).trans ((St.kp h14 (by decide) (by decide) (by decide)).trans k4_6_6))
          · refine Tr.iconst (pc := 29) d_X5_fact_29 (by decide) ?_
            refine Tr.goto (pc := 30) (tgt := 34) d_X5_fact_30 rfl ?_
            refine Tr.pick [0, 2] (ls2 := [(0, (2, 6)), (2, (0, p4_2))]) rfl ?_
            exact J34 _ _ hS (by omega) ((St.kp h21 (by decide) (by decide) (by decide)).trans ((St.kp h14 (by decide) (by decide) (by decide)).trans k4_6_6))
  refine Tr.pick [2, 1, 0] (ls2 := [(0, (2, 6)), (1, (0, 0)), (2, (0, 0))]) rfl ?_
  exact J4 _ _ _ _ hS (by omega) (by omega) en_6_6 (Nat.lt_succ_self _)

def ws_X5_both_6_w11 : List (Int × Int) := [(6, 0), (6, 1), (6, 5), (6, 6), (15, 11)]
def as_X5_both_6_w11 : List Int := [24, 25]
def q_X5_both_6_w11 (M0 M' : Mem) (r : Option PV) : Prop := St Tru ws_X5_both_6_w11 as_X5_both_6_w11 M0 M' ∧ ∃ v : Int, r = some (0, v) ∧ 0 ≤ v ∧ v ≤ 1 ∧ ((1 ≤ v ∧ v ≤ 1) → rd M' 6 6 = 2)
set_option maxRecDepth 100000 in
set_option maxHeartbeats 4000000 in
theorem sp_X5_both_6_w11 {l : Launch} {K : EC} {M0 : Mem} {xq : Int} (hI : In Tru M0) (hE : e_all K xq) (en_6_2 : rd M0 6 2 = 2) (en_6_3 : rd M0 6 3 = 7) (en_6_4 : rd M0 6 4 = 15) (en_6_6 : rd M0 6 6 = 2)   : Tr l K 32 mX5_both 0 [(0, (2, 6))] [] M0 (q_X5_both_6_w11 M0) := by
  have hS : St Tru ws_X5_both_6_w11 as_X5_both_6_w11 M0 M0 := St.rf hI
  refine Tr.aload_n (pc := 0) (i := 0) d_X5_both_0 rfl rfl ?_
  refine Tr.callV (pc := 1) (as := []) d_X5_both_1 s_5_218 ok_X5_fact rfl rfl (Nat.le_of_ble_eq_true rfl) (Nat.le_of_ble_eq_true rfl) (by decide) (ty_6 hS.1.1) ?_
  refine Tr.imp (Tr.deep (by decide) (sp_X5_fact_6_w11 hS.1 hE ((St.kp hS (by decide) (by decide) (by decide)).trans en_6_2) ((St.kp hS (by decide) (by decide) (by decide)).trans en_6_3) ((St.kp hS (by decide) (by decide) (by decide)).trans en_6_4) en_6_6)) ?_
  rintro M1 _ ⟨h1, r1, rfl, lr1, ur1, x1_6_6⟩
  have hS := St.tr hS h1 (by decide) (by decide)
  refine Tr.sc [(0, r1)] rfl ?_
  refine Tr.istore_n (pc := 4) (i := 1) (ls2 := [(1, (0, r1)), (0, (2, 6))]) d_X5_both_4 rfl (by decide) rfl ?_
  refine Tr.iconst (pc := 5) d_X5_both_5 (by decide) ?_
  refine Tr.istore_n (pc := 6) (i := 2) (ls2 := [(2, (0, 0)), (1, (0, r1)), (0, (2, 6))]) d_X5_both_6 rfl (by decide) rfl ?_
  have J7 : ∀ (n7 : Nat) (M : Mem) (p7_1 p7_2 : Int), St Tru ws_X5_both_6_w11 as_X5_both_6_w11 M0 M → (0 ≤ p7_1 ∧ p7_1 ≤ 1) → (0 ≤ p7_2 ∧ p7_2 ≤ 900) → (p7_1 = 1 → rd M 6 6 = 2) → (900 - p7_2).toNat < n7 → Tr l K 32 mX5_both 7 [(0, (2, 6)), (1, (0, p7_1)), (2, (0, p7_2))] [] M (q_X5_both_6_w11 M0) := by
    intro n7
    induction n7 with
    | zero => intro M p7_1 p7_2 hS bp7_1 bp7_2  y7_p7_1_6_60 hm7; exact absurd hm7 (Nat.not_lt_zero _)
    | succ n7 J7 =>
      intro M p7_1 p7_2 hS bp7_1 bp7_2  y7_p7_1_6_60 hm7
      have y7_p7_1_6_6 : 1 ≤ p7_1 ∧ p7_1 ≤ 1 → rd M 6 6 = 2 := fun hq => y7_p7_1_6_60 (by omega)
      refine Tr.iload_n (pc := 7) (i := 2) d_X5_both_7 rfl rfl ?_
      refine Tr.sipush (pc := 8) d_X5_both_8 rfl (by decide) ?_
      refine Tr.icmp_ge (pc := 11) (tgt := 53) d_X5_both_11 rfl (fun c11 => ?_) (fun c11 => ?_)
      · refine Tr.iload_n (pc := 53) (i := 1) d_X5_both_53 rfl rfl ?_
        exact Tr.zret (pc := 54) d_X5_both_54 rfl (by omega) ⟨hS, _, rfl, by omega, by omega, fun hq => (y7_p7_1_6_6 (by omega))⟩
      · refine Tr.iload_n (pc := 14) (i := 1) d_X5_both_14 rfl rfl ?_
        refine Tr.if_eq (pc := 15) (tgt := 53) d_X5_both_15 rfl (fun c15 => ?_) (fun c15 => ?_)
        · refine Tr.iload_n (pc := 53) (i := 1) d_X5_both_53 rfl rfl ?_
          exact Tr.zret (pc := 54) d_X5_both_54 rfl (by omega) ⟨hS, _, rfl, by omega, by omega, fun hq => absurd hq (by omega)⟩
        · refine Tr.aload_n (pc := 18) (i := 0) d_X5_both_18 rfl rfl ?_
          refine Tr.bipush (pc := 19) d_X5_both_19 rfl (by decide) ?_
          refine Tr.callV (pc := 21) (as := [_]) d_X5_both_21 s_5_71 ok_X5_isOwn rfl rfl (Nat.le_of_ble_eq_true rfl) (Nat.le_of_ble_eq_true rfl) (by decide) (ty_6 hS.1.1) ?_
          refine Tr.imp (Tr.deep (by decide) (sp_X5_isOwn_6_w3 hS.1 ((St.kp hS (by decide) (by decide) (by decide)).trans en_6_2) 20 (by omega))) ?_
          rintro M21 _ ⟨h21, r21, rfl, lr21, ur21⟩
          have hS := St.tr hS h21 (by decide) (by decide)
          refine Tr.sc [(0, r21)] rfl ?_
          refine Tr.if_eq (pc := 24) (tgt := 53) d_X5_both_24 rfl (fun c24 => ?_) (fun c24 => ?_)
          · refine Tr.iload_n (pc := 53) (i := 1) d_X5_both_53 rfl rfl ?_
            exact Tr.zret (pc := 54) d_X5_both_54 rfl (by omega) ⟨hS, _, rfl, by omega, by omega, fun _ => ((St.kp h21 (by decide) (by decide) (by decide)).trans (y7_p7_1_6_6 (by omega)))⟩
          · refine Tr.aload_n (pc := 27) (i := 0) d_X5_both_27 rfl rfl ?_
            refine Tr.callV (pc := 28) (as := []) d_X5_both_28 s_5_74 ok_X5_goOn rfl rfl (Nat.le_of_ble_eq_true rfl) (Nat.le_of_ble_eq_true rfl) (by decide) (ty_6 hS.1.1) ?_
            refine Tr.imp (Tr.deep (by decide) (sp_X5_goOn_6 hS.1 )) ?_
            rintro M28 _ ⟨h28, r28, rfl, lr28, ur28⟩
            have hS := St.tr hS h28 (by decide) (by decide)
            refine Tr.sc [(0, r28)] rfl ?_
            refine Tr.pop (pc := 31) d_X5_both_31 ne01 ?_
            refine Tr.aload_n (pc := 32) (i := 0) d_X5_both_32 rfl rfl ?_
            refine Tr.callV (pc := 33) (as := []) d_X5_both_33 s_5_218 ok_X5_fact rfl rfl (Nat.le_of_ble_eq_true rfl) (Nat.le_of_ble_eq_true rfl) (by decide) (ty_6 hS.1.1) ?_
            refine Tr.imp (Tr.deep (by decide) (sp_X5_fact_6_w11 hS.1 hE ((St.kp hS (by decide) (by decide) (by decide)).trans en_6_2) ((St.kp hS (by decide) (by decide) (by decide)).trans en_6_3) ((St.kp hS (by decide) (by decide) (by decide)).trans en_6_4) ((St.kp h28 (by decide) (by decide) (by decide)).trans ((St.kp h21 (by decide) (by decide) (by decide)).trans (y7_p7_1_6_6 (by omega)))))) ?_
            rintro M33 _ ⟨h33, r33, rfl, lr33, ur33, x33_6_6⟩
            have hS := St.tr hS h33 (by decide) (by decide)
            refine Tr.sc [(0, r33)] rfl ?_
            refine Tr.istore_n (pc := 36) (i := 1) (ls2 := [(1, (0, r33)), (0, (2, 6)), (2, (0, p7_2))]) d_X5_both_36 rfl (by decide) rfl ?_
            refine Tr.aload_n (pc := 37) (i := 0) d_X5_both_37 rfl rfl ?_
            refine Tr.getf (pc := 38) d_X5_both_38 f_5_32 (by decide) (by decide) (ty_6 hS.1.1) ?_
            refine Tr.tp 15 ((St.kp hS (by decide) (by decide) (by decide)).trans en_6_4) ?_
            refine Tr.bipush (pc := 41) d_X5_both_41 rfl (by decide) ?_
            refine Tr.iconst (pc := 43) d_X5_both_43 (by decide) ?_
            refine Tr.callV (pc := 44) (as := [_, _]) d_X5_both_44 s_5_215 ok_X4_emit rfl rfl (Nat.le_of_ble_eq_true rfl) (Nat.le_of_ble_eq_true rfl) (by decide) (ty_15 hS.1.1) ?_
            refine Tr.imp (Tr.deep (by decide) (sp_X4_emit_15_w9 hS.1.wk 16 (by omega) 0 (by omega) (by omega))) ?_
            rintro M44 _ ⟨h44, rfl⟩
            have hS := St.tr hS h44 (by decide) (by decide)
            refine Tr.sc [] rfl ?_
            refine Tr.iincV (pc := 47) (n2 := (p7_2 + 1)) (ls2 := [(2, (0, (p7_2 + 1))), (1, (0, r33)), (0, (2, 6))]) d_X5_both_47 rfl (by decide) ((w32_id (by omega)).trans (by omega)) rfl ?_
            refine Tr.goto (pc := 50) (tgt := 7) d_X5_both_50 rfl ?_
            refine Tr.pick [2, 1, 0] (ls2 := [(0, (2, 6)), (1, (0, r33)), (2, (0, (p7_2 + 1)))]) rfl ?_
            exact J7 _ _ _ hS (by omega) (by omega) (fun hq => ((St.kp h44 (by decide) (by decide) (by decide)).trans (x33_6_6 (by omega)))) (by omega)
  refine Tr.pick [2, 1, 0] (ls2 := [(0, (2, 6)), (1, (0, r1)), (2, (0, 0))]) rfl ?_
  exact J7 _ _ _ _ hS (by omega) (by omega) (fun hq => (x1_6_6 (by omega))) (Nat.lt_succ_self _)

def ws_X5_test_6_w11 : List (Int × Int) := [(6, 0), (6, 1), (6, 5), (6, 6), (15, 11)]
def as_X5_test_6_w11 : List Int := [24, 25]
def q_X5_test_6_w11 (M0 M' : Mem) (r : Option PV) : Prop := St Tru ws_X5_test_6_w11 as_X5_test_6_w11 M0 M' ∧ ∃ v : Int, r = some (0, v) ∧ 0 ≤ v ∧ v ≤ 1 ∧ ((1 ≤ v ∧ v ≤ 1) → rd M' 6 6 = 2)
set_option maxRecDepth 100000 in
set_option maxHeartbeats 4000000 in
theorem sp_X5_test_6_w11 {l : Launch} {K : EC} {M0 : Mem} {xq : Int} (hI : In Tru M0) (hE : e_all K xq) (en_6_2 : rd M0 6 2 = 2) (en_6_3 : rd M0 6 3 = 7) (en_6_4 : rd M0 6 4 = 15) (en_6_6 : rd M0 6 6 = 2)   : Tr l K 33 mX5_test 0 [(0, (2, 6))] [] M0 (q_X5_test_6_w11 M0) := by
  have hS : St Tru ws_X5_test_6_w11 as_X5_test_6_w11 M0 M0 := St.rf hI
  refine Tr.aload_n (pc := 0) (i := 0) d_X5_test_0 rfl rfl ?_
  refine Tr.callV (pc := 1) (as := []) d_X5_test_1 s_5_212 ok_X5_both rfl rfl (Nat.le_of_ble_eq_true rfl) (Nat.le_of_ble_eq_true rfl) (by decide) (ty_6 hS.1.1) ?_
  refine Tr.imp (Tr.deep (by decide) (sp_X5_both_6_w11 hS.1 hE ((St.kp hS (by decide) (by decide) (by decide)).trans en_6_2) ((St.kp hS (by decide) (by decide) (by decide)).trans en_6_3) ((St.kp hS (by decide) (by decide) (by decide)).trans en_6_4) en_6_6)) ?_
  rintro M1 _ ⟨h1, r1, rfl, lr1, ur1, x1_6_6⟩
  have hS := St.tr hS h1 (by decide) (by decide)
  refine Tr.sc [(0, r1)] rfl ?_
  refine Tr.istore_n (pc := 4) (i := 1) (ls2 := [(1, (0, r1)), (0, (2, 6))]) d_X5_test_4 rfl (by decide) rfl ?_
  refine Tr.iconst (pc := 5) d_X5_test_5 (by decide) ?_
  refine Tr.istore_n (pc := 6) (i := 2) (ls2 := [(2, (0, 0)), (1, (0, r1)), (0, (2, 6))]) d_X5_test_6 rfl (by decide) rfl ?_
  have J7 : ∀ (n7 : Nat) (M : Mem) (p7_1 p7_2 : Int), St Tru ws_X5_test_6_w11 as_X5_test_6_w11 M0 M → (0 ≤ p7_1 ∧ p7_1 ≤ 1) → (0 ≤ p7_2 ∧ p7_2 ≤ 900) → (p7_1 = 1 → rd M 6 6 = 2) → (900 - p7_2).toNat < n7 → Tr l K 33 mX5_test 7 [(0, (2, 6)), (1, (0, p7_1)), (2, (0, p7_2))] [] M (q_X5_test_6_w11 M0) := by
    intro n7
    induction n7 with
    | zero => intro M p7_1 p7_2 hS bp7_1 bp7_2  y7_p7_1_6_60 hm7; exact absurd hm7 (Nat.not_lt_zero _)
    | succ n7 J7 =>
      intro M p7_1 p7_2 hS bp7_1 bp7_2  y7_p7_1_6_60 hm7
      have y7_p7_1_6_6 : 1 ≤ p7_1 ∧ p7_1 ≤ 1 → rd M 6 6 = 2 := fun hq => y7_p7_1_6_60 (by omega)
      refine Tr.iload_n (pc := 7) (i := 2) d_X5_test_7 rfl rfl ?_
      refine Tr.sipush (pc := 8) d_X5_test_8 rfl (by decide) ?_
      refine Tr.icmp_ge (pc := 11) (tgt := 53) d_X5_test_11 rfl (fun c11 => ?_) (fun c11 => ?_)
      · refine Tr.iload_n (pc := 53) (i := 1) d_X5_test_53 rfl rfl ?_
        exact Tr.zret (pc := 54) d_X5_test_54 rfl (by omega) ⟨hS, _, rfl, by omega, by omega, fun hq => (y7_p7_1_6_6 (by omega))⟩
      · refine Tr.iload_n (pc := 14) (i := 1) d_X5_test_14 rfl rfl ?_
        refine Tr.if_eq (pc := 15) (tgt := 53) d_X5_test_15 rfl (fun c15 => ?_) (fun c15 => ?_)
        · refine Tr.iload_n (pc := 53) (i := 1) d_X5_test_53 rfl rfl ?_
          exact Tr.zret (pc := 54) d_X5_test_54 rfl (by omega) ⟨hS, _, rfl, by omega, by omega, fun hq => absurd hq (by omega)⟩
        · refine Tr.aload_n (pc := 18) (i := 0) d_X5_test_18 rfl rfl ?_
          refine Tr.bipush (pc := 19) d_X5_test_19 rfl (by decide) ?_
          refine Tr.callV (pc := 21) (as := [_]) d_X5_test_21 s_5_71 ok_X5_isOwn rfl rfl (Nat.le_of_ble_eq_true rfl) (Nat.le_of_ble_eq_true rfl) (by decide) (ty_6 hS.1.1) ?_
          refine Tr.imp (Tr.deep (by decide) (sp_X5_isOwn_6_w3 hS.1 ((St.kp hS (by decide) (by decide) (by decide)).trans en_6_2) 19 (by omega))) ?_
          rintro M21 _ ⟨h21, r21, rfl, lr21, ur21⟩
          have hS := St.tr hS h21 (by decide) (by decide)
          refine Tr.sc [(0, r21)] rfl ?_
          refine Tr.if_eq (pc := 24) (tgt := 53) d_X5_test_24 rfl (fun c24 => ?_) (fun c24 => ?_)
          · refine Tr.iload_n (pc := 53) (i := 1) d_X5_test_53 rfl rfl ?_
            exact Tr.zret (pc := 54) d_X5_test_54 rfl (by omega) ⟨hS, _, rfl, by omega, by omega, fun _ => ((St.kp h21 (by decide) (by decide) (by decide)).trans (y7_p7_1_6_6 (by omega)))⟩
          · refine Tr.aload_n (pc := 27) (i := 0) d_X5_test_27 rfl rfl ?_
            refine Tr.callV (pc := 28) (as := []) d_X5_test_28 s_5_74 ok_X5_goOn rfl rfl (Nat.le_of_ble_eq_true rfl) (Nat.le_of_ble_eq_true rfl) (by decide) (ty_6 hS.1.1) ?_
            refine Tr.imp (Tr.deep (by decide) (sp_X5_goOn_6 hS.1 )) ?_
            rintro M28 _ ⟨h28, r28, rfl, lr28, ur28⟩
            have hS := St.tr hS h28 (by decide) (by decide)
            refine Tr.sc [(0, r28)] rfl ?_
            refine Tr.pop (pc := 31) d_X5_test_31 ne01 ?_
            refine Tr.aload_n (pc := 32) (i := 0) d_X5_test_32 rfl rfl ?_
            refine Tr.callV (pc := 33) (as := []) d_X5_test_33 s_5_212 ok_X5_both rfl rfl (Nat.le_of_ble_eq_true rfl) (Nat.le_of_ble_eq_true rfl) (by decide) (ty_6 hS.1.1) ?_
            refine Tr.imp (Tr.deep (by decide) (sp_X5_both_6_w11 hS.1 hE ((St.kp hS (by decide) (by decide) (by decide)).trans en_6_2) ((St.kp hS (by decide) (by decide) (by decide)).trans en_6_3) ((St.kp hS (by decide) (by decide) (by decide)).trans en_6_4) ((St.kp h28 (by decide) (by decide) (by decide)).trans ((St.kp h21 (by decide) (by decide) (by decide)).trans (y7_p7_1_6_6 (by omega)))))) ?_
            rintro M33 _ ⟨h33, r33, rfl, lr33, ur33, x33_6_6⟩
            have hS := St.tr hS h33 (by decide) (by decide)
            refine Tr.sc [(0, r33)] rfl ?_
            refine Tr.istore_n (pc := 36) (i := 1) (ls2 := [(1, (0, r33)), (0, (2, 6)), (2, (0, p7_2))]) d_X5_test_36 rfl (by decide) rfl ?_
            refine Tr.aload_n (pc := 37) (i := 0) d_X5_test_37 rfl rfl ?_
            refine Tr.getf (pc := 38) d_X5_test_38 f_5_32 (by decide) (by decide) (ty_6 hS.1.1) ?_
            refine Tr.tp 15 ((St.kp hS (by decide) (by decide) (by decide)).trans en_6_4) ?_
            refine Tr.bipush (pc := 41) d_X5_test_41 rfl (by decide) ?_
            refine Tr.iconst (pc := 43) d_X5_test_43 (by decide) ?_
            refine Tr.callV (pc := 44) (as := [_, _]) d_X5_test_44 s_5_215 ok_X4_emit rfl rfl (Nat.le_of_ble_eq_true rfl) (Nat.le_of_ble_eq_true rfl) (by decide) (ty_15 hS.1.1) ?_
            refine Tr.imp (Tr.deep (by decide) (sp_X4_emit_15_w10 hS.1.wk 17 (by omega) 0 (by omega) (by omega))) ?_
            rintro M44 _ ⟨h44, rfl⟩
            have hS := St.tr hS h44 (by decide) (by decide)
            refine Tr.sc [] rfl ?_
            refine Tr.iincV (pc := 47) (n2 := (p7_2 + 1)) (ls2 := [(2, (0, (p7_2 + 1))), (1, (0, r33)), (0, (2, 6))]) d_X5_test_47 rfl (by decide) ((w32_id (by omega)).trans (by omega)) rfl ?_
            refine Tr.goto (pc := 50) (tgt := 7) d_X5_test_50 rfl ?_
            refine Tr.pick [2, 1, 0] (ls2 := [(0, (2, 6)), (1, (0, r33)), (2, (0, (p7_2 + 1)))]) rfl ?_
            exact J7 _ _ _ hS (by omega) (by omega) (fun hq => ((St.kp h44 (by decide) (by decide) (by decide)).trans (x33_6_6 (by omega)))) (by omega)
  refine Tr.pick [2, 1, 0] (ls2 := [(0, (2, 6)), (1, (0, r1)), (2, (0, 0))]) rfl ?_
  exact J7 _ _ _ _ hS (by omega) (by omega) (fun hq => (x1_6_6 (by omega))) (Nat.lt_succ_self _)

def ws_X5_plainFact_6_w10 : List (Int × Int) := [(6, 0), (6, 1), (6, 5), (6, 6), (15, 11)]
def as_X5_plainFact_6_w10 : List Int := [24, 25]
def q_X5_plainFact_6_w10 (M0 M' : Mem) (r : Option PV) : Prop := St Tru ws_X5_plainFact_6_w10 as_X5_plainFact_6_w10 M0 M' ∧ ∃ v : Int, r = some (0, v) ∧ 0 ≤ v ∧ v ≤ 1 ∧ ((1 ≤ v ∧ v ≤ 1) → rd M' 6 6 = 1)
set_option maxRecDepth 100000 in
set_option maxHeartbeats 4000000 in
theorem sp_X5_plainFact_6_w10 {l : Launch} {K : EC} {M0 : Mem} {xq : Int} (hI : In Tru M0) (hE : e_all K xq) (en_6_2 : rd M0 6 2 = 2) (en_6_3 : rd M0 6 3 = 7) (en_6_4 : rd M0 6 4 = 15) (en_6_6 : rd M0 6 6 = 1)   : Tr l K 34 mX5_plainFact 0 [(0, (2, 6))] [] M0 (q_X5_plainFact_6_w10 M0) := by
  have hS : St Tru ws_X5_plainFact_6_w10 as_X5_plainFact_6_w10 M0 M0 := St.rf hI
  refine Tr.aload_n (pc := 0) (i := 0) d_X5_plainFact_0 rfl rfl ?_
  refine Tr.bipush (pc := 1) d_X5_plainFact_1 rfl (by decide) ?_
  refine Tr.callV (pc := 3) (as := [_]) d_X5_plainFact_3 s_5_77 ok_X5_isSign rfl rfl (Nat.le_of_ble_eq_true rfl) (Nat.le_of_ble_eq_true rfl) (by decide) (ty_6 hS.1.1) ?_
  refine Tr.imp (Tr.deep (by decide) (sp_X5_isSign_6_w1 hS.1 ((St.kp hS (by decide) (by decide) (by decide)).trans en_6_2) 91 (by omega))) ?_
  rintro M3 _ ⟨h3, r3, rfl, lr3, ur3⟩
  have hS := St.tr hS h3 (by decide) (by decide)
  refine Tr.sc [(0, r3)] rfl ?_
  refine Tr.if_eq (pc := 6) (tgt := 40) d_X5_plainFact_6 rfl (fun c6 => ?_) (fun c6 => ?_)
  · refine Tr.aload_n (pc := 40) (i := 0) d_X5_plainFact_40 rfl rfl ?_
    refine Tr.bipush (pc := 41) d_X5_plainFact_41 rfl (by decide) ?_
    refine Tr.callV (pc := 43) (as := [_]) d_X5_plainFact_43 s_5_71 ok_X5_isOwn rfl rfl (Nat.le_of_ble_eq_true rfl) (Nat.le_of_ble_eq_true rfl) (by decide) (ty_6 hS.1.1) ?_
    refine Tr.imp (Tr.deep (by decide) (sp_X5_isOwn_6_w4 hS.1 ((St.kp hS (by decide) (by decide) (by decide)).trans en_6_2) 22 (by omega))) ?_
    rintro M43 _ ⟨h43, r43, rfl, lr43, ur43⟩
    have hS := St.tr hS h43 (by decide) (by decide)
    refine Tr.sc [(0, r43)] rfl ?_
    refine Tr.if_eq (pc := 46) (tgt := 63) d_X5_plainFact_46 rfl (fun c46 => ?_) (fun c46 => ?_)
    · refine Tr.aload_n (pc := 63) (i := 0) d_X5_plainFact_63 rfl rfl ?_
      refine Tr.bipush (pc := 64) d_X5_plainFact_64 rfl (by decide) ?_
      refine Tr.callV (pc := 66) (as := [_]) d_X5_plainFact_66 s_5_71 ok_X5_isOwn rfl rfl (Nat.le_of_ble_eq_true rfl) (Nat.le_of_ble_eq_true rfl) (by decide) (ty_6 hS.1.1) ?_
      refine Tr.imp (Tr.deep (by decide) (sp_X5_isOwn_6_w4 hS.1 ((St.kp hS (by decide) (by decide) (by decide)).trans en_6_2) 23 (by omega))) ?_
      rintro M66 _ ⟨h66, r66, rfl, lr66, ur66⟩
      have hS := St.tr hS h66 (by decide) (by decide)
      refine Tr.sc [(0, r66)] rfl ?_
      refine Tr.if_eq (pc := 69) (tgt := 106) d_X5_plainFact_69 rfl (fun c69 => ?_) (fun c69 => ?_)
      · refine Tr.aload_n (pc := 106) (i := 0) d_X5_plainFact_106 rfl rfl ?_
        refine Tr.callV (pc := 107) (as := []) d_X5_plainFact_107 s_5_174 ok_X5_sum rfl rfl (Nat.le_of_ble_eq_true rfl) (Nat.le_of_ble_eq_true rfl) (by decide) (ty_6 hS.1.1) ?_
        refine Tr.imp (Tr.deep (by decide) (sp_X5_sum_6_w10 hS.1 hE ((St.kp hS (by decide) (by decide) (by decide)).trans en_6_2) ((St.kp hS (by decide) (by decide) (by decide)).trans en_6_3) ((St.kp hS (by decide) (by decide) (by decide)).trans en_6_4) ((St.kp h66 (by decide) (by decide) (by decide)).trans ((St.kp h43 (by decide) (by decide) (by decide)).trans ((St.kp h3 (by decide) (by decide) (by decide)).trans en_6_6))))) ?_
        rintro M107 _ ⟨h107, r107, rfl, lr107, ur107, x107_6_6⟩
        have hS := St.tr hS h107 (by decide) (by decide)
        refine Tr.sc [(0, r107)] rfl ?_
        refine Tr.if_ne (pc := 110) (tgt := 115) d_X5_plainFact_110 rfl (fun c110 => ?_) (fun c110 => ?_)
        · refine Tr.aload_n (pc := 115) (i := 0) d_X5_plainFact_115 rfl rfl ?_
          refine Tr.bipush (pc := 116) d_X5_plainFact_116 rfl (by decide) ?_
          refine Tr.callV (pc := 118) (as := [_]) d_X5_plainFact_118 s_5_77 ok_X5_isSign rfl rfl (Nat.le_of_ble_eq_true rfl) (Nat.le_of_ble_eq_true rfl) (by decide) (ty_6 hS.1.1) ?_
          refine Tr.imp (Tr.deep (by decide) (sp_X5_isSign_6_w3 hS.1 ((St.kp hS (by decide) (by decide) (by decide)).trans en_6_2) 60 (by omega))) ?_
          rintro M118 _ ⟨h118, r118, rfl, lr118, ur118⟩
          have hS := St.tr hS h118 (by decide) (by decide)
          refine Tr.sc [(0, r118)] rfl ?_
          have J158 : ∀ (M : Mem) (q158_0 : Int), St Tru ws_X5_plainFact_6_w10 as_X5_plainFact_6_w10 M0 M → ((-1) ≤ q158_0 ∧ q158_0 ≤ 15) → rd M 6 6 = 1 → Tr l K 34 mX5_plainFact 158 [(0, (2, 6))] [(0, q158_0)] M (q_X5_plainFact_6_w10 M0) := by
            intro M q158_0 hS bq158_0 k158_6_6
            refine Tr.istore_n (pc := 158) (i := 1) (ls2 := [(1, (0, q158_0)), (0, (2, 6))]) d_X5_plainFact_158 rfl (by decide) rfl ?_
            refine Tr.iload_n (pc := 159) (i := 1) d_X5_plainFact_159 rfl rfl ?_
            refine Tr.if_ge (pc := 160) (tgt := 169) d_X5_plainFact_160 rfl (fun c160 => ?_) (fun c160 => ?_)
            · refine Tr.aload_n (pc := 169) (i := 0) d_X5_plainFact_169 rfl rfl ?_
              refine Tr.callV (pc := 170) (as := []) d_X5_plainFact_170 s_5_74 ok_X5_goOn rfl rfl (Nat.le_of_ble_eq_true rfl) (Nat.le_of_ble_eq_true rfl) (by decide) (ty_6 hS.1.1) ?_
              refine Tr.imp (Tr.deep (by decide) (sp_X5_goOn_6 hS.1 )) ?_
              rintro M170 _ ⟨h170, r170, rfl, lr170, ur170⟩
              have hS := St.tr hS h170 (by decide) (by decide)
              refine Tr.sc [(0, r170)] rfl ?_
              refine Tr.pop (pc := 173) d_X5_plainFact_173 ne01 ?_
              refine Tr.aload_n (pc := 174) (i := 0) d_X5_plainFact_174 rfl rfl ?_
              refine Tr.callV (pc := 175) (as := []) d_X5_plainFact_175 s_5_174 ok_X5_sum rfl rfl (Nat.le_of_ble_eq_true rfl) (Nat.le_of_ble_eq_true rfl) (by decide) (ty_6 hS.1.1) ?_
              refine Tr.imp (Tr.deep (by decide) (sp_X5_sum_6_w10 hS.1 hE ((St.kp hS (by decide) (by decide) (by decide)).trans en_6_2) ((St.kp hS (by decide) (by decide) (by decide)).trans en_6_3) ((St.kp hS (by decide) (by decide) (by decide)).trans en_6_4) ((St.kp h170 (by decide) (by decide) (by decide)).trans k158_6_6))) ?_
              rintro M175 _ ⟨h175, r175, rfl, lr175, ur175, x175_6_6⟩
              have hS := St.tr hS h175 (by decide) (by decide)
              refine Tr.sc [(0, r175)] rfl ?_
              refine Tr.istore_n (pc := 178) (i := 2) (ls2 := [(2, (0, r175)), (1, (0, q158_0)), (0, (2, 6))]) d_X5_plainFact_178 rfl (by decide) rfl ?_
              refine Tr.aload_n (pc := 179) (i := 0) d_X5_plainFact_179 rfl rfl ?_
              refine Tr.getf (pc := 180) d_X5_plainFact_180 f_5_32 (by decide) (by decide) (ty_6 hS.1.1) ?_
              refine Tr.tp 15 ((St.kp hS (by decide) (by decide) (by decide)).trans en_6_4) ?_
              refine Tr.iload_n (pc := 183) (i := 1) d_X5_plainFact_183 rfl rfl ?_
              refine Tr.iconst (pc := 184) d_X5_plainFact_184 (by decide) ?_
              refine Tr.callV (pc := 185) (as := [_, _]) d_X5_plainFact_185 s_5_215 ok_X4_emit rfl rfl (Nat.le_of_ble_eq_true rfl) (Nat.le_of_ble_eq_true rfl) (by decide) (ty_15 hS.1.1) ?_
              refine Tr.imp (Tr.deep (by decide) (sp_X4_emit_15_w8 hS.1.wk q158_0 (by omega) 0 (by omega) (by omega))) ?_
              rintro M185 _ ⟨h185, rfl⟩
              have hS := St.tr hS h185 (by decide) (by decide)
              refine Tr.sc [] rfl ?_
              refine Tr.iload_n (pc := 188) (i := 2) d_X5_plainFact_188 rfl rfl ?_
              exact Tr.zret (pc := 189) d_X5_plainFact_189 rfl (by omega) ⟨hS, _, rfl, by omega, by omega, fun hq => ((St.kp h185 (by decide) (by decide) (by decide)).trans (x175_6_6 (by omega)))⟩
            · refine Tr.aload_n (pc := 163) (i := 0) d_X5_plainFact_163 rfl rfl ?_
              refine Tr.iconst (pc := 164) d_X5_plainFact_164 (by decide) ?_
              refine Tr.callV (pc := 165) (as := [_]) d_X5_plainFact_165 s_5_56 ok_X5_refuse rfl rfl (Nat.le_of_ble_eq_true rfl) (Nat.le_of_ble_eq_true rfl) (by decide) (ty_6 hS.1.1) ?_
              refine Tr.imp (Tr.deep (by decide) (sp_X5_refuse_6_w1 hS.1 ((St.kp hS (by decide) (by decide) (by decide)).trans en_6_2) 1 (by omega))) ?_
              rintro M165 _ ⟨h165, r165, rfl, lr165, ur165⟩
              have hS := St.tr hS h165 (by decide) (by decide)
              refine Tr.sc [(0, r165)] rfl ?_
              exact Tr.zret (pc := 168) d_X5_plainFact_168 rfl (by omega) ⟨hS, _, rfl, by omega, by omega, fun hq => absurd hq (by omega)⟩
          refine Tr.if_eq (pc := 121) (tgt := 129) d_X5_plainFact_121 rfl (fun c121 => ?_) (fun c121 => ?_)
          · refine Tr.aload_n (pc := 129) (i := 0) d_X5_plainFact_129 rfl rfl ?_
            refine Tr.bipush (pc := 130) d_X5_plainFact_130 rfl (by decide) ?_
            refine Tr.callV (pc := 132) (as := [_]) d_X5_plainFact_132 s_5_77 ok_X5_isSign rfl rfl (Nat.le_of_ble_eq_true rfl) (Nat.le_of_ble_eq_true rfl) (by decide) (ty_6 hS.1.1) ?_
            refine Tr.imp (Tr.deep (by decide) (sp_X5_isSign_6_w4 hS.1 ((St.kp hS (by decide) (by decide) (by decide)).trans en_6_2) 62 (by omega))) ?_
            rintro M132 _ ⟨h132, r132, rfl, lr132, ur132⟩
            have hS := St.tr hS h132 (by decide) (by decide)
            refine Tr.sc [(0, r132)] rfl ?_
            refine Tr.if_eq (pc := 135) (tgt := 143) d_X5_plainFact_135 rfl (fun c135 => ?_) (fun c135 => ?_)
            · refine Tr.aload_n (pc := 143) (i := 0) d_X5_plainFact_143 rfl rfl ?_
              refine Tr.bipush (pc := 144) d_X5_plainFact_144 rfl (by decide) ?_
              refine Tr.callV (pc := 146) (as := [_]) d_X5_plainFact_146 s_5_77 ok_X5_isSign rfl rfl (Nat.le_of_ble_eq_true rfl) (Nat.le_of_ble_eq_true rfl) (by decide) (ty_6 hS.1.1) ?_
              refine Tr.imp (Tr.deep (by decide) (sp_X5_isSign_6_w4 hS.1 ((St.kp hS (by decide) (by decide) (by decide)).trans en_6_2) 61 (by omega))) ?_
              rintro M146 _ ⟨h146, r146, rfl, lr146, ur146⟩
              have hS := St.tr hS h146 (by decide) (by decide)
              refine Tr.sc [(0, r146)] rfl ?_
              refine Tr.if_eq (pc := 149) (tgt := 157) d_X5_plainFact_149 rfl (fun c149 => ?_) (fun c149 => ?_)
              · refine Tr.iconst (pc := 157) d_X5_plainFact_157 (by decide) ?_
                refine Tr.pick [0] (ls2 := [(0, (2, 6))]) rfl ?_
                exact J158 _ _ hS (by omega) ((St.kp h146 (by decide) (by decide) (by decide)).trans ((St.kp h132 (by decide) (by decide) (by decide)).trans ((St.kp h118 (by decide) (by decide) (by decide)).trans (x107_6_6 (by omega)))))
              · refine Tr.bipush (pc := 152) d_X5_plainFact_152 rfl (by decide) ?_
                refine Tr.goto (pc := 154) (tgt := 158) d_X5_plainFact_154 rfl ?_
                refine Tr.pick [0] (ls2 := [(0, (2, 6))]) rfl ?_
                exact J158 _ _ hS (by omega) ((St.kp h146 (by decide) (by decide) (by decide)).trans ((St.kp h132 (by decide) (by decide) (by decide)).trans ((St.kp h118 (by decide) (by decide) (by decide)).trans (x107_6_6 (by omega)))))
            · refine Tr.bipush (pc := 138) d_X5_plainFact_138 rfl (by decide) ?_
              refine Tr.goto (pc := 140) (tgt := 158) d_X5_plainFact_140 rfl ?_
              refine Tr.pick [0] (ls2 := [(0, (2, 6))]) rfl ?_
              exact J158 _ _ hS (by omega) ((St.kp h132 (by decide) (by decide) (by decide)).trans ((St.kp h118 (by decide) (by decide) (by decide)).trans (x107_6_6 (by omega))))
          · refine Tr.bipush (pc := 124) d_X5_plainFact_124 rfl (by decide) ?_
            refine Tr.goto (pc := 126) (tgt := 158) d_X5_plainFact_126 rfl ?_
            refine Tr.pick [0] (ls2 := [(0, (2, 6))]) rfl ?_
            exact J158 _ _ hS (by omega) ((St.kp h118 (by decide) (by decide) (by decide)).trans (x107_6_6 (by omega)))
        · refine Tr.iconst (pc := 113) d_X5_plainFact_113 (by decide) ?_
          exact Tr.zret (pc := 114) d_X5_plainFact_114 rfl (by omega) ⟨hS, _, rfl, by omega, by omega, fun hq => absurd hq (by omega)⟩
      · refine Tr.aload_n (pc := 72) (i := 0) d_X5_plainFact_72 rfl rfl ?_
        refine Tr.callV (pc := 73) (as := []) d_X5_plainFact_73 s_5_74 ok_X5_goOn rfl rfl (Nat.le_of_ble_eq_true rfl) (Nat.le_of_ble_eq_true rfl) (by decide) (ty_6 hS.1.1) ?_
        refine Tr.imp (Tr.deep (by decide) (sp_X5_goOn_6 hS.1 )) ?_
        rintro M73 _ ⟨h73, r73, rfl, lr73, ur73⟩
        have hS := St.tr hS h73 (by decide) (by decide)
        refine Tr.sc [(0, r73)] rfl ?_
        refine Tr.pop (pc := 76) d_X5_plainFact_76 ne01 ?_
        refine Tr.aload_n (pc := 77) (i := 0) d_X5_plainFact_77 rfl rfl ?_
        refine Tr.iconst (pc := 78) d_X5_plainFact_78 (by decide) ?_
        refine Tr.callV (pc := 79) (as := [_]) d_X5_plainFact_79 s_5_186 ok_X5_takeName rfl rfl (Nat.le_of_ble_eq_true rfl) (Nat.le_of_ble_eq_true rfl) (by decide) (ty_6 hS.1.1) ?_
        refine Tr.imp (Tr.deep (by decide) (sp_X5_takeName_6_v0_w1 hS.1 hE ((St.kp hS (by decide) (by decide) (by decide)).trans en_6_2) ((St.kp hS (by decide) (by decide) (by decide)).trans en_6_3))) ?_
        rintro M79 _ ⟨h79, r79, rfl, lr79, ur79⟩
        have hS := St.tr hS h79 (by decide) (by decide)
        refine Tr.sc [(0, r79)] rfl ?_
        refine Tr.istore_n (pc := 82) (i := 1) (ls2 := [(1, (0, r79)), (0, (2, 6))]) d_X5_plainFact_82 rfl (by decide) rfl ?_
        refine Tr.aload_n (pc := 83) (i := 0) d_X5_plainFact_83 rfl rfl ?_
        refine Tr.getf (pc := 84) d_X5_plainFact_84 f_5_32 (by decide) (by decide) (ty_6 hS.1.1) ?_
        refine Tr.tp 15 ((St.kp hS (by decide) (by decide) (by decide)).trans en_6_4) ?_
        refine Tr.iconst (pc := 87) d_X5_plainFact_87 (by decide) ?_
        refine Tr.iload_n (pc := 88) (i := 1) d_X5_plainFact_88 rfl rfl ?_
        refine Tr.iconst (pc := 89) d_X5_plainFact_89 (by decide) ?_
        refine Tr.mmax (pc := 90) d_X5_plainFact_90 ml_5_192 mw_mmax (Nat.le_of_ble_eq_true rfl) ?_
        refine Tr.gen (P := fun v => (v = r79 ∧ 0 ≤ r79) ∨ (v = 0 ∧ r79 ≤ 0)) (f_max_p _ _) (fun r90 er90 br90 => ?_)
        refine Tr.callV (pc := 93) (as := [_, _]) d_X5_plainFact_93 s_5_215 ok_X4_emit rfl rfl (Nat.le_of_ble_eq_true rfl) (Nat.le_of_ble_eq_true rfl) (by decide) (ty_15 hS.1.1) ?_
        refine Tr.imp (Tr.deep (by decide) (sp_X4_emit_15_w7 hS.1.wk 4 (by omega) r90 (by omega) (by omega))) ?_
        rintro M93 _ ⟨h93, rfl⟩
        have hS := St.tr hS h93 (by decide) (by decide)
        refine Tr.sc [] rfl ?_
        refine Tr.iload_n (pc := 96) (i := 1) d_X5_plainFact_96 rfl rfl ?_
        refine Tr.if_lt (pc := 97) (tgt := 104) d_X5_plainFact_97 rfl (fun c97 => ?_) (fun c97 => ?_)
        · refine Tr.iconst (pc := 104) d_X5_plainFact_104 (by decide) ?_
          exact Tr.zret (pc := 105) d_X5_plainFact_105 rfl (by omega) ⟨hS, _, rfl, by omega, by omega, fun hq => absurd hq (by omega)⟩
        · refine Tr.iconst (pc := 100) d_X5_plainFact_100 (by decide) ?_
          refine Tr.goto (pc := 101) (tgt := 105) d_X5_plainFact_101 rfl ?_
          exact Tr.zret (pc := 105) d_X5_plainFact_105 rfl (by omega) ⟨hS, _, rfl, by omega, by omega, fun _ => ((St.kp h93 (by decide) (by decide) (by decide)).trans ((St.kp h79 (by decide) (by decide) (by decide)).trans ((St.kp h73 (by decide) (by decide) (by decide)).trans ((St.kp h66 (by decide) (by decide) (by decide)).trans ((St.kp h43 (by decide) (by decide) (by decide)).trans ((St.kp h3 (by decide) (by decide) (by decide)).trans en_6_6))))))⟩
    · refine Tr.aload_n (pc := 49) (i := 0) d_X5_plainFact_49 rfl rfl ?_
      refine Tr.getf (pc := 50) d_X5_plainFact_50 f_5_32 (by decide) (by decide) (ty_6 hS.1.1) ?_
      refine Tr.tp 15 ((St.kp hS (by decide) (by decide) (by decide)).trans en_6_4) ?_
      refine Tr.iconst (pc := 53) d_X5_plainFact_53 (by decide) ?_
      refine Tr.iconst (pc := 54) d_X5_plainFact_54 (by decide) ?_
      refine Tr.callV (pc := 55) (as := [_, _]) d_X5_plainFact_55 s_5_215 ok_X4_emit rfl rfl (Nat.le_of_ble_eq_true rfl) (Nat.le_of_ble_eq_true rfl) (by decide) (ty_15 hS.1.1) ?_
      refine Tr.imp (Tr.deep (by decide) (sp_X4_emit_15_w3 hS.1.wk 0 (by omega) 1 (by omega) (by omega))) ?_
      rintro M55 _ ⟨h55, rfl⟩
      have hS := St.tr hS h55 (by decide) (by decide)
      refine Tr.sc [] rfl ?_
      refine Tr.aload_n (pc := 58) (i := 0) d_X5_plainFact_58 rfl rfl ?_
      refine Tr.callV (pc := 59) (as := []) d_X5_plainFact_59 s_5_74 ok_X5_goOn rfl rfl (Nat.le_of_ble_eq_true rfl) (Nat.le_of_ble_eq_true rfl) (by decide) (ty_6 hS.1.1) ?_
      refine Tr.imp (Tr.deep (by decide) (sp_X5_goOn_6 hS.1 )) ?_
      rintro M59 _ ⟨h59, r59, rfl, lr59, ur59⟩
      have hS := St.tr hS h59 (by decide) (by decide)
      refine Tr.sc [(0, r59)] rfl ?_
      exact Tr.zret (pc := 62) d_X5_plainFact_62 rfl (by omega) ⟨hS, _, rfl, by omega, by omega, fun _ => ((St.kp h59 (by decide) (by decide) (by decide)).trans ((St.kp h55 (by decide) (by decide) (by decide)).trans ((St.kp h43 (by decide) (by decide) (by decide)).trans ((St.kp h3 (by decide) (by decide) (by decide)).trans en_6_6))))⟩
  · refine Tr.aload_n (pc := 9) (i := 0) d_X5_plainFact_9 rfl rfl ?_
    refine Tr.bipush (pc := 10) d_X5_plainFact_10 rfl (by decide) ?_
    refine Tr.callV (pc := 12) (as := [_]) d_X5_plainFact_12 s_5_206 ok_X5_takeOpening rfl rfl (Nat.le_of_ble_eq_true rfl) (Nat.le_of_ble_eq_true rfl) (by decide) (ty_6 hS.1.1) ?_
    refine Tr.imp (Tr.deep (by decide) (sp_X5_takeOpening_6_w10 hS.1 ((St.kp hS (by decide) (by decide) (by decide)).trans en_6_2) ((St.kp h3 (by decide) (by decide) (by decide)).trans en_6_6) 91 (by omega))) ?_
    rintro M12 _ ⟨h12, r12, rfl, lr12, ur12, x12_6_6⟩
    have hS := St.tr hS h12 (by decide) (by decide)
    refine Tr.sc [(0, r12)] rfl ?_
    refine Tr.if_eq (pc := 15) (tgt := 38) d_X5_plainFact_15 rfl (fun c15 => ?_) (fun c15 => ?_)
    · refine Tr.iconst (pc := 38) d_X5_plainFact_38 (by decide) ?_
      exact Tr.zret (pc := 39) d_X5_plainFact_39 rfl (by omega) ⟨hS, _, rfl, by omega, by omega, fun hq => absurd hq (by omega)⟩
    · refine Tr.aload_n (pc := 18) (i := 0) d_X5_plainFact_18 rfl rfl ?_
      refine Tr.callV (pc := 19) (as := []) d_X5_plainFact_19 s_5_177 ok_X5_test rfl rfl (Nat.le_of_ble_eq_true rfl) (Nat.le_of_ble_eq_true rfl) (by decide) (ty_6 hS.1.1) ?_
      refine Tr.imp (Tr.deep (by decide) (sp_X5_test_6_w11 hS.1 hE ((St.kp hS (by decide) (by decide) (by decide)).trans en_6_2) ((St.kp hS (by decide) (by decide) (by decide)).trans en_6_3) ((St.kp hS (by decide) (by decide) (by decide)).trans en_6_4) (x12_6_6 (by omega)))) ?_
      rintro M19 _ ⟨h19, r19, rfl, lr19, ur19, x19_6_6⟩
      have hS := St.tr hS h19 (by decide) (by decide)
      refine Tr.sc [(0, r19)] rfl ?_
      refine Tr.if_eq (pc := 22) (tgt := 38) d_X5_plainFact_22 rfl (fun c22 => ?_) (fun c22 => ?_)
      · refine Tr.iconst (pc := 38) d_X5_plainFact_38 (by decide) ?_
        exact Tr.zret (pc := 39) d_X5_plainFact_39 rfl (by omega) ⟨hS, _, rfl, by omega, by omega, fun hq => absurd hq (by omega)⟩
      · refine Tr.aload_n (pc := 25) (i := 0) d_X5_plainFact_25 rfl rfl ?_
        refine Tr.bipush (pc := 26) d_X5_plainFact_26 rfl (by decide) ?_
        refine Tr.callV (pc := 28) (as := [_]) d_X5_plainFact_28 s_5_209 ok_X5_takeClosing rfl rfl (Nat.le_of_ble_eq_true rfl) (Nat.le_of_ble_eq_true rfl) (by decide) (ty_6 hS.1.1) ?_
        refine Tr.imp (Tr.deep (by decide) (sp_X5_takeClosing_6_w14 hS.1 ((St.kp hS (by decide) (by decide) (by decide)).trans en_6_2) (x19_6_6 (by omega)) 93 (by omega))) ?_
        rintro M28 _ ⟨h28, r28, rfl, lr28, ur28, x28_6_6⟩
        have hS := St.tr hS h28 (by decide) (by decide)
        refine Tr.sc [(0, r28)] rfl ?_
        refine Tr.if_eq (pc := 31) (tgt := 38) d_X5_plainFact_31 rfl (fun c31 => ?_) (fun c31 => ?_)
        · refine Tr.iconst (pc := 38) d_X5_plainFact_38 (by decide) ?_
          exact Tr.zret (pc := 39) d_X5_plainFact_39 rfl (by omega) ⟨hS, _, rfl, by omega, by omega, fun hq => absurd hq (by omega)⟩
        · refine Tr.iconst (pc := 34) d_X5_plainFact_34 (by decide) ?_
          refine Tr.goto (pc := 35) (tgt := 39) d_X5_plainFact_35 rfl ?_
          exact Tr.zret (pc := 39) d_X5_plainFact_39 rfl (by omega) ⟨hS, _, rfl, by omega, by omega, fun _ => (x28_6_6 (by omega))⟩

def ws_X5_fact_6_w10 : List (Int × Int) := [(6, 0), (6, 1), (6, 5), (6, 6), (15, 11)]
def as_X5_fact_6_w10 : List Int := [24, 25]
def q_X5_fact_6_w10 (M0 M' : Mem) (r : Option PV) : Prop := St Tru ws_X5_fact_6_w10 as_X5_fact_6_w10 M0 M' ∧ ∃ v : Int, r = some (0, v) ∧ 0 ≤ v ∧ v ≤ 1 ∧ ((1 ≤ v ∧ v ≤ 1) → rd M' 6 6 = 1)
set_option maxRecDepth 100000 in
set_option maxHeartbeats 4000000 in
theorem sp_X5_fact_6_w10 {l : Launch} {K : EC} {M0 : Mem} {xq : Int} (hI : In Tru M0) (hE : e_all K xq) (en_6_2 : rd M0 6 2 = 2) (en_6_3 : rd M0 6 3 = 7) (en_6_4 : rd M0 6 4 = 15) (en_6_6 : rd M0 6 6 = 1)   : Tr l K 35 mX5_fact 0 [(0, (2, 6))] [] M0 (q_X5_fact_6_w10 M0) := by
  have hS : St Tru ws_X5_fact_6_w10 as_X5_fact_6_w10 M0 M0 := St.rf hI
  refine Tr.iconst (pc := 0) d_X5_fact_0 (by decide) ?_
  refine Tr.istore_n (pc := 1) (i := 1) (ls2 := [(1, (0, 0)), (0, (2, 6))]) d_X5_fact_1 rfl (by decide) rfl ?_
  refine Tr.iconst (pc := 2) d_X5_fact_2 (by decide) ?_
  refine Tr.istore_n (pc := 3) (i := 2) (ls2 := [(2, (0, 0)), (1, (0, 0)), (0, (2, 6))]) d_X5_fact_3 rfl (by decide) rfl ?_
  have J4 : ∀ (n4 : Nat) (M : Mem) (p4_1 p4_2 : Int), St Tru ws_X5_fact_6_w10 as_X5_fact_6_w10 M0 M → (0 ≤ p4_1 ∧ p4_1 ≤ 1) → (0 ≤ p4_2 ∧ p4_2 ≤ 900) → rd M 6 6 = 1 → (900 - p4_2).toNat < n4 → Tr l K 35 mX5_fact 4 [(0, (2, 6)), (1, (0, p4_1)), (2, (0, p4_2))] [] M (q_X5_fact_6_w10 M0) := by
    intro n4
    induction n4 with
    | zero => intro M p4_1 p4_2 hS bp4_1 bp4_2 k4_6_6 hm4; exact absurd hm4 (Nat.not_lt_zero _)
    | succ n4 J4 =>
      intro M p4_1 p4_2 hS bp4_1 bp4_2 k4_6_6 hm4
      refine Tr.iload_n (pc := 4) (i := 2) d_X5_fact_4 rfl rfl ?_
      refine Tr.sipush (pc := 5) d_X5_fact_5 rfl (by decide) ?_
      have J41 : ∀ (M : Mem), St Tru ws_X5_fact_6_w10 as_X5_fact_6_w10 M0 M → rd M 6 6 = 1 → Tr l K 35 mX5_fact 41 [(0, (2, 6)), (1, (0, p4_1))] [] M (q_X5_fact_6_w10 M0) := by
        intro M  hS  k41_6_6
        refine Tr.aload_n (pc := 41) (i := 0) d_X5_fact_41 rfl rfl ?_
        refine Tr.callV (pc := 42) (as := []) d_X5_fact_42 s_5_221 ok_X5_plainFact rfl rfl (Nat.le_of_ble_eq_true rfl) (Nat.le_of_ble_eq_true rfl) (by decide) (ty_6 hS.1.1) ?_
        refine Tr.imp (Tr.deep (by decide) (sp_X5_plainFact_6_w10 hS.1 hE ((St.kp hS (by decide) (by decide) (by decide)).trans en_6_2) ((St.kp hS (by decide) (by decide) (by decide)).trans en_6_3) ((St.kp hS (by decide) (by decide) (by decide)).trans en_6_4) k41_6_6)) ?_
        rintro M42 _ ⟨h42, r42, rfl, lr42, ur42, x42_6_6⟩
        have hS := St.tr hS h42 (by decide) (by decide)
        refine Tr.sc [(0, r42)] rfl ?_
        refine Tr.istore_n (pc := 45) (i := 2) (ls2 := [(2, (0, r42)), (0, (2, 6)), (1, (0, p4_1))]) d_X5_fact_45 rfl (by decide) rfl ?_
        refine Tr.iload_n (pc := 46) (i := 1) d_X5_fact_46 rfl rfl ?_
        refine Tr.if_eq (pc := 47) (tgt := 59) d_X5_fact_47 rfl (fun c47 => ?_) (fun c47 => ?_)
        · refine Tr.iload_n (pc := 59) (i := 2) d_X5_fact_59 rfl rfl ?_
          exact Tr.zret (pc := 60) d_X5_fact_60 rfl (by omega) ⟨hS, _, rfl, by omega, by omega, fun hq => (x42_6_6 (by omega))⟩
        · refine Tr.aload_n (pc := 50) (i := 0) d_X5_fact_50 rfl rfl ?_
          refine Tr.getf (pc := 51) d_X5_fact_51 f_5_32 (by decide) (by decide) (ty_6 hS.1.1) ?_
          refine Tr.tp 15 ((St.kp hS (by decide) (by decide) (by decide)).trans en_6_4) ?_
          refine Tr.iconst (pc := 54) d_X5_fact_54 (by decide) ?_
          refine Tr.iconst (pc := 55) d_X5_fact_55 (by decide) ?_
          refine Tr.callV (pc := 56) (as := [_, _]) d_X5_fact_56 s_5_215 ok_X4_emit rfl rfl (Nat.le_of_ble_eq_true rfl) (Nat.le_of_ble_eq_true rfl) (by decide) (ty_15 hS.1.1) ?_
          refine Tr.imp (Tr.deep (by decide) (sp_X4_emit_15_w7 hS.1.wk 5 (by omega) 0 (by omega) (by omega))) ?_
          rintro M56 _ ⟨h56, rfl⟩
          have hS := St.tr hS h56 (by decide) (by decide)
          refine Tr.sc [] rfl ?_
          refine Tr.iload_n (pc := 59) (i := 2) d_X5_fact_59 rfl rfl ?_
          exact Tr.zret (pc := 60) d_X5_fact_60 rfl (by omega) ⟨hS, _, rfl, by omega, by omega, fun hq => ((St.kp h56 (by decide) (by decide) (by decide)).trans (x42_6_6 (by omega)))⟩
      refine Tr.icmp_ge (pc := 8) (tgt := 41) d_X5_fact_8 rfl (fun c8 => ?_) (fun c8 => ?_)
      · refine Tr.pick [0, 1] (ls2 := [(0, (2, 6)), (1, (0, p4_1))]) rfl ?_
        exact J41 _ hS k4_6_6
      · refine Tr.aload_n (pc := 11) (i := 0) d_X5_fact_11 rfl rfl ?_
        refine Tr.bipush (pc := 12) d_X5_fact_12 rfl (by decide) ?_
        refine Tr.callV (pc := 14) (as := [_]) d_X5_fact_14 s_5_71 ok_X5_isOwn rfl rfl (Nat.le_of_ble_eq_true rfl) (Nat.le_of_ble_eq_true rfl) (by decide) (ty_6 hS.1.1) ?_
        refine Tr.imp (Tr.deep (by decide) (sp_X5_isOwn_6_w4 hS.1 ((St.kp hS (by decide) (by decide) (by decide)).trans en_6_2) 21 (by omega))) ?_
        rintro M14 _ ⟨h14, r14, rfl, lr14, ur14⟩
        have hS := St.tr hS h14 (by decide) (by decide)
        refine Tr.sc [(0, r14)] rfl ?_
        refine Tr.if_eq (pc := 17) (tgt := 41) d_X5_fact_17 rfl (fun c17 => ?_) (fun c17 => ?_)
        · refine Tr.pick [0, 1] (ls2 := [(0, (2, 6)), (1, (0, p4_1))]) rfl ?_
          exact J41 _ hS ((St.kp h14 (by decide) (by decide) (by decide)).trans k4_6_6)
        · refine Tr.aload_n (pc := 20) (i := 0) d_X5_fact_20 rfl rfl ?_
          refine Tr.callV (pc := 21) (as := []) d_X5_fact_21 s_5_74 ok_X5_goOn rfl rfl (Nat.le_of_ble_eq_true rfl) (Nat.le_of_ble_eq_true rfl) (by decide) (ty_6 hS.1.1) ?_
          refine Tr.imp (Tr.deep (by decide) (sp_X5_goOn_6 hS.1 )) ?_
          rintro M21 _ ⟨h21, r21, rfl, lr21, ur21⟩
          have hS := St.tr hS h21 (by decide) (by decide)
          refine Tr.sc [(0, r21)] rfl ?_
          refine Tr.pop (pc := 24) d_X5_fact_24 ne01 ?_
          refine Tr.iload_n (pc := 25) (i := 1) d_X5_fact_25 rfl rfl ?_
          have J34 : ∀ (M : Mem) (q34_0 : Int), St Tru ws_X5_fact_6_w10 as_X5_fact_6_w10 M0 M → (0 ≤ q34_0 ∧ q34_0 ≤ 1) → rd M 6 6 = 1 → Tr l K 35 mX5_fact 34 [(0, (2, 6)), (2, (0, p4_2))] [(0, q34_0)] M (q_X5_fact_6_w10 M0) := by
            intro M q34_0 hS bq34_0 k34_6_6
            refine Tr.istore_n (pc := 34) (i := 1) (ls2 := [(1, (0, q34_0)), (0, (2, 6)), (2, (0, p4_2))]) d_X5_fact_34 rfl (by decide) rfl ?_
            refine Tr.iincV (pc := 35) (n2 := (p4_2 + 1)) (ls2 := [(2, (0, (p4_2 + 1))), (1, (0, q34_0)), (0, (2, 6))]) d_X5_fact_35 rfl (by decide) ((w32_id (by omega)).trans (by omega)) rfl ?_
            refine Tr.goto (pc := 38) (tgt := 4) d_X5_fact_38 rfl ?_
            refine Tr.pick [2, 1, 0] (ls2 := [(0, (2, 6)), (1, (0, q34_0)), (2, (0, (p4_2 + 1)))]) rfl ?_
            exact J4 _ _ _ hS (by omega) (by omega) k34_6_6 (by omega)
          refine Tr.if_ne (pc := 26) (tgt := 33) d_X5_fact_26 rfl (fun c26 => ?_) (fun c26 => ?_)
          · refine Tr.iconst (pc := 33) d_X5_fact_33 (by decide) ?_
            refine Tr.pick [0, 2] (ls2 := [(0, (2, 6)), (2, (0, p4_2))]) rfl ?_
            exact J34 _ _ hS (by omega) ((St.kp h21 (by decide) (by decide) (by decide)).trans ((St.kp h14 (by decide) (by decide) (by decide)).trans k4_6_6))
          · refine Tr.iconst (pc := 29) d_X5_fact_29 (by decide) ?_
            refine Tr.goto (pc := 30) (tgt := 34) d_X5_fact_30 rfl ?_
            refine Tr.pick [0, 2] (ls2 := [(0, (2, 6)), (2, (0, p4_2))]) rfl ?_
            exact J34 _ _ hS (by omega) ((St.kp h21 (by decide) (by decide) (by decide)).trans ((St.kp h14 (by decide) (by decide) (by decide)).trans k4_6_6))
  refine Tr.pick [2, 1, 0] (ls2 := [(0, (2, 6)), (1, (0, 0)), (2, (0, 0))]) rfl ?_
  exact J4 _ _ _ _ hS (by omega) (by omega) en_6_6 (Nat.lt_succ_self _)

def ws_X5_both_6_w10 : List (Int × Int) := [(6, 0), (6, 1), (6, 5), (6, 6), (15, 11)]
def as_X5_both_6_w10 : List Int := [24, 25]
def q_X5_both_6_w10 (M0 M' : Mem) (r : Option PV) : Prop := St Tru ws_X5_both_6_w10 as_X5_both_6_w10 M0 M' ∧ ∃ v : Int, r = some (0, v) ∧ 0 ≤ v ∧ v ≤ 1 ∧ ((1 ≤ v ∧ v ≤ 1) → rd M' 6 6 = 1)
set_option maxRecDepth 100000 in
set_option maxHeartbeats 4000000 in
theorem sp_X5_both_6_w10 {l : Launch} {K : EC} {M0 : Mem} {xq : Int} (hI : In Tru M0) (hE : e_all K xq) (en_6_2 : rd M0 6 2 = 2) (en_6_3 : rd M0 6 3 = 7) (en_6_4 : rd M0 6 4 = 15) (en_6_6 : rd M0 6 6 = 1)   : Tr l K 36 mX5_both 0 [(0, (2, 6))] [] M0 (q_X5_both_6_w10 M0) := by
  have hS : St Tru ws_X5_both_6_w10 as_X5_both_6_w10 M0 M0 := St.rf hI
  refine Tr.aload_n (pc := 0) (i := 0) d_X5_both_0 rfl rfl ?_
  refine Tr.callV (pc := 1) (as := []) d_X5_both_1 s_5_218 ok_X5_fact rfl rfl (Nat.le_of_ble_eq_true rfl) (Nat.le_of_ble_eq_true rfl) (by decide) (ty_6 hS.1.1) ?_
  refine Tr.imp (Tr.deep (by decide) (sp_X5_fact_6_w10 hS.1 hE ((St.kp hS (by decide) (by decide) (by decide)).trans en_6_2) ((St.kp hS (by decide) (by decide) (by decide)).trans en_6_3) ((St.kp hS (by decide) (by decide) (by decide)).trans en_6_4) en_6_6)) ?_
  rintro M1 _ ⟨h1, r1, rfl, lr1, ur1, x1_6_6⟩
  have hS := St.tr hS h1 (by decide) (by decide)
  refine Tr.sc [(0, r1)] rfl ?_
  refine Tr.istore_n (pc := 4) (i := 1) (ls2 := [(1, (0, r1)), (0, (2, 6))]) d_X5_both_4 rfl (by decide) rfl ?_
  refine Tr.iconst (pc := 5) d_X5_both_5 (by decide) ?_
  refine Tr.istore_n (pc := 6) (i := 2) (ls2 := [(2, (0, 0)), (1, (0, r1)), (0, (2, 6))]) d_X5_both_6 rfl (by decide) rfl ?_
  have J7 : ∀ (n7 : Nat) (M : Mem) (p7_1 p7_2 : Int), St Tru ws_X5_both_6_w10 as_X5_both_6_w10 M0 M → (0 ≤ p7_1 ∧ p7_1 ≤ 1) → (0 ≤ p7_2 ∧ p7_2 ≤ 900) → (p7_1 = 1 → rd M 6 6 = 1) → (900 - p7_2).toNat < n7 → Tr l K 36 mX5_both 7 [(0, (2, 6)), (1, (0, p7_1)), (2, (0, p7_2))] [] M (q_X5_both_6_w10 M0) := by
    intro n7
    induction n7 with
    | zero => intro M p7_1 p7_2 hS bp7_1 bp7_2  y7_p7_1_6_60 hm7; exact absurd hm7 (Nat.not_lt_zero _)
    | succ n7 J7 =>
      intro M p7_1 p7_2 hS bp7_1 bp7_2  y7_p7_1_6_60 hm7
      have y7_p7_1_6_6 : 1 ≤ p7_1 ∧ p7_1 ≤ 1 → rd M 6 6 = 1 := fun hq => y7_p7_1_6_60 (by omega)
      refine Tr.iload_n (pc := 7) (i := 2) d_X5_both_7 rfl rfl ?_
      refine Tr.sipush (pc := 8) d_X5_both_8 rfl (by decide) ?_
      refine Tr.icmp_ge (pc := 11) (tgt := 53) d_X5_both_11 rfl (fun c11 => ?_) (fun c11 => ?_)
      · refine Tr.iload_n (pc := 53) (i := 1) d_X5_both_53 rfl rfl ?_
        exact Tr.zret (pc := 54) d_X5_both_54 rfl (by omega) ⟨hS, _, rfl, by omega, by omega, fun hq => (y7_p7_1_6_6 (by omega))⟩
      · refine Tr.iload_n (pc := 14) (i := 1) d_X5_both_14 rfl rfl ?_
        refine Tr.if_eq (pc := 15) (tgt := 53) d_X5_both_15 rfl (fun c15 => ?_) (fun c15 => ?_)
        · refine Tr.iload_n (pc := 53) (i := 1) d_X5_both_53 rfl rfl ?_
          exact Tr.zret (pc := 54) d_X5_both_54 rfl (by omega) ⟨hS, _, rfl, by omega, by omega, fun hq => absurd hq (by omega)⟩
        · refine Tr.aload_n (pc := 18) (i := 0) d_X5_both_18 rfl rfl ?_
          refine Tr.bipush (pc := 19) d_X5_both_19 rfl (by decide) ?_
          refine Tr.callV (pc := 21) (as := [_]) d_X5_both_21 s_5_71 ok_X5_isOwn rfl rfl (Nat.le_of_ble_eq_true rfl) (Nat.le_of_ble_eq_true rfl) (by decide) (ty_6 hS.1.1) ?_
          refine Tr.imp (Tr.deep (by decide) (sp_X5_isOwn_6_w3 hS.1 ((St.kp hS (by decide) (by decide) (by decide)).trans en_6_2) 20 (by omega))) ?_
          rintro M21 _ ⟨h21, r21, rfl, lr21, ur21⟩
          have hS := St.tr hS h21 (by decide) (by decide)
          refine Tr.sc [(0, r21)] rfl ?_
          refine Tr.if_eq (pc := 24) (tgt := 53) d_X5_both_24 rfl (fun c24 => ?_) (fun c24 => ?_)
          · refine Tr.iload_n (pc := 53) (i := 1) d_X5_both_53 rfl rfl ?_
            exact Tr.zret (pc := 54) d_X5_both_54 rfl (by omega) ⟨hS, _, rfl, by omega, by omega, fun _ => ((St.kp h21 (by decide) (by decide) (by decide)).trans (y7_p7_1_6_6 (by omega)))⟩
          · refine Tr.aload_n (pc := 27) (i := 0) d_X5_both_27 rfl rfl ?_
            refine Tr.callV (pc := 28) (as := []) d_X5_both_28 s_5_74 ok_X5_goOn rfl rfl (Nat.le_of_ble_eq_true rfl) (Nat.le_of_ble_eq_true rfl) (by decide) (ty_6 hS.1.1) ?_
            refine Tr.imp (Tr.deep (by decide) (sp_X5_goOn_6 hS.1 )) ?_
            rintro M28 _ ⟨h28, r28, rfl, lr28, ur28⟩
            have hS := St.tr hS h28 (by decide) (by decide)
            refine Tr.sc [(0, r28)] rfl ?_
            refine Tr.pop (pc := 31) d_X5_both_31 ne01 ?_
            refine Tr.aload_n (pc := 32) (i := 0) d_X5_both_32 rfl rfl ?_
            refine Tr.callV (pc := 33) (as := []) d_X5_both_33 s_5_218 ok_X5_fact rfl rfl (Nat.le_of_ble_eq_true rfl) (Nat.le_of_ble_eq_true rfl) (by decide) (ty_6 hS.1.1) ?_
            refine Tr.imp (Tr.deep (by decide) (sp_X5_fact_6_w10 hS.1 hE ((St.kp hS (by decide) (by decide) (by decide)).trans en_6_2) ((St.kp hS (by decide) (by decide) (by decide)).trans en_6_3) ((St.kp hS (by decide) (by decide) (by decide)).trans en_6_4) ((St.kp h28 (by decide) (by decide) (by decide)).trans ((St.kp h21 (by decide) (by decide) (by decide)).trans (y7_p7_1_6_6 (by omega)))))) ?_
            rintro M33 _ ⟨h33, r33, rfl, lr33, ur33, x33_6_6⟩
            have hS := St.tr hS h33 (by decide) (by decide)
            refine Tr.sc [(0, r33)] rfl ?_
            refine Tr.istore_n (pc := 36) (i := 1) (ls2 := [(1, (0, r33)), (0, (2, 6)), (2, (0, p7_2))]) d_X5_both_36 rfl (by decide) rfl ?_
            refine Tr.aload_n (pc := 37) (i := 0) d_X5_both_37 rfl rfl ?_
            refine Tr.getf (pc := 38) d_X5_both_38 f_5_32 (by decide) (by decide) (ty_6 hS.1.1) ?_
            refine Tr.tp 15 ((St.kp hS (by decide) (by decide) (by decide)).trans en_6_4) ?_
            refine Tr.bipush (pc := 41) d_X5_both_41 rfl (by decide) ?_
            refine Tr.iconst (pc := 43) d_X5_both_43 (by decide) ?_
            refine Tr.callV (pc := 44) (as := [_, _]) d_X5_both_44 s_5_215 ok_X4_emit rfl rfl (Nat.le_of_ble_eq_true rfl) (Nat.le_of_ble_eq_true rfl) (by decide) (ty_15 hS.1.1) ?_
            refine Tr.imp (Tr.deep (by decide) (sp_X4_emit_15_w9 hS.1.wk 16 (by omega) 0 (by omega) (by omega))) ?_
            rintro M44 _ ⟨h44, rfl⟩
            have hS := St.tr hS h44 (by decide) (by decide)
            refine Tr.sc [] rfl ?_
            refine Tr.iincV (pc := 47) (n2 := (p7_2 + 1)) (ls2 := [(2, (0, (p7_2 + 1))), (1, (0, r33)), (0, (2, 6))]) d_X5_both_47 rfl (by decide) ((w32_id (by omega)).trans (by omega)) rfl ?_
            refine Tr.goto (pc := 50) (tgt := 7) d_X5_both_50 rfl ?_
            refine Tr.pick [2, 1, 0] (ls2 := [(0, (2, 6)), (1, (0, r33)), (2, (0, (p7_2 + 1)))]) rfl ?_
            exact J7 _ _ _ hS (by omega) (by omega) (fun hq => ((St.kp h44 (by decide) (by decide) (by decide)).trans (x33_6_6 (by omega)))) (by omega)
  refine Tr.pick [2, 1, 0] (ls2 := [(0, (2, 6)), (1, (0, r1)), (2, (0, 0))]) rfl ?_
  exact J7 _ _ _ _ hS (by omega) (by omega) (fun hq => (x1_6_6 (by omega))) (Nat.lt_succ_self _)

def ws_X5_test_6_w10 : List (Int × Int) := [(6, 0), (6, 1), (6, 5), (6, 6), (15, 11)]
def as_X5_test_6_w10 : List Int := [24, 25]
def q_X5_test_6_w10 (M0 M' : Mem) (r : Option PV) : Prop := St Tru ws_X5_test_6_w10 as_X5_test_6_w10 M0 M' ∧ ∃ v : Int, r = some (0, v) ∧ 0 ≤ v ∧ v ≤ 1 ∧ ((1 ≤ v ∧ v ≤ 1) → rd M' 6 6 = 1)
set_option maxRecDepth 100000 in
set_option maxHeartbeats 4000000 in
theorem sp_X5_test_6_w10 {l : Launch} {K : EC} {M0 : Mem} {xq : Int} (hI : In Tru M0) (hE : e_all K xq) (en_6_2 : rd M0 6 2 = 2) (en_6_3 : rd M0 6 3 = 7) (en_6_4 : rd M0 6 4 = 15) (en_6_6 : rd M0 6 6 = 1)   : Tr l K 37 mX5_test 0 [(0, (2, 6))] [] M0 (q_X5_test_6_w10 M0) := by
  have hS : St Tru ws_X5_test_6_w10 as_X5_test_6_w10 M0 M0 := St.rf hI
  refine Tr.aload_n (pc := 0) (i := 0) d_X5_test_0 rfl rfl ?_
  refine Tr.callV (pc := 1) (as := []) d_X5_test_1 s_5_212 ok_X5_both rfl rfl (Nat.le_of_ble_eq_true rfl) (Nat.le_of_ble_eq_true rfl) (by decide) (ty_6 hS.1.1) ?_
  refine Tr.imp (Tr.deep (by decide) (sp_X5_both_6_w10 hS.1 hE ((St.kp hS (by decide) (by decide) (by decide)).trans en_6_2) ((St.kp hS (by decide) (by decide) (by decide)).trans en_6_3) ((St.kp hS (by decide) (by decide) (by decide)).trans en_6_4) en_6_6)) ?_
  rintro M1 _ ⟨h1, r1, rfl, lr1, ur1, x1_6_6⟩
  have hS := St.tr hS h1 (by decide) (by decide)
  refine Tr.sc [(0, r1)] rfl ?_
  refine Tr.istore_n (pc := 4) (i := 1) (ls2 := [(1, (0, r1)), (0, (2, 6))]) d_X5_test_4 rfl (by decide) rfl ?_
  refine Tr.iconst (pc := 5) d_X5_test_5 (by decide) ?_
  refine Tr.istore_n (pc := 6) (i := 2) (ls2 := [(2, (0, 0)), (1, (0, r1)), (0, (2, 6))]) d_X5_test_6 rfl (by decide) rfl ?_
  have J7 : ∀ (n7 : Nat) (M : Mem) (p7_1 p7_2 : Int), St Tru ws_X5_test_6_w10 as_X5_test_6_w10 M0 M → (0 ≤ p7_1 ∧ p7_1 ≤ 1) → (0 ≤ p7_2 ∧ p7_2 ≤ 900) → (p7_1 = 1 → rd M 6 6 = 1) → (900 - p7_2).toNat < n7 → Tr l K 37 mX5_test 7 [(0, (2, 6)), (1, (0, p7_1)), (2, (0, p7_2))] [] M (q_X5_test_6_w10 M0) := by
    intro n7
    induction n7 with
    | zero => intro M p7_1 p7_2 hS bp7_1 bp7_2  y7_p7_1_6_60 hm7; exact absurd hm7 (Nat.not_lt_zero _)
    | succ n7 J7 =>
      intro M p7_1 p7_2 hS bp7_1 bp7_2  y7_p7_1_6_60 hm7
      have y7_p7_1_6_6 : 1 ≤ p7_1 ∧ p7_1 ≤ 1 → rd M 6 6 = 1 := fun hq => y7_p7_1_6_60 (by omega)
      refine Tr.iload_n (pc := 7) (i := 2) d_X5_test_7 rfl rfl ?_
      refine Tr.sipush (pc := 8) d_X5_test_8 rfl (by decide) ?_
      refine Tr.icmp_ge (pc := 11) (tgt := 53) d_X5_test_11 rfl (fun c11 => ?_) (fun c11 => ?_)
      · refine Tr.iload_n (pc := 53) (i := 1) d_X5_test_53 rfl rfl ?_
        exact Tr.zret (pc := 54) d_X5_test_54 rfl (by omega) ⟨hS, _, rfl, by omega, by omega, fun hq => (y7_p7_1_6_6 (by omega))⟩
      · refine Tr.iload_n (pc := 14) (i := 1) d_X5_test_14 rfl rfl ?_
        refine Tr.if_eq (pc := 15) (tgt := 53) d_X5_test_15 rfl (fun c15 => ?_) (fun c15 => ?_)
        · refine Tr.iload_n (pc := 53) (i := 1) d_X5_test_53 rfl rfl ?_
          exact Tr.zret (pc := 54) d_X5_test_54 rfl (by omega) ⟨hS, _, rfl, by omega, by omega, fun hq => absurd hq (by omega)⟩
        · refine Tr.aload_n (pc := 18) (i := 0) d_X5_test_18 rfl rfl ?_
          refine Tr.bipush (pc := 19) d_X5_test_19 rfl (by decide) ?_
          refine Tr.callV (pc := 21) (as := [_]) d_X5_test_21 s_5_71 ok_X5_isOwn rfl rfl (Nat.le_of_ble_eq_true rfl) (Nat.le_of_ble_eq_true rfl) (by decide) (ty_6 hS.1.1) ?_
          refine Tr.imp (Tr.deep (by decide) (sp_X5_isOwn_6_w3 hS.1 ((St.kp hS (by decide) (by decide) (by decide)).trans en_6_2) 19 (by omega))) ?_
          rintro M21 _ ⟨h21, r21, rfl, lr21, ur21⟩
          have hS := St.tr hS h21 (by decide) (by decide)
          refine Tr.sc [(0, r21)] rfl ?_
          refine Tr.if_eq (pc := 24) (tgt := 53) d_X5_test_24 rfl (fun c24 => ?_) (fun c24 => ?_)
          · refine Tr.iload_n (pc := 53) (i := 1) d_X5_test_53 rfl rfl ?_
            exact Tr.zret (pc := 54) d_X5_test_54 rfl (by omega) ⟨hS, _, rfl, by omega, by omega, fun _ => ((St.kp h21 (by decide) (by decide) (by decide)).trans (y7_p7_1_6_6 (by omega)))⟩
          · refine Tr.aload_n (pc := 27) (i := 0) d_X5_test_27 rfl rfl ?_
            refine Tr.callV (pc := 28) (as := []) d_X5_test_28 s_5_74 ok_X5_goOn rfl rfl (Nat.le_of_ble_eq_true rfl) (Nat.le_of_ble_eq_true rfl) (by decide) (ty_6 hS.1.1) ?_
            refine Tr.imp (Tr.deep (by decide) (sp_X5_goOn_6 hS.1 )) ?_
            rintro M28 _ ⟨h28, r28, rfl, lr28, ur28⟩
            have hS := St.tr hS h28 (by decide) (by decide)
            refine Tr.sc [(0, r28)] rfl ?_
            refine Tr.pop (pc := 31) d_X5_test_31 ne01 ?_
            refine Tr.aload_n (pc := 32) (i := 0) d_X5_test_32 rfl rfl ?_
            refine Tr.callV (pc := 33) (as := []) d_X5_test_33 s_5_212 ok_X5_both rfl rfl (Nat.le_of_ble_eq_true rfl) (Nat.le_of_ble_eq_true rfl) (by decide) (ty_6 hS.1.1) ?_
            refine Tr.imp (Tr.deep (by decide) (sp_X5_both_6_w10 hS.1 hE ((St.kp hS (by decide) (by decide) (by decide)).trans en_6_2) ((St.kp hS (by decide) (by decide) (by decide)).trans en_6_3) ((St.kp hS (by decide) (by decide) (by decide)).trans en_6_4) ((St.kp h28 (by decide) (by decide) (by decide)).trans ((St.kp h21 (by decide) (by decide) (by decide)).trans (y7_p7_1_6_6 (by omega)))))) ?_
            rintro M33 _ ⟨h33, r33, rfl, lr33, ur33, x33_6_6⟩
            have hS := St.tr hS h33 (by decide) (by decide)
            refine Tr.sc [(0, r33)] rfl ?_
            refine Tr.istore_n (pc := 36) (i := 1) (ls2 := [(1, (0, r33)), (0, (2, 6)), (2, (0, p7_2))]) d_X5_test_36 rfl (by decide) rfl ?_
            refine Tr.aload_n (pc := 37) (i := 0) d_X5_test_37 rfl rfl ?_
            refine Tr.getf (pc := 38) d_X5_test_38 f_5_32 (by decide) (by decide) (ty_6 hS.1.1) ?_
            refine Tr.tp 15 ((St.kp hS (by decide) (by decide) (by decide)).trans en_6_4) ?_
            refine Tr.bipush (pc := 41) d_X5_test_41 rfl (by decide) ?_
            refine Tr.iconst (pc := 43) d_X5_test_43 (by decide) ?_
            refine Tr.callV (pc := 44) (as := [_, _]) d_X5_test_44 s_5_215 ok_X4_emit rfl rfl (Nat.le_of_ble_eq_true rfl) (Nat.le_of_ble_eq_true rfl) (by decide) (ty_15 hS.1.1) ?_
            refine Tr.imp (Tr.deep (by decide) (sp_X4_emit_15_w10 hS.1.wk 17 (by omega) 0 (by omega) (by omega))) ?_
            rintro M44 _ ⟨h44, rfl⟩
            have hS := St.tr hS h44 (by decide) (by decide)
            refine Tr.sc [] rfl ?_
            refine Tr.iincV (pc := 47) (n2 := (p7_2 + 1)) (ls2 := [(2, (0, (p7_2 + 1))), (1, (0, r33)), (0, (2, 6))]) d_X5_test_47 rfl (by decide) ((w32_id (by omega)).trans (by omega)) rfl ?_
            refine Tr.goto (pc := 50) (tgt := 7) d_X5_test_50 rfl ?_
            refine Tr.pick [2, 1, 0] (ls2 := [(0, (2, 6)), (1, (0, r33)), (2, (0, (p7_2 + 1)))]) rfl ?_
            exact J7 _ _ _ hS (by omega) (by omega) (fun hq => ((St.kp h44 (by decide) (by decide) (by decide)).trans (x33_6_6 (by omega)))) (by omega)
  refine Tr.pick [2, 1, 0] (ls2 := [(0, (2, 6)), (1, (0, r1)), (2, (0, 0))]) rfl ?_
  exact J7 _ _ _ _ hS (by omega) (by omega) (fun hq => (x1_6_6 (by omega))) (Nat.lt_succ_self _)

def ws_X5_plainFact_6_w9 : List (Int × Int) := [(6, 0), (6, 1), (6, 5), (6, 6), (15, 11)]
def as_X5_plainFact_6_w9 : List Int := [24, 25]
def q_X5_plainFact_6_w9 (M0 M' : Mem) (r : Option PV) : Prop := St Tru ws_X5_plainFact_6_w9 as_X5_plainFact_6_w9 M0 M' ∧ ∃ v : Int, r = some (0, v) ∧ 0 ≤ v ∧ v ≤ 1 ∧ ((1 ≤ v ∧ v ≤ 1) → rd M' 6 6 = 0)
set_option maxRecDepth 100000 in
set_option maxHeartbeats 4000000 in
theorem sp_X5_plainFact_6_w9 {l : Launch} {K : EC} {M0 : Mem} {xq : Int} (hI : In Tru M0) (hE : e_all K xq) (en_6_2 : rd M0 6 2 = 2) (en_6_3 : rd M0 6 3 = 7) (en_6_4 : rd M0 6 4 = 15) (en_6_6 : rd M0 6 6 = 0)   : Tr l K 38 mX5_plainFact 0 [(0, (2, 6))] [] M0 (q_X5_plainFact_6_w9 M0) := by
  have hS : St Tru ws_X5_plainFact_6_w9 as_X5_plainFact_6_w9 M0 M0 := St.rf hI
  refine Tr.aload_n (pc := 0) (i := 0) d_X5_plainFact_0 rfl rfl ?_
  refine Tr.bipush (pc := 1) d_X5_plainFact_1 rfl (by decide) ?_
  refine Tr.callV (pc := 3) (as := [_]) d_X5_plainFact_3 s_5_77 ok_X5_isSign rfl rfl (Nat.le_of_ble_eq_true rfl) (Nat.le_of_ble_eq_true rfl) (by decide) (ty_6 hS.1.1) ?_
  refine Tr.imp (Tr.deep (by decide) (sp_X5_isSign_6_w1 hS.1 ((St.kp hS (by decide) (by decide) (by decide)).trans en_6_2) 91 (by omega))) ?_
  rintro M3 _ ⟨h3, r3, rfl, lr3, ur3⟩
  have hS := St.tr hS h3 (by decide) (by decide)
  refine Tr.sc [(0, r3)] rfl ?_
  refine Tr.if_eq (pc := 6) (tgt := 40) d_X5_plainFact_6 rfl (fun c6 => ?_) (fun c6 => ?_)
  · refine Tr.aload_n (pc := 40) (i := 0) d_X5_plainFact_40 rfl rfl ?_
    refine Tr.bipush (pc := 41) d_X5_plainFact_41 rfl (by decide) ?_
    refine Tr.callV (pc := 43) (as := [_]) d_X5_plainFact_43 s_5_71 ok_X5_isOwn rfl rfl (Nat.le_of_ble_eq_true rfl) (Nat.le_of_ble_eq_true rfl) (by decide) (ty_6 hS.1.1) ?_
    refine Tr.imp (Tr.deep (by decide) (sp_X5_isOwn_6_w4 hS.1 ((St.kp hS (by decide) (by decide) (by decide)).trans en_6_2) 22 (by omega))) ?_
    rintro M43 _ ⟨h43, r43, rfl, lr43, ur43⟩
    have hS := St.tr hS h43 (by decide) (by decide)
    refine Tr.sc [(0, r43)] rfl ?_
    refine Tr.if_eq (pc := 46) (tgt := 63) d_X5_plainFact_46 rfl (fun c46 => ?_) (fun c46 => ?_)
    · refine Tr.aload_n (pc := 63) (i := 0) d_X5_plainFact_63 rfl rfl ?_
      refine Tr.bipush (pc := 64) d_X5_plainFact_64 rfl (by decide) ?_
      refine Tr.callV (pc := 66) (as := [_]) d_X5_plainFact_66 s_5_71 ok_X5_isOwn rfl rfl (Nat.le_of_ble_eq_true rfl) (Nat.le_of_ble_eq_true rfl) (by decide) (ty_6 hS.1.1) ?_
      refine Tr.imp (Tr.deep (by decide) (sp_X5_isOwn_6_w4 hS.1 ((St.kp hS (by decide) (by decide) (by decide)).trans en_6_2) 23 (by omega))) ?_
      rintro M66 _ ⟨h66, r66, rfl, lr66, ur66⟩
      have hS := St.tr hS h66 (by decide) (by decide)
      refine Tr.sc [(0, r66)] rfl ?_
      refine Tr.if_eq (pc := 69) (tgt := 106) d_X5_plainFact_69 rfl (fun c69 => ?_) (fun c69 => ?_)
      · refine Tr.aload_n (pc := 106) (i := 0) d_X5_plainFact_106 rfl rfl ?_
        refine Tr.callV (pc := 107) (as := []) d_X5_plainFact_107 s_5_174 ok_X5_sum rfl rfl (Nat.le_of_ble_eq_true rfl) (Nat.le_of_ble_eq_true rfl) (by decide) (ty_6 hS.1.1) ?_
        refine Tr.imp (Tr.deep (by decide) (sp_X5_sum_6_w9 hS.1 hE ((St.kp hS (by decide) (by decide) (by decide)).trans en_6_2) ((St.kp hS (by decide) (by decide) (by decide)).trans en_6_3) ((St.kp hS (by decide) (by decide) (by decide)).trans en_6_4) ((St.kp h66 (by decide) (by decide) (by decide)).trans ((St.kp h43 (by decide) (by decide) (by decide)).trans ((St.kp h3 (by decide) (by decide) (by decide)).trans en_6_6))))) ?_
        rintro M107 _ ⟨h107, r107, rfl, lr107, ur107, x107_6_6⟩
        have hS := St.tr hS h107 (by decide) (by decide)
        refine Tr.sc [(0, r107)] rfl ?_
        refine Tr.if_ne (pc := 110) (tgt := 115) d_X5_plainFact_110 rfl (fun c110 => ?_) (fun c110 => ?_)
        · refine Tr.aload_n (pc := 115) (i := 0) d_X5_plainFact_115 rfl rfl ?_
          refine Tr.bipush (pc := 116) d_X5_plainFact_116 rfl (by decide) ?_
          refine Tr.callV (pc := 118) (as := [_]) d_X5_plainFact_118 s_5_77 ok_X5_isSign rfl rfl (Nat.le_of_ble_eq_true rfl) (Nat.le_of_ble_eq_true rfl) (by decide) (ty_6 hS.1.1) ?_
          refine Tr.imp (Tr.deep (by decide) (sp_X5_isSign_6_w3 hS.1 ((St.kp hS (by decide) (by decide) (by decide)).trans en_6_2) 60 (by omega))) ?_
          rintro M118 _ ⟨h118, r118, rfl, lr118, ur118⟩
          have hS := St.tr hS h118 (by decide) (by decide)
          refine Tr.sc [(0, r118)] rfl ?_
          have J158 : ∀ (M : Mem) (q158_0 : Int), St Tru ws_X5_plainFact_6_w9 as_X5_plainFact_6_w9 M0 M → ((-1) ≤ q158_0 ∧ q158_0 ≤ 15) → rd M 6 6 = 0 → Tr l K 38 mX5_plainFact 158 [(0, (2, 6))] [(0, q158_0)] M (q_X5_plainFact_6_w9 M0) := by
            intro M q158_0 hS bq158_0 k158_6_6
            refine Tr.istore_n (pc := 158) (i := 1) (ls2 := [(1, (0, q158_0)), (0, (2, 6))]) d_X5_plainFact_158 rfl (by decide) rfl ?_
            refine Tr.iload_n (pc := 159) (i := 1) d_X5_plainFact_159 rfl rfl ?_
            refine Tr.if_ge (pc := 160) (tgt := 169) d_X5_plainFact_160 rfl (fun c160 => ?_) (fun c160 => ?_)
            · refine Tr.aload_n (pc := 169) (i := 0) d_X5_plainFact_169 rfl rfl ?_
              refine Tr.callV (pc := 170) (as := []) d_X5_plainFact_170 s_5_74 ok_X5_goOn rfl rfl (Nat.le_of_ble_eq_true rfl) (Nat.le_of_ble_eq_true rfl) (by decide) (ty_6 hS.1.1) ?_
              refine Tr.imp (Tr.deep (by decide) (sp_X5_goOn_6 hS.1 )) ?_
              rintro M170 _ ⟨h170, r170, rfl, lr170, ur170⟩
              have hS := St.tr hS h170 (by decide) (by decide)
              refine Tr.sc [(0, r170)] rfl ?_
              refine Tr.pop (pc := 173) d_X5_plainFact_173 ne01 ?_
              refine Tr.aload_n (pc := 174) (i := 0) d_X5_plainFact_174 rfl rfl ?_
              refine Tr.callV (pc := 175) (as := []) d_X5_plainFact_175 s_5_174 ok_X5_sum rfl rfl (Nat.le_of_ble_eq_true rfl) (Nat.le_of_ble_eq_true rfl) (by decide) (ty_6 hS.1.1) ?_
              refine Tr.imp (Tr.deep (by decide) (sp_X5_sum_6_w9 hS.1 hE ((St.kp hS (by decide) (by decide) (by decide)).trans en_6_2) ((St.kp hS (by decide) (by decide) (by decide)).trans en_6_3) ((St.kp hS (by decide) (by decide) (by decide)).trans en_6_4) ((St.kp h170 (by decide) (by decide) (by decide)).trans k158_6_6))) ?_
              rintro M175 _ ⟨h175, r175, rfl, lr175, ur175, x175_6_6⟩
              have hS := St.tr hS h175 (by decide) (by decide)
              refine Tr.sc [(0, r175)] rfl ?_
              refine Tr.istore_n (pc := 178) (i := 2) (ls2 := [(2, (0, r175)), (1, (0, q158_0)), (0, (2, 6))]) d_X5_plainFact_178 rfl (by decide) rfl ?_
              refine Tr.aload_n (pc := 179) (i := 0) d_X5_plainFact_179 rfl rfl ?_
              refine Tr.getf (pc := 180) d_X5_plainFact_180 f_5_32 (by decide) (by decide) (ty_6 hS.1.1) ?_
              refine Tr.tp 15 ((St.kp hS (by decide) (by decide) (by decide)).trans en_6_4) ?_
              refine Tr.iload_n (pc := 183) (i := 1) d_X5_plainFact_183 rfl rfl ?_
              refine Tr.iconst (pc := 184) d_X5_plainFact_184 (by decide) ?_
              refine Tr.callV (pc := 185) (as := [_, _]) d_X5_plainFact_185 s_5_215 ok_X4_emit rfl rfl (Nat.le_of_ble_eq_true rfl) (Nat.le_of_ble_eq_true rfl) (by decide) (ty_15 hS.1.1) ?_
              refine Tr.imp (Tr.deep (by decide) (sp_X4_emit_15_w8 hS.1.wk q158_0 (by omega) 0 (by omega) (by omega))) ?_
              rintro M185 _ ⟨h185, rfl⟩
              have hS := St.tr hS h185 (by decide) (by decide)
              refine Tr.sc [] rfl ?_
              refine Tr.iload_n (pc := 188) (i := 2) d_X5_plainFact_188 rfl rfl ?_
              exact Tr.zret (pc := 189) d_X5_plainFact_189 rfl (by omega) ⟨hS, _, rfl, by omega, by omega, fun hq => ((St.kp h185 (by decide) (by decide) (by decide)).trans (x175_6_6 (by omega)))⟩
            · refine Tr.aload_n (pc := 163) (i := 0) d_X5_plainFact_163 rfl rfl ?_
              refine Tr.iconst (pc := 164) d_X5_plainFact_164 (by decide) ?_
              refine Tr.callV (pc := 165) (as := [_]) d_X5_plainFact_165 s_5_56 ok_X5_refuse rfl rfl (Nat.le_of_ble_eq_true rfl) (Nat.le_of_ble_eq_true rfl) (by decide) (ty_6 hS.1.1) ?_
              refine Tr.imp (Tr.deep (by decide) (sp_X5_refuse_6_w1 hS.1 ((St.kp hS (by decide) (by decide) (by decide)).trans en_6_2) 1 (by omega))) ?_
              rintro M165 _ ⟨h165, r165, rfl, lr165, ur165⟩
              have hS := St.tr hS h165 (by decide) (by decide)
              refine Tr.sc [(0, r165)] rfl ?_
              exact Tr.zret (pc := 168) d_X5_plainFact_168 rfl (by omega) ⟨hS, _, rfl, by omega, by omega, fun hq => absurd hq (by omega)⟩
          refine Tr.if_eq (pc := 121) (tgt := 129) d_X5_plainFact_121 rfl (fun c121 => ?_) (fun c121 => ?_)
          · refine Tr.aload_n (pc := 129) (i := 0) d_X5_plainFact_129 rfl rfl ?_
            refine Tr.bipush (pc := 130) d_X5_plainFact_130 rfl (by decide) ?_
            refine Tr.callV (pc := 132) (as := [_]) d_X5_plainFact_132 s_5_77 ok_X5_isSign rfl rfl (Nat.le_of_ble_eq_true rfl) (Nat.le_of_ble_eq_true rfl) (by decide) (ty_6 hS.1.1) ?_
            refine Tr.imp (Tr.deep (by decide) (sp_X5_isSign_6_w4 hS.1 ((St.kp hS (by decide) (by decide) (by decide)).trans en_6_2) 62 (by omega))) ?_
            rintro M132 _ ⟨h132, r132, rfl, lr132, ur132⟩
            have hS := St.tr hS h132 (by decide) (by decide)
            refine Tr.sc [(0, r132)] rfl ?_
            refine Tr.if_eq (pc := 135) (tgt := 143) d_X5_plainFact_135 rfl (fun c135 => ?_) (fun c135 => ?_)
            · refine Tr.aload_n (pc := 143) (i := 0) d_X5_plainFact_143 rfl rfl ?_
              refine Tr.bipush (pc := 144) d_X5_plainFact_144 rfl (by decide) ?_
              refine Tr.callV (pc := 146) (as := [_]) d_X5_plainFact_146 s_5_77 ok_X5_isSign rfl rfl (Nat.le_of_ble_eq_true rfl) (Nat.le_of_ble_eq_true rfl) (by decide) (ty_6 hS.1.1) ?_
              refine Tr.imp (Tr.deep (by decide) (sp_X5_isSign_6_w4 hS.1 ((St.kp hS (by decide) (by decide) (by decide)).trans en_6_2) 61 (by omega))) ?_
              rintro M146 _ ⟨h146, r146, rfl, lr146, ur146⟩
              have hS := St.tr hS h146 (by decide) (by decide)
              refine Tr.sc [(0, r146)] rfl ?_
              refine Tr.if_eq (pc := 149) (tgt := 157) d_X5_plainFact_149 rfl (fun c149 => ?_) (fun c149 => ?_)
              · refine Tr.iconst (pc := 157) d_X5_plainFact_157 (by decide) ?_
                refine Tr.pick [0] (ls2 := [(0, (2, 6))]) rfl ?_
                exact J158 _ _ hS (by omega) ((St.kp h146 (by decide) (by decide) (by decide)).trans ((St.kp h132 (by decide) (by decide) (by decide)).trans ((St.kp h118 (by decide) (by decide) (by decide)).trans (x107_6_6 (by omega)))))
              · refine Tr.bipush (pc := 152) d_X5_plainFact_152 rfl (by decide) ?_
                refine Tr.goto (pc := 154) (tgt := 158) d_X5_plainFact_154 rfl ?_
                refine Tr.pick [0] (ls2 := [(0, (2, 6))]) rfl ?_
                exact J158 _ _ hS (by omega) ((St.kp h146 (by decide) (by decide) (by decide)).trans ((St.kp h132 (by decide) (by decide) (by decide)).trans ((St.kp h118 (by decide) (by decide) (by decide)).trans (x107_6_6 (by omega)))))
            · refine Tr.bipush (pc := 138) d_X5_plainFact_138 rfl (by decide) ?_
              refine Tr.goto (pc := 140) (tgt := 158) d_X5_plainFact_140 rfl ?_
              refine Tr.pick [0] (ls2 := [(0, (2, 6))]) rfl ?_
              exact J158 _ _ hS (by omega) ((St.kp h132 (by decide) (by decide) (by decide)).trans ((St.kp h118 (by decide) (by decide) (by decide)).trans (x107_6_6 (by omega))))
          · refine Tr.bipush (pc := 124) d_X5_plainFact_124 rfl (by decide) ?_
            refine Tr.goto (pc := 126) (tgt := 158) d_X5_plainFact_126 rfl ?_
            refine Tr.pick [0] (ls2 := [(0, (2, 6))]) rfl ?_
            exact J158 _ _ hS (by omega) ((St.kp h118 (by decide) (by decide) (by decide)).trans (x107_6_6 (by omega)))
        · refine Tr.iconst (pc := 113) d_X5_plainFact_113 (by decide) ?_
          exact Tr.zret (pc := 114) d_X5_plainFact_114 rfl (by omega) ⟨hS, _, rfl, by omega, by omega, fun hq => absurd hq (by omega)⟩
      · refine Tr.aload_n (pc := 72) (i := 0) d_X5_plainFact_72 rfl rfl ?_
        refine Tr.callV (pc := 73) (as := []) d_X5_plainFact_73 s_5_74 ok_X5_goOn rfl rfl (Nat.le_of_ble_eq_true rfl) (Nat.le_of_ble_eq_true rfl) (by decide) (ty_6 hS.1.1) ?_
        refine Tr.imp (Tr.deep (by decide) (sp_X5_goOn_6 hS.1 )) ?_
        rintro M73 _ ⟨h73, r73, rfl, lr73, ur73⟩
        have hS := St.tr hS h73 (by decide) (by decide)
        refine Tr.sc [(0, r73)] rfl ?_
        refine Tr.pop (pc := 76) d_X5_plainFact_76 ne01 ?_
        refine Tr.aload_n (pc := 77) (i := 0) d_X5_plainFact_77 rfl rfl ?_
        refine Tr.iconst (pc := 78) d_X5_plainFact_78 (by decide) ?_
        refine Tr.callV (pc := 79) (as := [_]) d_X5_plainFact_79 s_5_186 ok_X5_takeName rfl rfl (Nat.le_of_ble_eq_true rfl) (Nat.le_of_ble_eq_true rfl) (by decide) (ty_6 hS.1.1) ?_
        refine Tr.imp (Tr.deep (by decide) (sp_X5_takeName_6_v0_w1 hS.1 hE ((St.kp hS (by decide) (by decide) (by decide)).trans en_6_2) ((St.kp hS (by decide) (by decide) (by decide)).trans en_6_3))) ?_
        rintro M79 _ ⟨h79, r79, rfl, lr79, ur79⟩
        have hS := St.tr hS h79 (by decide) (by decide)
        refine Tr.sc [(0, r79)] rfl ?_
        refine Tr.istore_n (pc := 82) (i := 1) (ls2 := [(1, (0, r79)), (0, (2, 6))]) d_X5_plainFact_82 rfl (by decide) rfl ?_
        refine Tr.aload_n (pc := 83) (i := 0) d_X5_plainFact_83 rfl rfl ?_
        refine Tr.getf (pc := 84) d_X5_plainFact_84 f_5_32 (by decide) (by decide) (ty_6 hS.1.1) ?_
        refine Tr.tp 15 ((St.kp hS (by decide) (by decide) (by decide)).trans en_6_4) ?_
        refine Tr.iconst (pc := 87) d_X5_plainFact_87 (by decide) ?_
        refine Tr.iload_n (pc := 88) (i := 1) d_X5_plainFact_88 rfl rfl ?_
        refine Tr.iconst (pc := 89) d_X5_plainFact_89 (by decide) ?_
        refine Tr.mmax (pc := 90) d_X5_plainFact_90 ml_5_192 mw_mmax (Nat.le_of_ble_eq_true rfl) ?_
        refine Tr.gen (P := fun v => (v = r79 ∧ 0 ≤ r79) ∨ (v = 0 ∧ r79 ≤ 0)) (f_max_p _ _) (fun r90 er90 br90 => ?_)
        refine Tr.callV (pc := 93) (as := [_, _]) d_X5_plainFact_93 s_5_215 ok_X4_emit rfl rfl (Nat.le_of_ble_eq_true rfl) (Nat.le_of_ble_eq_true rfl) (by decide) (ty_15 hS.1.1) ?_
        refine Tr.imp (Tr.deep (by decide) (sp_X4_emit_15_w7 hS.1.wk 4 (by omega) r90 (by omega) (by omega))) ?_
        rintro M93 _ ⟨h93, rfl⟩
        have hS := St.tr hS h93 (by decide) (by decide)
        refine Tr.sc [] rfl ?_
        refine Tr.iload_n (pc := 96) (i := 1) d_X5_plainFact_96 rfl rfl ?_
        refine Tr.if_lt (pc := 97) (tgt := 104) d_X5_plainFact_97 rfl (fun c97 => ?_) (fun c97 => ?_)
        · refine Tr.iconst (pc := 104) d_X5_plainFact_104 (by decide) ?_
          exact Tr.zret (pc := 105) d_X5_plainFact_105 rfl (by omega) ⟨hS, _, rfl, by omega, by omega, fun hq => absurd hq (by omega)⟩
        · refine Tr.iconst (pc := 100) d_X5_plainFact_100 (by decide) ?_
          refine Tr.goto (pc := 101) (tgt := 105) d_X5_plainFact_101 rfl ?_
          exact Tr.zret (pc := 105) d_X5_plainFact_105 rfl (by omega) ⟨hS, _, rfl, by omega, by omega, fun _ => ((St.kp h93 (by decide) (by decide) (by decide)).trans ((St.kp h79 (by decide) (by decide) (by decide)).trans ((St.kp h73 (by decide) (by decide) (by decide)).trans ((St.kp h66 (by decide) (by decide) (by decide)).trans ((St.kp h43 (by decide) (by decide) (by decide)).trans ((St.kp h3 (by decide) (by decide) (by decide)).trans en_6_6))))))⟩
    · refine Tr.aload_n (pc := 49) (i := 0) d_X5_plainFact_49 rfl rfl ?_
      refine Tr.getf (pc := 50) d_X5_plainFact_50 f_5_32 (by decide) (by decide) (ty_6 hS.1.1) ?_
      refine Tr.tp 15 ((St.kp hS (by decide) (by decide) (by decide)).trans en_6_4) ?_
      refine Tr.iconst (pc := 53) d_X5_plainFact_53 (by decide) ?_
      refine Tr.iconst (pc := 54) d_X5_plainFact_54 (by decide) ?_
      refine Tr.callV (pc := 55) (as := [_, _]) d_X5_plainFact_55 s_5_215 ok_X4_emit rfl rfl (Nat.le_of_ble_eq_true rfl) (Nat.le_of_ble_eq_true rfl) (by decide) (ty_15 hS.1.1) ?_
      refine Tr.imp (Tr.deep (by decide) (sp_X4_emit_15_w3 hS.1.wk 0 (by omega) 1 (by omega) (by omega))) ?_
      rintro M55 _ ⟨h55, rfl⟩
      have hS := St.tr hS h55 (by decide) (by decide)
      refine Tr.sc [] rfl ?_
      refine Tr.aload_n (pc := 58) (i := 0) d_X5_plainFact_58 rfl rfl ?_
      refine Tr.callV (pc := 59) (as := []) d_X5_plainFact_59 s_5_74 ok_X5_goOn rfl rfl (Nat.le_of_ble_eq_true rfl) (Nat.le_of_ble_eq_true rfl) (by decide) (ty_6 hS.1.1) ?_
      refine Tr.imp (Tr.deep (by decide) (sp_X5_goOn_6 hS.1 )) ?_
      rintro M59 _ ⟨h59, r59, rfl, lr59, ur59⟩
      have hS := St.tr hS h59 (by decide) (by decide)
      refine Tr.sc [(0, r59)] rfl ?_
      exact Tr.zret (pc := 62) d_X5_plainFact_62 rfl (by omega) ⟨hS, _, rfl, by omega, by omega, fun _ => ((St.kp h59 (by decide) (by decide) (by decide)).trans ((St.kp h55 (by decide) (by decide) (by decide)).trans ((St.kp h43 (by decide) (by decide) (by decide)).trans ((St.kp h3 (by decide) (by decide) (by decide)).trans en_6_6))))⟩
  · refine Tr.aload_n (pc := 9) (i := 0) d_X5_plainFact_9 rfl rfl ?_
    refine Tr.bipush (pc := 10) d_X5_plainFact_10 rfl (by decide) ?_
    refine Tr.callV (pc := 12) (as := [_]) d_X5_plainFact_12 s_5_206 ok_X5_takeOpening rfl rfl (Nat.le_of_ble_eq_true rfl) (Nat.le_of_ble_eq_true rfl) (by decide) (ty_6 hS.1.1) ?_
    refine Tr.imp (Tr.deep (by decide) (sp_X5_takeOpening_6_w9 hS.1 ((St.kp hS (by decide) (by decide) (by decide)).trans en_6_2) ((St.kp h3 (by decide) (by decide) (by decide)).trans en_6_6) 91 (by omega))) ?_
    rintro M12 _ ⟨h12, r12, rfl, lr12, ur12, x12_6_6⟩
    have hS := St.tr hS h12 (by decide) (by decide)
    refine Tr.sc [(0, r12)] rfl ?_
    refine Tr.if_eq (pc := 15) (tgt := 38) d_X5_plainFact_15 rfl (fun c15 => ?_) (fun c15 => ?_)
    · refine Tr.iconst (pc := 38) d_X5_plainFact_38 (by decide) ?_
      exact Tr.zret (pc := 39) d_X5_plainFact_39 rfl (by omega) ⟨hS, _, rfl, by omega, by omega, fun hq => absurd hq (by omega)⟩
    · refine Tr.aload_n (pc := 18) (i := 0) d_X5_plainFact_18 rfl rfl ?_
      refine Tr.callV (pc := 19) (as := []) d_X5_plainFact_19 s_5_177 ok_X5_test rfl rfl (Nat.le_of_ble_eq_true rfl) (Nat.le_of_ble_eq_true rfl) (by decide) (ty_6 hS.1.1) ?_
      refine Tr.imp (Tr.deep (by decide) (sp_X5_test_6_w10 hS.1 hE ((St.kp hS (by decide) (by decide) (by decide)).trans en_6_2) ((St.kp hS (by decide) (by decide) (by decide)).trans en_6_3) ((St.kp hS (by decide) (by decide) (by decide)).trans en_6_4) (x12_6_6 (by omega)))) ?_
      rintro M19 _ ⟨h19, r19, rfl, lr19, ur19, x19_6_6⟩
      have hS := St.tr hS h19 (by decide) (by decide)
      refine Tr.sc [(0, r19)] rfl ?_
      refine Tr.if_eq (pc := 22) (tgt := 38) d_X5_plainFact_22 rfl (fun c22 => ?_) (fun c22 => ?_)
      · refine Tr.iconst (pc := 38) d_X5_plainFact_38 (by decide) ?_
        exact Tr.zret (pc := 39) d_X5_plainFact_39 rfl (by omega) ⟨hS, _, rfl, by omega, by omega, fun hq => absurd hq (by omega)⟩
      · refine Tr.aload_n (pc := 25) (i := 0) d_X5_plainFact_25 rfl rfl ?_
        refine Tr.bipush (pc := 26) d_X5_plainFact_26 rfl (by decide) ?_
        refine Tr.callV (pc := 28) (as := [_]) d_X5_plainFact_28 s_5_209 ok_X5_takeClosing rfl rfl (Nat.le_of_ble_eq_true rfl) (Nat.le_of_ble_eq_true rfl) (by decide) (ty_6 hS.1.1) ?_
        refine Tr.imp (Tr.deep (by decide) (sp_X5_takeClosing_6_w15 hS.1 ((St.kp hS (by decide) (by decide) (by decide)).trans en_6_2) (x19_6_6 (by omega)) 93 (by omega))) ?_
        rintro M28 _ ⟨h28, r28, rfl, lr28, ur28, x28_6_6⟩
        have hS := St.tr hS h28 (by decide) (by decide)
        refine Tr.sc [(0, r28)] rfl ?_
        refine Tr.if_eq (pc := 31) (tgt := 38) d_X5_plainFact_31 rfl (fun c31 => ?_) (fun c31 => ?_)
        · refine Tr.iconst (pc := 38) d_X5_plainFact_38 (by decide) ?_
          exact Tr.zret (pc := 39) d_X5_plainFact_39 rfl (by omega) ⟨hS, _, rfl, by omega, by omega, fun hq => absurd hq (by omega)⟩
        · refine Tr.iconst (pc := 34) d_X5_plainFact_34 (by decide) ?_
          refine Tr.goto (pc := 35) (tgt := 39) d_X5_plainFact_35 rfl ?_
          exact Tr.zret (pc := 39) d_X5_plainFact_39 rfl (by omega) ⟨hS, _, rfl, by omega, by omega, fun _ => (x28_6_6 (by omega))⟩
end
