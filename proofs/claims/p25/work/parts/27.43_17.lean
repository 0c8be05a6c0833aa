/-! 43.17 -/
section
def ws_X5_product_6_w12 : List (Int × Int) := [(6, 0), (6, 1), (6, 5), (6, 6), (15, 11)]
def as_X5_product_6_w12 : List Int := [24, 25]
def q_X5_product_6_w12 (M0 M' : Mem) (r : Option PV) : Prop := St Tru ws_X5_product_6_w12 as_X5_product_6_w12 M0 M' ∧ ∃ v : Int, r = some (0, v) ∧ 0 ≤ v ∧ v ≤ 1 ∧ ((1 ≤ v ∧ v ≤ 1) → rd M' 6 6 = 3)
set_option maxRecDepth 100000 in
set_option maxHeartbeats 4000000 in
theorem sp_X5_product_6_w12 {l : Launch} {K : EC} {M0 : Mem} {xq : Int} (hI : In Tru M0) (hE : e_all K xq) (en_6_2 : rd M0 6 2 = 2) (en_6_3 : rd M0 6 3 = 7) (en_6_4 : rd M0 6 4 = 15) (en_6_6 : rd M0 6 6 = 3)   : Tr l K 24 mX5_product 0 [(0, (2, 6))] [] M0 (q_X5_product_6_w12 M0) := by
  have hS : St Tru ws_X5_product_6_w12 as_X5_product_6_w12 M0 M0 := St.rf hI
  refine Tr.aload_n (pc := 0) (i := 0) d_X5_product_0 rfl rfl ?_
  refine Tr.callV (pc := 1) (as := []) d_X5_product_1 s_5_227 ok_X5_piece rfl rfl (Nat.le_of_ble_eq_true rfl) (Nat.le_of_ble_eq_true rfl) (by decide) (ty_6 hS.1.1) ?_
  refine Tr.imp (Tr.deep (by decide) (sp_X5_piece_6_w12 hS.1 hE ((St.kp hS (by decide) (by decide) (by decide)).trans en_6_2) ((St.kp hS (by decide) (by decide) (by decide)).trans en_6_3) ((St.kp hS (by decide) (by decide) (by decide)).trans en_6_4) en_6_6)) ?_
  rintro M1 _ ⟨h1, r1, rfl, lr1, ur1, x1_6_6⟩
  have hS := St.tr hS h1 (by decide) (by decide)
  refine Tr.sc [(0, r1)] rfl ?_
  refine Tr.istore_n (pc := 4) (i := 1) (ls2 := [(1, (0, r1)), (0, (2, 6))]) d_X5_product_4 rfl (by decide) rfl ?_
  refine Tr.iconst (pc := 5) d_X5_product_5 (by decide) ?_
  refine Tr.istore_n (pc := 6) (i := 2) (ls2 := [(2, (0, 0)), (1, (0, r1)), (0, (2, 6))]) d_X5_product_6 rfl (by decide) rfl ?_
  have J7 : ∀ (n7 : Nat) (M : Mem) (p7_1 p7_2 : Int), St Tru ws_X5_product_6_w12 as_X5_product_6_w12 M0 M → (0 ≤ p7_1 ∧ p7_1 ≤ 1) → (0 ≤ p7_2 ∧ p7_2 ≤ 900) → (p7_1 = 1 → rd M 6 6 = 3) → (900 - p7_2).toNat < n7 → Tr l K 24 mX5_product 7 [(0, (2, 6)), (1, (0, p7_1)), (2, (0, p7_2))] [] M (q_X5_product_6_w12 M0) := by
    intro n7
    induction n7 with
    | zero => intro M p7_1 p7_2 hS bp7_1 bp7_2  y7_p7_1_6_60 hm7; exact absurd hm7 (Nat.not_lt_zero _)
    | succ n7 J7 =>
      intro M p7_1 p7_2 hS bp7_1 bp7_2  y7_p7_1_6_60 hm7
      have y7_p7_1_6_6 : 1 ≤ p7_1 ∧ p7_1 ≤ 1 → rd M 6 6 = 3 := fun hq => y7_p7_1_6_60 (by omega)
      refine Tr.iload_n (pc := 7) (i := 2) d_X5_product_7 rfl rfl ?_
      refine Tr.sipush (pc := 8) d_X5_product_8 rfl (by decide) ?_
      refine Tr.icmp_ge (pc := 11) (tgt := 101) d_X5_product_11 rfl (fun c11 => ?_) (fun c11 => ?_)
      · refine Tr.iload_n (pc := 101) (i := 1) d_X5_product_101 rfl rfl ?_
        exact Tr.zret (pc := 102) d_X5_product_102 rfl (by omega) ⟨hS, _, rfl, by omega, by omega, fun hq => (y7_p7_1_6_6 (by omega))⟩
      · refine Tr.iload_n (pc := 14) (i := 1) d_X5_product_14 rfl rfl ?_
        refine Tr.if_eq (pc := 15) (tgt := 101) d_X5_product_15 rfl (fun c15 => ?_) (fun c15 => ?_)
        · refine Tr.iload_n (pc := 101) (i := 1) d_X5_product_101 rfl rfl ?_
          exact Tr.zret (pc := 102) d_X5_product_102 rfl (by omega) ⟨hS, _, rfl, by omega, by omega, fun hq => absurd hq (by omega)⟩
        · refine Tr.aload_n (pc := 18) (i := 0) d_X5_product_18 rfl rfl ?_
          refine Tr.bipush (pc := 19) d_X5_product_19 rfl (by decide) ?_
          refine Tr.callV (pc := 21) (as := [_]) d_X5_product_21 s_5_77 ok_X5_isSign rfl rfl (Nat.le_of_ble_eq_true rfl) (Nat.le_of_ble_eq_true rfl) (by decide) (ty_6 hS.1.1) ?_
          refine Tr.imp (Tr.deep (by decide) (sp_X5_isSign_6_w2 hS.1 ((St.kp hS (by decide) (by decide) (by decide)).trans en_6_2) 42 (by omega))) ?_
          rintro M21 _ ⟨h21, r21, rfl, lr21, ur21⟩
          have hS := St.tr hS h21 (by decide) (by decide)
          refine Tr.sc [(0, r21)] rfl ?_
          have J45 : ∀ (M : Mem), St Tru ws_X5_product_6_w12 as_X5_product_6_w12 M0 M → rd M 6 6 = 3 → Tr l K 24 mX5_product 45 [(0, (2, 6)), (2, (0, p7_2))] [] M (q_X5_product_6_w12 M0) := by
            intro M  hS  k45_6_6
            refine Tr.aload_n (pc := 45) (i := 0) d_X5_product_45 rfl rfl ?_
            refine Tr.bipush (pc := 46) d_X5_product_46 rfl (by decide) ?_
            refine Tr.callV (pc := 48) (as := [_]) d_X5_product_48 s_5_77 ok_X5_isSign rfl rfl (Nat.le_of_ble_eq_true rfl) (Nat.le_of_ble_eq_true rfl) (by decide) (ty_6 hS.1.1) ?_
            refine Tr.imp (Tr.deep (by decide) (sp_X5_isSign_6_w2 hS.1 ((St.kp hS (by decide) (by decide) (by decide)).trans en_6_2) 42 (by omega))) ?_
            rintro M48 _ ⟨h48, r48, rfl, lr48, ur48⟩
            have hS := St.tr hS h48 (by decide) (by decide)
            refine Tr.sc [(0, r48)] rfl ?_
            have J75 : ∀ (M : Mem) (q75_0 : Int), St Tru ws_X5_product_6_w12 as_X5_product_6_w12 M0 M → (8 ≤ q75_0 ∧ q75_0 ≤ 10) → rd M 6 6 = 3 → Tr l K 24 mX5_product 75 [(0, (2, 6)), (2, (0, p7_2))] [(0, q75_0)] M (q_X5_product_6_w12 M0) := by
              intro M q75_0 hS bq75_0 k75_6_6
              refine Tr.istore_n (pc := 75) (i := 3) (ls2 := [(3, (0, q75_0)), (0, (2, 6)), (2, (0, p7_2))]) d_X5_product_75 rfl (by decide) rfl ?_
              refine Tr.aload_n (pc := 76) (i := 0) d_X5_product_76 rfl rfl ?_
              refine Tr.callV (pc := 77) (as := []) d_X5_product_77 s_5_74 ok_X5_goOn rfl rfl (Nat.le_of_ble_eq_true rfl) (Nat.le_of_ble_eq_true rfl) (by decide) (ty_6 hS.1.1) ?_
              refine Tr.imp (Tr.deep (by decide) (sp_X5_goOn_6 hS.1 )) ?_
              rintro M77 _ ⟨h77, r77, rfl, lr77, ur77⟩
              have hS := St.tr hS h77 (by decide) (by decide)
              refine Tr.sc [(0, r77)] rfl ?_
              refine Tr.pop (pc := 80) d_X5_product_80 ne01 ?_
              refine Tr.aload_n (pc := 81) (i := 0) d_X5_product_81 rfl rfl ?_
              refine Tr.callV (pc := 82) (as := []) d_X5_product_82 s_5_227 ok_X5_piece rfl rfl (Nat.le_of_ble_eq_true rfl) (Nat.le_of_ble_eq_true rfl) (by decide) (ty_6 hS.1.1) ?_
              refine Tr.imp (Tr.deep (by decide) (sp_X5_piece_6_w12 hS.1 hE ((St.kp hS (by decide) (by decide) (by decide)).trans en_6_2) ((St.kp hS (by decide) (by decide) (by decide)).trans en_6_3) ((St.kp hS (by decide) (by decide) (by decide)).trans en_6_4) ((St.kp h77 (by decide) (by decide) (by decide)).trans k75_6_6))) ?_
              rintro M82 _ ⟨h82, r82, rfl, lr82, ur82, x82_6_6⟩
              have hS := St.tr hS h82 (by decide) (by decide)
              refine Tr.sc [(0, r82)] rfl ?_
              refine Tr.istore_n (pc := 85) (i := 1) (ls2 := [(1, (0, r82)), (3, (0, q75_0)), (0, (2, 6)), (2, (0, p7_2))]) d_X5_product_85 rfl (by decide) rfl ?_
              refine Tr.aload_n (pc := 86) (i := 0) d_X5_product_86 rfl rfl ?_
              refine Tr.getf (pc := 87) d_X5_product_87 f_5_32 (by decide) (by decide) (ty_6 hS.1.1) ?_
              refine Tr.tp 15 ((St.kp hS (by decide) (by decide) (by decide)).trans en_6_4) ?_
              refine Tr.iload_n (pc := 90) (i := 3) d_X5_product_90 rfl rfl ?_
              refine Tr.iconst (pc := 91) d_X5_product_91 (by decide) ?_
              refine Tr.callV (pc := 92) (as := [_, _]) d_X5_product_92 s_5_215 ok_X4_emit rfl rfl (Nat.le_of_ble_eq_true rfl) (Nat.le_of_ble_eq_true rfl) (by decide) (ty_15 hS.1.1) ?_
              refine Tr.imp (Tr.deep (by decide) (sp_X4_emit_15_w5 hS.1.wk q75_0 (by omega) 0 (by omega) (by omega))) ?_
              rintro M92 _ ⟨h92, rfl⟩
              have hS := St.tr hS h92 (by decide) (by decide)
              refine Tr.sc [] rfl ?_
              refine Tr.iincV (pc := 95) (n2 := (p7_2 + 1)) (ls2 := [(2, (0, (p7_2 + 1))), (1, (0, r82)), (3, (0, q75_0)), (0, (2, 6))]) d_X5_product_95 rfl (by decide) ((w32_id (by omega)).trans (by omega)) rfl ?_
              refine Tr.goto (pc := 98) (tgt := 7) d_X5_product_98 rfl ?_
              refine Tr.pick [3, 1, 0] (ls2 := [(0, (2, 6)), (1, (0, r82)), (2, (0, (p7_2 + 1)))]) rfl ?_
              exact J7 _ _ _ hS (by omega) (by omega) (fun hq => ((St.kp h92 (by decide) (by decide) (by decide)).trans (x82_6_6 (by omega)))) (by omega)
            refine Tr.if_eq (pc := 51) (tgt := 59) d_X5_product_51 rfl (fun c51 => ?_) (fun c51 => ?_)
            · refine Tr.aload_n (pc := 59) (i := 0) d_X5_product_59 rfl rfl ?_
              refine Tr.bipush (pc := 60) d_X5_product_60 rfl (by decide) ?_
              refine Tr.callV (pc := 62) (as := [_]) d_X5_product_62 s_5_77 ok_X5_isSign rfl rfl (Nat.le_of_ble_eq_true rfl) (Nat.le_of_ble_eq_true rfl) (by decide) (ty_6 hS.1.1) ?_
              refine Tr.imp (Tr.deep (by decide) (sp_X5_isSign_6_w2 hS.1 ((St.kp hS (by decide) (by decide) (by decide)).trans en_6_2) 47 (by omega))) ?_
              rintro M62 _ ⟨h62, r62, rfl, lr62, ur62⟩
              have hS := St.tr hS h62 (by decide) (by decide)
              refine Tr.sc [(0, r62)] rfl ?_
              refine Tr.if_eq (pc := 65) (tgt := 73) d_X5_product_65 rfl (fun c65 => ?_) (fun c65 => ?_)
              · refine Tr.bipush (pc := 73) d_X5_product_73 rfl (by decide) ?_
                refine Tr.pick [0, 1] (ls2 := [(0, (2, 6)), (2, (0, p7_2))]) rfl ?_
                exact J75 _ _ hS (by omega) ((St.kp h62 (by decide) (by decide) (by decide)).trans ((St.kp h48 (by decide) (by decide) (by decide)).trans k45_6_6))
              · refine Tr.bipush (pc := 68) d_X5_product_68 rfl (by decide) ?_
                refine Tr.goto (pc := 70) (tgt := 75) d_X5_product_70 rfl ?_
                refine Tr.pick [0, 1] (ls2 := [(0, (2, 6)), (2, (0, p7_2))]) rfl ?_
                exact J75 _ _ hS (by omega) ((St.kp h62 (by decide) (by decide) (by decide)).trans ((St.kp h48 (by decide) (by decide) (by decide)).trans k45_6_6))
            · refine Tr.bipush (pc := 54) d_X5_product_54 rfl (by decide) ?_
              refine Tr.goto (pc := 56) (tgt := 75) d_X5_product_56 rfl ?_
              refine Tr.pick [0, 1] (ls2 := [(0, (2, 6)), (2, (0, p7_2))]) rfl ?_
              exact J75 _ _ hS (by omega) ((St.kp h48 (by decide) (by decide) (by decide)).trans k45_6_6)
          refine Tr.if_ne (pc := 24) (tgt := 45) d_X5_product_24 rfl (fun c24 => ?_) (fun c24 => ?_)
          · refine Tr.pick [0, 2] (ls2 := [(0, (2, 6)), (2, (0, p7_2))]) rfl ?_
            exact J45 _ hS ((St.kp h21 (by decide) (by decide) (by decide)).trans (y7_p7_1_6_6 (by omega)))
          · refine Tr.aload_n (pc := 27) (i := 0) d_X5_product_27 rfl rfl ?_
            refine Tr.bipush (pc := 28) d_X5_product_28 rfl (by decide) ?_
            refine Tr.callV (pc := 30) (as := [_]) d_X5_product_30 s_5_77 ok_X5_isSign rfl rfl (Nat.le_of_ble_eq_true rfl) (Nat.le_of_ble_eq_true rfl) (by decide) (ty_6 hS.1.1) ?_
            refine Tr.imp (Tr.deep (by decide) (sp_X5_isSign_6_w2 hS.1 ((St.kp hS (by decide) (by decide) (by decide)).trans en_6_2) 47 (by omega))) ?_
            rintro M30 _ ⟨h30, r30, rfl, lr30, ur30⟩
            have hS := St.tr hS h30 (by decide) (by decide)
            refine Tr.sc [(0, r30)] rfl ?_
            refine Tr.if_ne (pc := 33) (tgt := 45) d_X5_product_33 rfl (fun c33 => ?_) (fun c33 => ?_)
            · refine Tr.pick [0, 2] (ls2 := [(0, (2, 6)), (2, (0, p7_2))]) rfl ?_
              exact J45 _ hS ((St.kp h30 (by decide) (by decide) (by decide)).trans ((St.kp h21 (by decide) (by decide) (by decide)).trans (y7_p7_1_6_6 (by omega))))
            · refine Tr.aload_n (pc := 36) (i := 0) d_X5_product_36 rfl rfl ?_
              refine Tr.bipush (pc := 37) d_X5_product_37 rfl (by decide) ?_
              refine Tr.callV (pc := 39) (as := [_]) d_X5_product_39 s_5_77 ok_X5_isSign rfl rfl (Nat.le_of_ble_eq_true rfl) (Nat.le_of_ble_eq_true rfl) (by decide) (ty_6 hS.1.1) ?_
              refine Tr.imp (Tr.deep (by decide) (sp_X5_isSign_6_w2 hS.1 ((St.kp hS (by decide) (by decide) (by decide)).trans en_6_2) 37 (by omega))) ?_
              rintro M39 _ ⟨h39, r39, rfl, lr39, ur39⟩
              have hS := St.tr hS h39 (by decide) (by decide)
              refine Tr.sc [(0, r39)] rfl ?_
              refine Tr.if_eq (pc := 42) (tgt := 101) d_X5_product_42 rfl (fun c42 => ?_) (fun c42 => ?_)
              · refine Tr.iload_n (pc := 101) (i := 1) d_X5_product_101 rfl rfl ?_
                exact Tr.zret (pc := 102) d_X5_product_102 rfl (by omega) ⟨hS, _, rfl, by omega, by omega, fun _ => ((St.kp h39 (by decide) (by decide) (by decide)).trans ((St.kp h30 (by decide) (by decide) (by decide)).trans ((St.kp h21 (by decide) (by decide) (by decide)).trans (y7_p7_1_6_6 (by omega)))))⟩
              · refine Tr.pick [0, 2] (ls2 := [(0, (2, 6)), (2, (0, p7_2))]) rfl ?_
                exact J45 _ hS ((St.kp h39 (by decide) (by decide) (by decide)).trans ((St.kp h30 (by decide) (by decide) (by decide)).trans ((St.kp h21 (by decide) (by decide) (by decide)).trans (y7_p7_1_6_6 (by omega)))))
  refine Tr.pick [2, 1, 0] (ls2 := [(0, (2, 6)), (1, (0, r1)), (2, (0, 0))]) rfl ?_
  exact J7 _ _ _ _ hS (by omega) (by omega) (fun hq => (x1_6_6 (by omega))) (Nat.lt_succ_self _)

def ws_X5_sum_6_w12 : List (Int × Int) := [(6, 0), (6, 1), (6, 5), (6, 6), (15, 11)]
def as_X5_sum_6_w12 : List Int := [24, 25]
def q_X5_sum_6_w12 (M0 M' : Mem) (r : Option PV) : Prop := St Tru ws_X5_sum_6_w12 as_X5_sum_6_w12 M0 M' ∧ ∃ v : Int, r = some (0, v) ∧ 0 ≤ v ∧ v ≤ 1 ∧ ((1 ≤ v ∧ v ≤ 1) → rd M' 6 6 = 3)
set_option maxRecDepth 100000 in
set_option maxHeartbeats 4000000 in
theorem sp_X5_sum_6_w12 {l : Launch} {K : EC} {M0 : Mem} {xq : Int} (hI : In Tru M0) (hE : e_all K xq) (en_6_2 : rd M0 6 2 = 2) (en_6_3 : rd M0 6 3 = 7) (en_6_4 : rd M0 6 4 = 15) (en_6_6 : rd M0 6 6 = 3)   : Tr l K 25 mX5_sum 0 [(0, (2, 6))] [] M0 (q_X5_sum_6_w12 M0) := by
  have hS : St Tru ws_X5_sum_6_w12 as_X5_sum_6_w12 M0 M0 := St.rf hI
  refine Tr.aload_n (pc := 0) (i := 0) d_X5_sum_0 rfl rfl ?_
  refine Tr.callV (pc := 1) (as := []) d_X5_sum_1 s_5_224 ok_X5_product rfl rfl (Nat.le_of_ble_eq_true rfl) (Nat.le_of_ble_eq_true rfl) (by decide) (ty_6 hS.1.1) ?_
  refine Tr.imp (Tr.deep (by decide) (sp_X5_product_6_w12 hS.1 hE ((St.kp hS (by decide) (by decide) (by decide)).trans en_6_2) ((St.kp hS (by decide) (by decide) (by decide)).trans en_6_3) ((St.kp hS (by decide) (by decide) (by decide)).trans en_6_4) en_6_6)) ?_
  rintro M1 _ ⟨h1, r1, rfl, lr1, ur1, x1_6_6⟩
  have hS := St.tr hS h1 (by decide) (by decide)
  refine Tr.sc [(0, r1)] rfl ?_
  refine Tr.istore_n (pc := 4) (i := 1) (ls2 := [(1, (0, r1)), (0, (2, 6))]) d_X5_sum_4 rfl (by decide) rfl ?_
  refine Tr.iconst (pc := 5) d_X5_sum_5 (by decide) ?_
  refine Tr.istore_n (pc := 6) (i := 2) (ls2 := [(2, (0, 0)), (1, (0, r1)), (0, (2, 6))]) d_X5_sum_6 rfl (by decide) rfl ?_
  have J7 : ∀ (n7 : Nat) (M : Mem) (p7_1 p7_2 : Int), St Tru ws_X5_sum_6_w12 as_X5_sum_6_w12 M0 M → (0 ≤ p7_1 ∧ p7_1 ≤ 1) → (0 ≤ p7_2 ∧ p7_2 ≤ 900) → (p7_1 = 1 → rd M 6 6 = 3) → (900 - p7_2).toNat < n7 → Tr l K 25 mX5_sum 7 [(0, (2, 6)), (1, (0, p7_1)), (2, (0, p7_2))] [] M (q_X5_sum_6_w12 M0) := by
    intro n7
    induction n7 with
    | zero => intro M p7_1 p7_2 hS bp7_1 bp7_2  y7_p7_1_6_60 hm7; exact absurd hm7 (Nat.not_lt_zero _)
    | succ n7 J7 =>
      intro M p7_1 p7_2 hS bp7_1 bp7_2  y7_p7_1_6_60 hm7
      have y7_p7_1_6_6 : 1 ≤ p7_1 ∧ p7_1 ≤ 1 → rd M 6 6 = 3 := fun hq => y7_p7_1_6_60 (by omega)
      refine Tr.iload_n (pc := 7) (i := 2) d_X5_sum_7 rfl rfl ?_
      refine Tr.sipush (pc := 8) d_X5_sum_8 rfl (by decide) ?_
      refine Tr.icmp_ge (pc := 11) (tgt := 78) d_X5_sum_11 rfl (fun c11 => ?_) (fun c11 => ?_)
      · refine Tr.iload_n (pc := 78) (i := 1) d_X5_sum_78 rfl rfl ?_
        exact Tr.zret (pc := 79) d_X5_sum_79 rfl (by omega) ⟨hS, _, rfl, by omega, by omega, fun hq => (y7_p7_1_6_6 (by omega))⟩
      · refine Tr.iload_n (pc := 14) (i := 1) d_X5_sum_14 rfl rfl ?_
        refine Tr.if_eq (pc := 15) (tgt := 78) d_X5_sum_15 rfl (fun c15 => ?_) (fun c15 => ?_)
        · refine Tr.iload_n (pc := 78) (i := 1) d_X5_sum_78 rfl rfl ?_
          exact Tr.zret (pc := 79) d_X5_sum_79 rfl (by omega) ⟨hS, _, rfl, by omega, by omega, fun hq => absurd hq (by omega)⟩
        · refine Tr.aload_n (pc := 18) (i := 0) d_X5_sum_18 rfl rfl ?_
          refine Tr.bipush (pc := 19) d_X5_sum_19 rfl (by decide) ?_
          refine Tr.callV (pc := 21) (as := [_]) d_X5_sum_21 s_5_77 ok_X5_isSign rfl rfl (Nat.le_of_ble_eq_true rfl) (Nat.le_of_ble_eq_true rfl) (by decide) (ty_6 hS.1.1) ?_
          refine Tr.imp (Tr.deep (by decide) (sp_X5_isSign_6_w2 hS.1 ((St.kp hS (by decide) (by decide) (by decide)).trans en_6_2) 43 (by omega))) ?_
          rintro M21 _ ⟨h21, r21, rfl, lr21, ur21⟩
          have hS := St.tr hS h21 (by decide) (by decide)
          refine Tr.sc [(0, r21)] rfl ?_
          have J36 : ∀ (M : Mem), St Tru ws_X5_sum_6_w12 as_X5_sum_6_w12 M0 M → rd M 6 6 = 3 → Tr l K 25 mX5_sum 36 [(0, (2, 6)), (2, (0, p7_2))] [] M (q_X5_sum_6_w12 M0) := by
            intro M  hS  k36_6_6
            refine Tr.aload_n (pc := 36) (i := 0) d_X5_sum_36 rfl rfl ?_
            refine Tr.bipush (pc := 37) d_X5_sum_37 rfl (by decide) ?_
            refine Tr.callV (pc := 39) (as := [_]) d_X5_sum_39 s_5_77 ok_X5_isSign rfl rfl (Nat.le_of_ble_eq_true rfl) (Nat.le_of_ble_eq_true rfl) (by decide) (ty_6 hS.1.1) ?_
            refine Tr.imp (Tr.deep (by decide) (sp_X5_isSign_6_w2 hS.1 ((St.kp hS (by decide) (by decide) (by decide)).trans en_6_2) 43 (by omega))) ?_
            rintro M39 _ ⟨h39, r39, rfl, lr39, ur39⟩
            have hS := St.tr hS h39 (by decide) (by decide)
            refine Tr.sc [(0, r39)] rfl ?_
            have J52 : ∀ (M : Mem) (q52_0 : Int), St Tru ws_X5_sum_6_w12 as_X5_sum_6_w12 M0 M → (6 ≤ q52_0 ∧ q52_0 ≤ 7) → rd M 6 6 = 3 → Tr l K 25 mX5_sum 52 [(0, (2, 6)), (2, (0, p7_2))] [(0, q52_0)] M (q_X5_sum_6_w12 M0) := by
              intro M q52_0 hS bq52_0 k52_6_6
              refine Tr.istore_n (pc := 52) (i := 3) (ls2 := [(3, (0, q52_0)), (0, (2, 6)), (2, (0, p7_2))]) d_X5_sum_52 rfl (by decide) rfl ?_
              refine Tr.aload_n (pc := 53) (i := 0) d_X5_sum_53 rfl rfl ?_
              refine Tr.callV (pc := 54) (as := []) d_X5_sum_54 s_5_74 ok_X5_goOn rfl rfl (Nat.le_of_ble_eq_true rfl) (Nat.le_of_ble_eq_true rfl) (by decide) (ty_6 hS.1.1) ?_
              refine Tr.imp (Tr.deep (by decide) (sp_X5_goOn_6 hS.1 )) ?_
              rintro M54 _ ⟨h54, r54, rfl, lr54, ur54⟩
              have hS := St.tr hS h54 (by decide) (by decide)
              refine Tr.sc [(0, r54)] rfl ?_
              refine Tr.pop (pc := 57) d_X5_sum_57 ne01 ?_
              refine Tr.aload_n (pc := 58) (i := 0) d_X5_sum_58 rfl rfl ?_
              refine Tr.callV (pc := 59) (as := []) d_X5_sum_59 s_5_224 ok_X5_product rfl rfl (Nat.le_of_ble_eq_true rfl) (Nat.le_of_ble_eq_true rfl) (by decide) (ty_6 hS.1.1) ?_
              refine Tr.imp (Tr.deep (by decide) (sp_X5_product_6_w12 hS.1 hE ((St.kp hS (by decide) (by decide) (by decide)).trans en_6_2) ((St.kp hS (by decide) (by decide) (by decide)).trans en_6_3) ((St.kp hS (by decide) (by decide) (by decide)).trans en_6_4) ((St.kp h54 (by decide) (by decide) (by decide)).trans k52_6_6))) ?_
              rintro M59 _ ⟨h59, r59, rfl, lr59, ur59, x59_6_6⟩
              have hS := St.tr hS h59 (by decide) (by decide)
              refine Tr.sc [(0, r59)] rfl ?_
              refine Tr.istore_n (pc := 62) (i := 1) (ls2 := [(1, (0, r59)), (3, (0, q52_0)), (0, (2, 6)), (2, (0, p7_2))]) d_X5_sum_62 rfl (by decide) rfl ?_
              refine Tr.aload_n (pc := 63) (i := 0) d_X5_sum_63 rfl rfl ?_
              refine Tr.getf (pc := 64) d_X5_sum_64 f_5_32 (by decide) (by decide) (ty_6 hS.1.1) ?_
              refine Tr.tp 15 ((St.kp hS (by decide) (by decide) (by decide)).trans en_6_4) ?_
              refine Tr.iload_n (pc := 67) (i := 3) d_X5_sum_67 rfl rfl ?_
              refine Tr.iconst (pc := 68) d_X5_sum_68 (by decide) ?_
              refine Tr.callV (pc := 69) (as := [_, _]) d_X5_sum_69 s_5_215 ok_X4_emit rfl rfl (Nat.le_of_ble_eq_true rfl) (Nat.le_of_ble_eq_true rfl) (by decide) (ty_15 hS.1.1) ?_
              refine Tr.imp (Tr.deep (by decide) (sp_X4_emit_15_w6 hS.1.wk q52_0 (by omega) 0 (by omega) (by omega))) ?_
              rintro M69 _ ⟨h69, rfl⟩
              have hS := St.tr hS h69 (by decide) (by decide)
              refine Tr.sc [] rfl ?_
              refine Tr.iincV (pc := 72) (n2 := (p7_2 + 1)) (ls2 := [(2, (0, (p7_2 + 1))), (1, (0, r59)), (3, (0, q52_0)), (0, (2, 6))]) d_X5_sum_72 rfl (by decide) ((w32_id (by omega)).trans (by omega)) rfl ?_
              refine Tr.goto (pc := 75) (tgt := 7) d_X5_sum_75 rfl ?_
              refine Tr.pick [3, 1, 0] (ls2 := [(0, (2, 6)), (1, (0, r59)), (2, (0, (p7_2 + 1)))]) rfl ?_
              exact J7 _ _ _ hS (by omega) (by omega) (fun hq => ((St.kp h69 (by decide) (by decide) (by decide)).trans (x59_6_6 (by omega)))) (by omega)
            refine Tr.if_eq (pc := 42) (tgt := 50) d_X5_sum_42 rfl (fun c42 => ?_) (fun c42 => ?_)
            · refine Tr.bipush (pc := 50) d_X5_sum_50 rfl (by decide) ?_
              refine Tr.pick [0, 1] (ls2 := [(0, (2, 6)), (2, (0, p7_2))]) rfl ?_
              exact J52 _ _ hS (by omega) ((St.kp h39 (by decide) (by decide) (by decide)).trans k36_6_6)
            · refine Tr.bipush (pc := 45) d_X5_sum_45 rfl (by decide) ?_
              refine Tr.goto (pc := 47) (tgt := 52) d_X5_sum_47 rfl ?_
              refine Tr.pick [0, 1] (ls2 := [(0, (2, 6)), (2, (0, p7_2))]) rfl ?_
              exact J52 _ _ hS (by omega) ((St.kp h39 (by decide) (by decide) (by decide)).trans k36_6_6)
          refine Tr.if_ne (pc := 24) (tgt := 36) d_X5_sum_24 rfl (fun c24 => ?_) (fun c24 => ?_)
          · refine Tr.pick [0, 2] (ls2 := [(0, (2, 6)), (2, (0, p7_2))]) rfl ?_
            exact J36 _ hS ((St.kp h21 (by decide) (by decide) (by decide)).trans (y7_p7_1_6_6 (by omega)))
          · refine Tr.aload_n (pc := 27) (i := 0) d_X5_sum_27 rfl rfl ?_
            refine Tr.bipush (pc := 28) d_X5_sum_28 rfl (by decide) ?_
            refine Tr.callV (pc := 30) (as := [_]) d_X5_sum_30 s_5_77 ok_X5_isSign rfl rfl (Nat.le_of_ble_eq_true rfl) (Nat.le_of_ble_eq_true rfl) (by decide) (ty_6 hS.1.1) ?_
            refine Tr.imp (Tr.deep (by decide) (sp_X5_isSign_6_w2 hS.1 ((St.kp hS (by decide) (by decide) (by decide)).trans en_6_2) 45 (by omega))) ?_
            rintro M30 _ ⟨h30, r30, rfl, lr30, ur30⟩
            have hS := St.tr hS h30 (by decide) (by decide)
            refine Tr.sc [(0, r30)] rfl ?_
            refine Tr.if_eq (pc := 33) (tgt := 78) d_X5_sum_33 rfl (fun c33 => ?_) (fun c33 => ?_)
            · refine Tr.iload_n (pc := 78) (i := 1) d_X5_sum_78 rfl rfl ?_
              exact Tr.zret (pc := 79) d_X5_sum_79 rfl (by omega) ⟨hS, _, rfl, by omega, by omega, fun _ => ((St.kp h30 (by decide) (by decide) (by decide)).trans ((St.kp h21 (by decide) (by decide) (by decide)).trans (y7_p7_1_6_6 (by omega))))⟩
            · refine Tr.pick [0, 2] (ls2 := [(0, (2, 6)), (2, (0, p7_2))]) rfl ?_
              exact J36 _ hS ((St.kp h30 (by decide) (by decide) (by decide)).trans ((St.kp h21 (by decide) (by decide) (by decide)).trans (y7_p7_1_6_6 (by omega))))
  refine Tr.pick [2, 1, 0] (ls2 := [(0, (2, 6)), (1, (0, r1)), (2, (0, 0))]) rfl ?_
  exact J7 _ _ _ _ hS (by omega) (by omega) (fun hq => (x1_6_6 (by omega))) (Nat.lt_succ_self _)

def ws_X5_choice_6_w15 : List (Int × Int) := [(6, 0), (6, 1), (6, 5), (6, 6), (15, 11)]
def as_X5_choice_6_w15 : List Int := [24, 25]
def q_X5_choice_6_w15 (M0 M' : Mem) (r : Option PV) : Prop := St Tru ws_X5_choice_6_w15 as_X5_choice_6_w15 M0 M' ∧ ∃ v : Int, r = some (0, v) ∧ 0 ≤ v ∧ v ≤ 1 ∧ ((1 ≤ v ∧ v ≤ 1) → rd M' 6 6 = 2)
set_option maxRecDepth 100000 in
set_option maxHeartbeats 4000000 in
theorem sp_X5_choice_6_w15 {l : Launch} {K : EC} {M0 : Mem} {xq : Int} (hI : In Tru M0) (hE : e_all K xq) (en_6_2 : rd M0 6 2 = 2) (en_6_3 : rd M0 6 3 = 7) (en_6_4 : rd M0 6 4 = 15) (en_6_6 : rd M0 6 6 = 2) (a1 : Int) (ha1 : 10 ≤ a1 ∧ a1 ≤ 15)  : Tr l K 26 mX5_choice 0 [(0, (2, 6)), (1, (0, a1))] [] M0 (q_X5_choice_6_w15 M0) := by
  have hS : St Tru ws_X5_choice_6_w15 as_X5_choice_6_w15 M0 M0 := St.rf hI
  refine Tr.aload_n (pc := 0) (i := 0) d_X5_choice_0 rfl rfl ?_
  refine Tr.callV (pc := 1) (as := []) d_X5_choice_1 s_5_74 ok_X5_goOn rfl rfl (Nat.le_of_ble_eq_true rfl) (Nat.le_of_ble_eq_true rfl) (by decide) (ty_6 hS.1.1) ?_
  refine Tr.imp (Tr.deep (by decide) (sp_X5_goOn_6 hS.1 )) ?_
  rintro M1 _ ⟨h1, r1, rfl, lr1, ur1⟩
  have hS := St.tr hS h1 (by decide) (by decide)
  refine Tr.sc [(0, r1)] rfl ?_
  refine Tr.pop (pc := 4) d_X5_choice_4 ne01 ?_
  refine Tr.aload_n (pc := 5) (i := 0) d_X5_choice_5 rfl rfl ?_
  refine Tr.bipush (pc := 6) d_X5_choice_6 rfl (by decide) ?_
  refine Tr.callV (pc := 8) (as := [_]) d_X5_choice_8 s_5_206 ok_X5_takeOpening rfl rfl (Nat.le_of_ble_eq_true rfl) (Nat.le_of_ble_eq_true rfl) (by decide) (ty_6 hS.1.1) ?_
  refine Tr.imp (Tr.deep (by decide) (sp_X5_takeOpening_6_w2 hS.1 ((St.kp hS (by decide) (by decide) (by decide)).trans en_6_2) ((St.kp h1 (by decide) (by decide) (by decide)).trans en_6_6) 40 (by omega))) ?_
  rintro M8 _ ⟨h8, r8, rfl, lr8, ur8, x8_6_6⟩
  have hS := St.tr hS h8 (by decide) (by decide)
  refine Tr.sc [(0, r8)] rfl ?_
  have J51 : ∀ (M : Mem) (q51_0 : Int), St Tru ws_X5_choice_6_w15 as_X5_choice_6_w15 M0 M → (0 ≤ q51_0 ∧ q51_0 ≤ 1) → (q51_0 = 1 → rd M 6 6 = 2) → Tr l K 26 mX5_choice 51 [(0, (2, 6)), (1, (0, a1))] [(0, q51_0)] M (q_X5_choice_6_w15 M0) := by
    intro M q51_0 hS bq51_0  y51_q51_0_6_60
    have y51_q51_0_6_6 : 1 ≤ q51_0 ∧ q51_0 ≤ 1 → rd M 6 6 = 2 := fun hq => y51_q51_0_6_60 (by omega)
    refine Tr.istore_n (pc := 51) (i := 2) (ls2 := [(2, (0, q51_0)), (0, (2, 6)), (1, (0, a1))]) d_X5_choice_51 rfl (by decide) rfl ?_
    refine Tr.aload_n (pc := 52) (i := 0) d_X5_choice_52 rfl rfl ?_
    refine Tr.getf (pc := 53) d_X5_choice_53 f_5_32 (by decide) (by decide) (ty_6 hS.1.1) ?_
    refine Tr.tp 15 ((St.kp hS (by decide) (by decide) (by decide)).trans en_6_4) ?_
    refine Tr.iload_n (pc := 56) (i := 1) d_X5_choice_56 rfl rfl ?_
    refine Tr.iconst (pc := 57) d_X5_choice_57 (by decide) ?_
    refine Tr.callV (pc := 58) (as := [_, _]) d_X5_choice_58 s_5_215 ok_X4_emit rfl rfl (Nat.le_of_ble_eq_true rfl) (Nat.le_of_ble_eq_true rfl) (by decide) (ty_15 hS.1.1) ?_
    refine Tr.imp (Tr.deep (by decide) (sp_X4_emit_15_w4 hS.1.wk a1 (by omega) 0 (by omega) (by omega))) ?_
    rintro M58 _ ⟨h58, rfl⟩
    have hS := St.tr hS h58 (by decide) (by decide)
    refine Tr.sc [] rfl ?_
    refine Tr.iload_n (pc := 61) (i := 2) d_X5_choice_61 rfl rfl ?_
    exact Tr.zret (pc := 62) d_X5_choice_62 rfl (by omega) ⟨hS, _, rfl, by omega, by omega, fun hq => ((St.kp h58 (by decide) (by decide) (by decide)).trans (y51_q51_0_6_6 (by omega)))⟩
  have J50 : ∀ (M : Mem), St Tru ws_X5_choice_6_w15 as_X5_choice_6_w15 M0 M → Tr l K 26 mX5_choice 50 [(0, (2, 6)), (1, (0, a1))] [] M (q_X5_choice_6_w15 M0) := by
    intro M  hS  
    refine Tr.iconst (pc := 50) d_X5_choice_50 (by decide) ?_
    refine Tr.pick [0, 1] (ls2 := [(0, (2, 6)), (1, (0, a1))]) rfl ?_
    exact J51 _ _ hS (by omega) (fun hq => absurd hq (by omega))
  refine Tr.if_eq (pc := 11) (tgt := 50) d_X5_choice_11 rfl (fun c11 => ?_) (fun c11 => ?_)
  · refine Tr.pick [0, 1] (ls2 := [(0, (2, 6)), (1, (0, a1))]) rfl ?_
    exact J50 _ hS 
  · refine Tr.aload_n (pc := 14) (i := 0) d_X5_choice_14 rfl rfl ?_
    refine Tr.callV (pc := 15) (as := []) d_X5_choice_15 s_5_174 ok_X5_sum rfl rfl (Nat.le_of_ble_eq_true rfl) (Nat.le_of_ble_eq_true rfl) (by decide) (ty_6 hS.1.1) ?_
    refine Tr.imp (Tr.deep (by decide) (sp_X5_sum_6_w12 hS.1 hE ((St.kp hS (by decide) (by decide) (by decide)).trans en_6_2) ((St.kp hS (by decide) (by decide) (by decide)).trans en_6_3) ((St.kp hS (by decide) (by decide) (by decide)).trans en_6_4) (x8_6_6 (by omega)))) ?_
    rintro M15 _ ⟨h15, r15, rfl, lr15, ur15, x15_6_6⟩
    have hS := St.tr hS h15 (by decide) (by decide)
    refine Tr.sc [(0, r15)] rfl ?_
    refine Tr.if_eq (pc := 18) (tgt := 50) d_X5_choice_18 rfl (fun c18 => ?_) (fun c18 => ?_)
    · refine Tr.pick [0, 1] (ls2 := [(0, (2, 6)), (1, (0, a1))]) rfl ?_
      exact J50 _ hS 
    · refine Tr.aload_n (pc := 21) (i := 0) d_X5_choice_21 rfl rfl ?_
      refine Tr.bipush (pc := 22) d_X5_choice_22 rfl (by decide) ?_
      refine Tr.callV (pc := 24) (as := [_]) d_X5_choice_24 s_5_81 ok_X5_takeSign rfl rfl (Nat.le_of_ble_eq_true rfl) (Nat.le_of_ble_eq_true rfl) (by decide) (ty_6 hS.1.1) ?_
      refine Tr.imp (Tr.deep (by decide) (sp_X5_takeSign_6_w1 hS.1 ((St.kp hS (by decide) (by decide) (by decide)).trans en_6_2) 44 (by omega))) ?_
      rintro M24 _ ⟨h24, r24, rfl, lr24, ur24⟩
      have hS := St.tr hS h24 (by decide) (by decide)
      refine Tr.sc [(0, r24)] rfl ?_
      refine Tr.if_eq (pc := 27) (tgt := 50) d_X5_choice_27 rfl (fun c27 => ?_) (fun c27 => ?_)
      · refine Tr.pick [0, 1] (ls2 := [(0, (2, 6)), (1, (0, a1))]) rfl ?_
        exact J50 _ hS 
      · refine Tr.aload_n (pc := 30) (i := 0) d_X5_choice_30 rfl rfl ?_
        refine Tr.callV (pc := 31) (as := []) d_X5_choice_31 s_5_174 ok_X5_sum rfl rfl (Nat.le_of_ble_eq_true rfl) (Nat.le_of_ble_eq_true rfl) (by decide) (ty_6 hS.1.1) ?_
        refine Tr.imp (Tr.deep (by decide) (sp_X5_sum_6_w12 hS.1 hE ((St.kp hS (by decide) (by decide) (by decide)).trans en_6_2) ((St.kp hS (by decide) (by decide) (by decide)).trans en_6_3) ((St.kp hS (by decide) (by decide) (by decide)).trans en_6_4) ((St.kp h24 (by decide) (by decide) (by decide)).trans (x15_6_6 (by omega))))) ?_
        rintro M31 _ ⟨h31, r31, rfl, lr31, ur31, x31_6_6⟩
        have hS := St.tr hS h31 (by decide) (by decide)
        refine Tr.sc [(0, r31)] rfl ?_
        refine Tr.if_eq (pc := 34) (tgt := 50) d_X5_choice_34 rfl (fun c34 => ?_) (fun c34 => ?_)
        · refine Tr.pick [0, 1] (ls2 := [(0, (2, 6)), (1, (0, a1))]) rfl ?_
          exact J50 _ hS 
        · refine Tr.aload_n (pc := 37) (i := 0) d_X5_choice_37 rfl rfl ?_
          refine Tr.bipush (pc := 38) d_X5_choice_38 rfl (by decide) ?_
          refine Tr.callV (pc := 40) (as := [_]) d_X5_choice_40 s_5_209 ok_X5_takeClosing rfl rfl (Nat.le_of_ble_eq_true rfl) (Nat.le_of_ble_eq_true rfl) (by decide) (ty_6 hS.1.1) ?_
          refine Tr.imp (Tr.deep (by decide) (sp_X5_takeClosing_6_w5 hS.1 ((St.kp hS (by decide) (by decide) (by decide)).trans en_6_2) (x31_6_6 (by omega)) 41 (by omega))) ?_
          rintro M40 _ ⟨h40, r40, rfl, lr40, ur40, x40_6_6⟩
          have hS := St.tr hS h40 (by decide) (by decide)
          refine Tr.sc [(0, r40)] rfl ?_
          refine Tr.if_eq (pc := 43) (tgt := 50) d_X5_choice_43 rfl (fun c43 => ?_) (fun c43 => ?_)
          · refine Tr.pick [0, 1] (ls2 := [(0, (2, 6)), (1, (0, a1))]) rfl ?_
            exact J50 _ hS 
          · refine Tr.iconst (pc := 46) d_X5_choice_46 (by decide) ?_
            refine Tr.goto (pc := 47) (tgt := 51) d_X5_choice_47 rfl ?_
            refine Tr.pick [0, 1] (ls2 := [(0, (2, 6)), (1, (0, a1))]) rfl ?_
            exact J51 _ _ hS (by omega) (fun _ => (x40_6_6 (by omega)))

def ws_X5_piece_6_w11 : List (Int × Int) := [(6, 0), (6, 1), (6, 5), (6, 6), (15, 11)]
def as_X5_piece_6_w11 : List Int := [24, 25]
def q_X5_piece_6_w11 (M0 M' : Mem) (r : Option PV) : Prop := St Tru ws_X5_piece_6_w11 as_X5_piece_6_w11 M0 M' ∧ ∃ v : Int, r = some (0, v) ∧ 0 ≤ v ∧ v ≤ 1 ∧ ((1 ≤ v ∧ v ≤ 1) → rd M' 6 6 = 2)
set_option maxRecDepth 100000 in
set_option maxHeartbeats 4000000 in
theorem sp_X5_piece_6_w11 {l : Launch} {K : EC} {M0 : Mem} {xq : Int} (hI : In Tru M0) (hE : e_all K xq) (en_6_2 : rd M0 6 2 = 2) (en_6_3 : rd M0 6 3 = 7) (en_6_4 : rd M0 6 4 = 15) (en_6_6 : rd M0 6 6 = 2)   : Tr l K 27 mX5_piece 0 [(0, (2, 6))] [] M0 (q_X5_piece_6_w11 M0) := by
  have hS : St Tru ws_X5_piece_6_w11 as_X5_piece_6_w11 M0 M0 := St.rf hI
  refine Tr.aload_n (pc := 0) (i := 0) d_X5_piece_0 rfl rfl ?_
  refine Tr.getf (pc := 1) d_X5_piece_1 f_5_18 (by decide) (by decide) (ty_6 hS.1.1) ?_
  refine Tr.tp 2 ((St.kp hS (by decide) (by decide) (by decide)).trans en_6_2) ?_
  refine Tr.getf (pc := 4) d_X5_piece_4 f_5_50 (by decide) (by decide) (ty_2 hS.1.1) ?_
  refine Tr.tp 3 (fx_2_0 hS.1.1) ?_
  refine Tr.aload_n (pc := 7) (i := 0) d_X5_piece_7 rfl rfl ?_
  refine Tr.getf (pc := 8) d_X5_piece_8 f_5_36 (by decide) (by decide) (ty_6 hS.1.1) ?_
  refine Tr.gen (P := fun v => 0 ≤ v ∧ v ≤ 900) (ir_6_5 hS.1.2.1) (fun r8 er8 br8 => ?_)
  refine Tr.iald (pc := 11) d_X5_piece_11 (ty_3 hS.1.1) (by omega) (by omega) ?_
  refine Tr.gen (P := fun v => (-2147483648) ≤ v ∧ v ≤ 2147483647) (ar_3 hS.1.2.1 _) (fun r11 er11 br11 => ?_)
  refine Tr.iconst (pc := 12) d_X5_piece_12 (by decide) ?_
  refine Tr.icmp_ne (pc := 13) (tgt := 44) d_X5_piece_13 rfl (fun c13 => ?_) (fun c13 => ?_)
  · refine Tr.aload_n (pc := 44) (i := 0) d_X5_piece_44 rfl rfl ?_
    refine Tr.getf (pc := 45) d_X5_piece_45 f_5_18 (by decide) (by decide) (ty_6 hS.1.1) ?_
    refine Tr.tp 2 ((St.kp hS (by decide) (by decide) (by decide)).trans en_6_2) ?_
    refine Tr.getf (pc := 48) d_X5_piece_48 f_5_50 (by decide) (by decide) (ty_2 hS.1.1) ?_
    refine Tr.tp 3 (fx_2_0 hS.1.1) ?_
    refine Tr.aload_n (pc := 51) (i := 0) d_X5_piece_51 rfl rfl ?_
    refine Tr.getf (pc := 52) d_X5_piece_52 f_5_36 (by decide) (by decide) (ty_6 hS.1.1) ?_
    refine Tr.tp r8 er8 ?_
    refine Tr.iald (pc := 55) d_X5_piece_55 (ty_3 hS.1.1) (by omega) (by omega) ?_
    refine Tr.tp r11 er11 ?_
    refine Tr.iconst (pc := 56) d_X5_piece_56 (by decide) ?_
    refine Tr.icmp_ne (pc := 57) (tgt := 65) d_X5_piece_57 rfl (fun c57 => ?_) (fun c57 => ?_)
    · refine Tr.aload_n (pc := 65) (i := 0) d_X5_piece_65 rfl rfl ?_
      refine Tr.bipush (pc := 66) d_X5_piece_66 rfl (by decide) ?_
      refine Tr.callV (pc := 68) (as := [_]) d_X5_piece_68 s_5_77 ok_X5_isSign rfl rfl (Nat.le_of_ble_eq_true rfl) (Nat.le_of_ble_eq_true rfl) (by decide) (ty_6 hS.1.1) ?_
      refine Tr.imp (Tr.deep (by decide) (sp_X5_isSign_6_w2 hS.1 ((St.kp hS (by decide) (by decide) (by decide)).trans en_6_2) 40 (by omega))) ?_
      rintro M68 _ ⟨h68, r68, rfl, lr68, ur68⟩
      have hS := St.tr hS h68 (by decide) (by decide)
      refine Tr.sc [(0, r68)] rfl ?_
      refine Tr.if_eq (pc := 71) (tgt := 105) d_X5_piece_71 rfl (fun c71 => ?_) (fun c71 => ?_)
      · refine Tr.aload_n (pc := 105) (i := 0) d_X5_piece_105 rfl rfl ?_
        refine Tr.bipush (pc := 106) d_X5_piece_106 rfl (by decide) ?_
        refine Tr.callV (pc := 108) (as := [_]) d_X5_piece_108 s_5_71 ok_X5_isOwn rfl rfl (Nat.le_of_ble_eq_true rfl) (Nat.le_of_ble_eq_true rfl) (by decide) (ty_6 hS.1.1) ?_
        refine Tr.imp (Tr.deep (by decide) (sp_X5_isOwn_6_w4 hS.1 ((St.kp hS (by decide) (by decide) (by decide)).trans en_6_2) 24 (by omega))) ?_
        rintro M108 _ ⟨h108, r108, rfl, lr108, ur108⟩
        have hS := St.tr hS h108 (by decide) (by decide)
        refine Tr.sc [(0, r108)] rfl ?_
        refine Tr.if_eq (pc := 111) (tgt := 128) d_X5_piece_111 rfl (fun c111 => ?_) (fun c111 => ?_)
        · refine Tr.aload_n (pc := 128) (i := 0) d_X5_piece_128 rfl rfl ?_
          refine Tr.bipush (pc := 129) d_X5_piece_129 rfl (by decide) ?_
          refine Tr.callV (pc := 131) (as := [_]) d_X5_piece_131 s_5_71 ok_X5_isOwn rfl rfl (Nat.le_of_ble_eq_true rfl) (Nat.le_of_ble_eq_true rfl) (by decide) (ty_6 hS.1.1) ?_
          refine Tr.imp (Tr.deep (by decide) (sp_X5_isOwn_6_w4 hS.1 ((St.kp hS (by decide) (by decide) (by decide)).trans en_6_2) 25 (by omega))) ?_
          rintro M131 _ ⟨h131, r131, rfl, lr131, ur131⟩
          have hS := St.tr hS h131 (by decide) (by decide)
          refine Tr.sc [(0, r131)] rfl ?_
          have J146 : ∀ (M : Mem), St Tru ws_X5_piece_6_w11 as_X5_piece_6_w11 M0 M → rd M 3 r8 = r11 → rd M 6 5 = r8 → rd M 6 6 = 2 → Tr l K 27 mX5_piece 146 [(0, (2, 6))] [] M (q_X5_piece_6_w11 M0) := by
            intro M  hS  k146_3_r810 k146_6_5 k146_6_6
            refine Tr.aload_n (pc := 146) (i := 0) d_X5_piece_146 rfl rfl ?_
            refine Tr.aload_n (pc := 147) (i := 0) d_X5_piece_147 rfl rfl ?_
            refine Tr.bipush (pc := 148) d_X5_piece_148 rfl (by decide) ?_
            refine Tr.callV (pc := 150) (as := [_]) d_X5_piece_150 s_5_71 ok_X5_isOwn rfl rfl (Nat.le_of_ble_eq_true rfl) (Nat.le_of_ble_eq_true rfl) (by decide) (ty_6 hS.1.1) ?_
            refine Tr.imp (Tr.deep (by decide) (sp_X5_isOwn_6_w4 hS.1 ((St.kp hS (by decide) (by decide) (by decide)).trans en_6_2) 25 (by omega))) ?_
            rintro M150 _ ⟨h150, r150, rfl, lr150, ur150⟩
            have hS := St.tr hS h150 (by decide) (by decide)
            refine Tr.sc [(0, r150), (2, 6)] rfl ?_
            have J163 : ∀ (M : Mem) (q163_1 : Int), St Tru ws_X5_piece_6_w11 as_X5_piece_6_w11 M0 M → (11 ≤ q163_1 ∧ q163_1 ≤ 12) → rd M 3 r8 = r11 → rd M 6 5 = r8 → rd M 6 6 = 2 → Tr l K 27 mX5_piece 163 [] [(0, q163_1), (2, 6)] M (q_X5_piece_6_w11 M0) := by
              intro M q163_1 hS bq163_1 k163_3_r810 k163_6_5 k163_6_6
              refine Tr.callV (pc := 163) (as := [_]) d_X5_piece_163 s_5_233 ok_X5_choice rfl rfl (Nat.le_of_ble_eq_true rfl) (Nat.le_of_ble_eq_true rfl) (by decide) (ty_6 hS.1.1) ?_
              refine Tr.imp (Tr.deep (by decide) (sp_X5_choice_6_w15 hS.1 hE ((St.kp hS (by decide) (by decide) (by decide)).trans en_6_2) ((St.kp hS (by decide) (by decide) (by decide)).trans en_6_3) ((St.kp hS (by decide) (by decide) (by decide)).trans en_6_4) k163_6_6 q163_1 (by omega))) ?_
              rintro M163 _ ⟨h163, r163, rfl, lr163, ur163, x163_6_6⟩
              have hS := St.tr hS h163 (by decide) (by decide)
              refine Tr.sc [(0, r163)] rfl ?_
              exact Tr.zret (pc := 166) d_X5_piece_166 rfl (by omega) ⟨hS, _, rfl, by omega, by omega, fun hq => (x163_6_6 (by omega))⟩
            refine Tr.if_eq (pc := 153) (tgt := 161) d_X5_piece_153 rfl (fun c153 => ?_) (fun c153 => ?_)
            · refine Tr.bipush (pc := 161) d_X5_piece_161 rfl (by decide) ?_
              refine Tr.pick [] (ls2 := []) rfl ?_
              exact J163 _ _ hS (by omega) ((St.ka h150 (by decide) (by decide) (by decide)).trans k146_3_r810) ((St.kp h150 (by decide) (by decide) (by decide)).trans k146_6_5) ((St.kp h150 (by decide) (by decide) (by decide)).trans k146_6_6)
            · refine Tr.bipush (pc := 156) d_X5_piece_156 rfl (by decide) ?_
              refine Tr.goto (pc := 158) (tgt := 163) d_X5_piece_158 rfl ?_
              refine Tr.pick [] (ls2 := []) rfl ?_
              exact J163 _ _ hS (by omega) ((St.ka h150 (by decide) (by decide) (by decide)).trans k146_3_r810) ((St.kp h150 (by decide) (by decide) (by decide)).trans k146_6_5) ((St.kp h150 (by decide) (by decide) (by decide)).trans k146_6_6)
          refine Tr.if_ne (pc := 134) (tgt := 146) d_X5_piece_134 rfl (fun c134 => ?_) (fun c134 => ?_)
          · refine Tr.pick [0] (ls2 := [(0, (2, 6))]) rfl ?_
            exact J146 _ hS ((St.ka h131 (by decide) (by decide) (by decide)).trans ((St.ka h108 (by decide) (by decide) (by decide)).trans ((St.ka h68 (by decide) (by decide) (by decide)).trans er11))) ((St.kp h131 (by decide) (by decide) (by decide)).trans ((St.kp h108 (by decide) (by decide) (by decide)).trans ((St.kp h68 (by decide) (by decide) (by decide)).trans er8))) ((St.kp h131 (by decide) (by decide) (by decide)).trans ((St.kp h108 (by decide) (by decide) (by decide)).trans ((St.kp h68 (by decide) (by decide) (by decide)).trans en_6_6)))
          · refine Tr.aload_n (pc := 137) (i := 0) d_X5_piece_137 rfl rfl ?_
            refine Tr.bipush (pc := 138) d_X5_piece_138 rfl (by decide) ?_
            refine Tr.callV (pc := 140) (as := [_]) d_X5_piece_140 s_5_71 ok_X5_isOwn rfl rfl (Nat.le_of_ble_eq_true rfl) (Nat.le_of_ble_eq_true rfl) (by decide) (ty_6 hS.1.1) ?_
            refine Tr.imp (Tr.deep (by decide) (sp_X5_isOwn_6_w4 hS.1 ((St.kp hS (by decide) (by decide) (by decide)).trans en_6_2) 26 (by omega))) ?_
            rintro M140 _ ⟨h140, r140, rfl, lr140, ur140⟩
            have hS := St.tr hS h140 (by decide) (by decide)
            refine Tr.sc [(0, r140)] rfl ?_
            refine Tr.if_eq (pc := 143) (tgt := 167) d_X5_piece_143 rfl (fun c143 => ?_) (fun c143 => ?_)
            · refine Tr.aload_n (pc := 167) (i := 0) d_X5_piece_167 rfl rfl ?_
              refine Tr.iconst (pc := 168) d_X5_piece_168 (by decide) ?_
              refine Tr.callV (pc := 169) (as := [_]) d_X5_piece_169 s_5_56 ok_X5_refuse rfl rfl (Nat.le_of_ble_eq_true rfl) (Nat.le_of_ble_eq_true rfl) (by decide) (ty_6 hS.1.1) ?_
              refine Tr.imp (Tr.deep (by decide) (sp_X5_refuse_6_w1 hS.1 ((St.kp hS (by decide) (by decide) (by decide)).trans en_6_2) 1 (by omega))) ?_
              rintro M169 _ ⟨h169, r169, rfl, lr169, ur169⟩
              have hS := St.tr hS h169 (by decide) (by decide)
              refine Tr.sc [(0, r169)] rfl ?_
              exact Tr.zret (pc := 172) d_X5_piece_172 rfl (by omega) ⟨hS, _, rfl, by omega, by omega, fun hq => absurd hq (by omega)⟩
            · refine Tr.pick [0] (ls2 := [(0, (2, 6))]) rfl ?_
              exact J146 _ hS ((St.ka h140 (by decide) (by decide) (by decide)).trans ((St.ka h131 (by decide) (by decide) (by decide)).trans ((St.ka h108 (by decide) (by decide) (by decide)).trans ((St.ka h68 (by decide) (by decide) (by decide)).trans er11)))) ((St.kp h140 (by decide) (by decide) (by decide)).trans ((St.kp h131 (by decide) (by decide) (by decide)).trans ((St.kp h108 (by decide) (by decide) (by decide)).trans ((St.kp h68 (by decide) (by decide) (by decide)).trans er8)))) ((St.kp h140 (by decide) (by decide) (by decide)).trans ((St.kp h131 (by decide) (by decide) (by decide)).trans ((St.kp h108 (by decide) (by decide) (by decide)).trans ((St.kp h68 (by decide) (by decide) (by decide)).trans en_6_6))))
        · refine Tr.aload_n (pc := 114) (i := 0) d_X5_piece_114 rfl rfl ?_
          refine Tr.getf (pc := 115) d_X5_piece_115 f_5_32 (by decide) (by decide) (ty_6 hS.1.1) ?_
          refine Tr.tp 15 ((St.kp hS (by decide) (by decide) (by decide)).trans en_6_4) ?_
          refine Tr.iconst (pc := 118) d_X5_piece_118 (by decide) ?_
          refine Tr.iconst (pc := 119) d_X5_piece_119 (by decide) ?_
          refine Tr.callV (pc := 120) (as := [_, _]) d_X5_piece_120 s_5_215 ok_X4_emit rfl rfl (Nat.le_of_ble_eq_true rfl) (Nat.le_of_ble_eq_true rfl) (by decide) (ty_15 hS.1.1) ?_
          refine Tr.imp (Tr.deep (by decide) (sp_X4_emit_15 hS.1.wk 3 (by omega) 0 (by omega) (by omega))) ?_
          rintro M120 _ ⟨h120, rfl⟩
          have hS := St.tr hS h120 (by decide) (by decide)
          refine Tr.sc [] rfl ?_
          refine Tr.aload_n (pc := 123) (i := 0) d_X5_piece_123 rfl rfl ?_
          refine Tr.callV (pc := 124) (as := []) d_X5_piece_124 s_5_74 ok_X5_goOn rfl rfl (Nat.le_of_ble_eq_true rfl) (Nat.le_of_ble_eq_true rfl) (by decide) (ty_6 hS.1.1) ?_
          refine Tr.imp (Tr.deep (by decide) (sp_X5_goOn_6 hS.1 )) ?_
          rintro M124 _ ⟨h124, r124, rfl, lr124, ur124⟩
          have hS := St.tr hS h124 (by decide) (by decide)
          refine Tr.sc [(0, r124)] rfl ?_
          exact Tr.zret (pc := 127) d_X5_piece_127 rfl (by omega) ⟨hS, _, rfl, by omega, by omega, fun _ => ((St.kp h124 (by decide) (by decide) (by decide)).trans ((St.kp h120 (by decide) (by decide) (by decide)).trans ((St.kp h108 (by decide) (by decide) (by decide)).trans ((St.kp h68 (by decide) (by decide) (by decide)).trans en_6_6))))⟩
      · refine Tr.aload_n (pc := 74) (i := 0) d_X5_piece_74 rfl rfl ?_
        refine Tr.bipush (pc := 75) d_X5_piece_75 rfl (by decide) ?_
        refine Tr.callV (pc := 77) (as := [_]) d_X5_piece_77 s_5_206 ok_X5_takeOpening rfl rfl (Nat.le_of_ble_eq_true rfl) (Nat.le_of_ble_eq_true rfl) (by decide) (ty_6 hS.1.1) ?_
        refine Tr.imp (Tr.deep (by decide) (sp_X5_takeOpening_6_w2 hS.1 ((St.kp hS (by decide) (by decide) (by decide)).trans en_6_2) ((St.kp h68 (by decide) (by decide) (by decide)).trans en_6_6) 40 (by omega))) ?_
        rintro M77 _ ⟨h77, r77, rfl, lr77, ur77, x77_6_6⟩
        have hS := St.tr hS h77 (by decide) (by decide)
        refine Tr.sc [(0, r77)] rfl ?_
        refine Tr.if_eq (pc := 80) (tgt := 103) d_X5_piece_80 rfl (fun c80 => ?_) (fun c80 => ?_)
        · refine Tr.iconst (pc := 103) d_X5_piece_103 (by decide) ?_
          exact Tr.zret (pc := 104) d_X5_piece_104 rfl (by omega) ⟨hS, _, rfl, by omega, by omega, fun hq => absurd hq (by omega)⟩
        · refine Tr.aload_n (pc := 83) (i := 0) d_X5_piece_83 rfl rfl ?_
          refine Tr.callV (pc := 84) (as := []) d_X5_piece_84 s_5_174 ok_X5_sum rfl rfl (Nat.le_of_ble_eq_true rfl) (Nat.le_of_ble_eq_true rfl) (by decide) (ty_6 hS.1.1) ?_
          refine Tr.imp (Tr.deep (by decide) (sp_X5_sum_6_w12 hS.1 hE ((St.kp hS (by decide) (by decide) (by decide)).trans en_6_2) ((St.kp hS (by decide) (by decide) (by decide)).trans en_6_3) ((St.kp hS (by decide) (by decide) (by decide)).trans en_6_4) (x77_6_6 (by omega)))) ?_
          rintro M84 _ ⟨h84, r84, rfl, lr84, ur84, x84_6_6⟩
          have hS := St.tr hS h84 (by decide) (by decide)
          refine Tr.sc [(0, r84)] rfl ?_
          refine Tr.if_eq (pc := 87) (tgt := 103) d_X5_piece_87 rfl (fun c87 => ?_) (fun c87 => ?_)
          · refine Tr.iconst (pc := 103) d_X5_piece_103 (by decide) ?_
            exact Tr.zret (pc := 104) d_X5_piece_104 rfl (by omega) ⟨hS, _, rfl, by omega, by omega, fun hq => absurd hq (by omega)⟩
          · refine Tr.aload_n (pc := 90) (i := 0) d_X5_piece_90 rfl rfl ?_
            refine Tr.bipush (pc := 91) d_X5_piece_91 rfl (by decide) ?_
            refine Tr.callV (pc := 93) (as := [_]) d_X5_piece_93 s_5_209 ok_X5_takeClosing rfl rfl (Nat.le_of_ble_eq_true rfl) (Nat.le_of_ble_eq_true rfl) (by decide) (ty_6 hS.1.1) ?_
            refine Tr.imp (Tr.deep (by decide) (sp_X5_takeClosing_6_w5 hS.1 ((St.kp hS (by decide) (by decide) (by decide)).trans en_6_2) (x84_6_6 (by omega)) 41 (by omega))) ?_
            rintro M93 _ ⟨h93, r93, rfl, lr93, ur93, x93_6_6⟩
            have hS := St.tr hS h93 (by decide) (by decide)
            refine Tr.sc [(0, r93)] rfl ?_
            refine Tr.if_eq (pc := 96) (tgt := 103) d_X5_piece_96 rfl (fun c96 => ?_) (fun c96 => ?_)
            · refine Tr.iconst (pc := 103) d_X5_piece_103 (by decide) ?_
              exact Tr.zret (pc := 104) d_X5_piece_104 rfl (by omega) ⟨hS, _, rfl, by omega, by omega, fun hq => absurd hq (by omega)⟩
            · refine Tr.iconst (pc := 99) d_X5_piece_99 (by decide) ?_
              refine Tr.goto (pc := 100) (tgt := 104) d_X5_piece_100 rfl ?_
              exact Tr.zret (pc := 104) d_X5_piece_104 rfl (by omega) ⟨hS, _, rfl, by omega, by omega, fun _ => (x93_6_6 (by omega))⟩
    · refine Tr.aload_n (pc := 60) (i := 0) d_X5_piece_60 rfl rfl ?_
      refine Tr.callV (pc := 61) (as := []) d_X5_piece_61 s_5_230 ok_X5_namedPiece rfl rfl (Nat.le_of_ble_eq_true rfl) (Nat.le_of_ble_eq_true rfl) (by decide) (ty_6 hS.1.1) ?_
      refine Tr.imp (Tr.deep (by decide) (sp_X5_namedPiece_6_w1 hS.1 hE ((St.kp hS (by decide) (by decide) (by decide)).trans en_6_2) ((St.kp hS (by decide) (by decide) (by decide)).trans en_6_3) ((St.kp hS (by decide) (by decide) (by decide)).trans en_6_4))) ?_
      rintro M61 _ ⟨h61, r61, rfl, lr61, ur61⟩
      have hS := St.tr hS h61 (by decide) (by decide)
      refine Tr.sc [(0, r61)] rfl ?_
      exact Tr.zret (pc := 64) d_X5_piece_64 rfl (by omega) ⟨hS, _, rfl, by omega, by omega, fun _ => ((St.kp h61 (by decide) (by decide) (by decide)).trans en_6_6)⟩
  · refine Tr.aload_n (pc := 16) (i := 0) d_X5_piece_16 rfl rfl ?_
    refine Tr.iconst (pc := 17) d_X5_piece_17 (by decide) ?_
    refine Tr.sipush (pc := 18) d_X5_piece_18 rfl (by decide) ?_
    refine Tr.callV (pc := 21) (as := [_, _]) d_X5_piece_21 s_5_87 ok_X5_takeNumber rfl rfl (Nat.le_of_ble_eq_true rfl) (Nat.le_of_ble_eq_true rfl) (by decide) (ty_6 hS.1.1) ?_
    refine Tr.imp (Tr.deep (by decide) (sp_X5_takeNumber_6_w2 hS.1 ((St.kp hS (by decide) (by decide) (by decide)).trans en_6_2) 0 (by omega) 999 (by omega))) ?_
    rintro M21 _ ⟨h21, r21, rfl, lr21, ur21⟩
    have hS := St.tr hS h21 (by decide) (by decide)
    refine Tr.sc [(0, r21)] rfl ?_
    refine Tr.istore_n (pc := 24) (i := 1) (ls2 := [(1, (0, r21)), (0, (2, 6))]) d_X5_piece_24 rfl (by decide) rfl ?_
    refine Tr.aload_n (pc := 25) (i := 0) d_X5_piece_25 rfl rfl ?_
    refine Tr.getf (pc := 26) d_X5_piece_26 f_5_32 (by decide) (by decide) (ty_6 hS.1.1) ?_
    refine Tr.tp 15 ((St.kp hS (by decide) (by decide) (by decide)).trans en_6_4) ?_
    refine Tr.iconst (pc := 29) d_X5_piece_29 (by decide) ?_
    refine Tr.iload_n (pc := 30) (i := 1) d_X5_piece_30 rfl rfl ?_
    refine Tr.callV (pc := 31) (as := [_, _]) d_X5_piece_31 s_5_215 ok_X4_emit rfl rfl (Nat.le_of_ble_eq_true rfl) (Nat.le_of_ble_eq_true rfl) (by decide) (ty_15 hS.1.1) ?_
    refine Tr.imp (Tr.deep (by decide) (sp_X4_emit_15_w3 hS.1.wk 0 (by omega) r21 (by omega) (by omega))) ?_
    rintro M31 _ ⟨h31, rfl⟩
    have hS := St.tr hS h31 (by decide) (by decide)
    refine Tr.sc [] rfl ?_
    refine Tr.iload_n (pc := 34) (i := 1) d_X5_piece_34 rfl rfl ?_
    refine Tr.if_lt (pc := 35) (tgt := 42) d_X5_piece_35 rfl (fun c35 => ?_) (fun c35 => ?_)
    · refine Tr.iconst (pc := 42) d_X5_piece_42 (by decide) ?_
      exact Tr.zret (pc := 43) d_X5_piece_43 rfl (by omega) ⟨hS, _, rfl, by omega, by omega, fun hq => absurd hq (by omega)⟩
    · refine Tr.iconst (pc := 38) d_X5_piece_38 (by decide) ?_
      refine Tr.goto (pc := 39) (tgt := 43) d_X5_piece_39 rfl ?_
      exact Tr.zret (pc := 43) d_X5_piece_43 rfl (by omega) ⟨hS, _, rfl, by omega, by omega, fun _ => ((St.kp h31 (by decide) (by decide) (by decide)).trans ((St.kp h21 (by decide) (by decide) (by decide)).trans en_6_6))⟩

def ws_X5_product_6_w11 : List (Int × Int) := [(6, 0), (6, 1), (6, 5), (6, 6), (15, 11)]
def as_X5_product_6_w11 : List Int := [24, 25]
def q_X5_product_6_w11 (M0 M' : Mem) (r : Option PV) : Prop := St Tru ws_X5_product_6_w11 as_X5_product_6_w11 M0 M' ∧ ∃ v : Int, r = some (0, v) ∧ 0 ≤ v ∧ v ≤ 1 ∧ ((1 ≤ v ∧ v ≤ 1) → rd M' 6 6 = 2)
set_option maxRecDepth 100000 in
set_option maxHeartbeats 4000000 in
theorem sp_X5_product_6_w11 {l : Launch} {K : EC} {M0 : Mem} {xq : Int} (hI : In Tru M0) (hE : e_all K xq) (en_6_2 : rd M0 6 2 = 2) (en_6_3 : rd M0 6 3 = 7) (en_6_4 : rd M0 6 4 = 15) (en_6_6 : rd M0 6 6 = 2)   : Tr l K 28 mX5_product 0 [(0, (2, 6))] [] M0 (q_X5_product_6_w11 M0) := by
  have hS : St Tru ws_X5_product_6_w11 as_X5_product_6_w11 M0 M0 := St.rf hI
  refine Tr.aload_n (pc := 0) (i := 0) d_X5_product_0 rfl rfl ?_
  refine Tr.callV (pc := 1) (as := []) d_X5_product_1 s_5_227 ok_X5_piece rfl rfl (Nat.le_of_ble_eq_true rfl) (Nat.le_of_ble_eq_true rfl) (by decide) (ty_6 hS.1.1) ?_
  refine Tr.imp (Tr.deep (by decide) (sp_X5_piece_6_w11 hS.1 hE ((St.kp hS (by decide) (by decide) (by decide)).trans en_6_2) ((St.kp hS (by decide) (by decide) (by decide)).trans en_6_3) ((St.kp hS (by decide) (by decide) (by decide)).trans en_6_4) en_6_6)) ?_
  rintro M1 _ ⟨h1, r1, rfl, lr1, ur1, x1_6_6⟩
  have hS := St.tr hS h1 (by decide) (by decide)
  refine Tr.sc [(0, r1)] rfl ?_
  refine Tr.istore_n (pc := 4) (i := 1) (ls2 := [(1, (0, r1)), (0, (2, 6))]) d_X5_product_4 rfl (by decide) rfl ?_
  refine Tr.iconst (pc := 5) d_X5_product_5 (by decide) ?_
  refine Tr.istore_n (pc := 6) (i := 2) (ls2 := [(2, (0, 0)), (1, (0, r1)), (0, (2, 6))]) d_X5_product_6 rfl (by decide) rfl ?_
  have J7 : ∀ (n7 : Nat) (M : Mem) (p7_1 p7_2 : Int), St Tru ws_X5_product_6_w11 as_X5_product_6_w11 M0 M → (0 ≤ p7_1 ∧ p7_1 ≤ 1) → (0 ≤ p7_2 ∧ p7_2 ≤ 900) → (p7_1 = 1 → rd M 6 6 = 2) → (900 - p7_2).toNat < n7 → Tr l K 28 mX5_product 7 [(0, (2, 6)), (1, (0, p7_1)), (2, (0, p7_2))] [] M (q_X5_product_6_w11 M0) := by
    intro n7
    induction n7 with
    | zero => intro M p7_1 p7_2 hS bp7_1 bp7_2  y7_p7_1_6_60 hm7; exact absurd hm7 (Nat.not_lt_zero _)
    | succ n7 J7 =>
      intro M p7_1 p7_2 hS bp7_1 bp7_2  y7_p7_1_6_60 hm7
      have y7_p7_1_6_6 : 1 ≤ p7_1 ∧ p7_1 ≤ 1 → rd M 6 6 = 2 := fun hq => y7_p7_1_6_60 (by omega)
      refine Tr.iload_n (pc := 7) (i := 2) d_X5_product_7 rfl rfl ?_
      refine Tr.sipush (pc := 8) d_X5_product_8 rfl (by decide) ?_
      refine Tr.icmp_ge (pc := 11) (tgt := 101) d_X5_product_11 rfl (fun c11 => ?_) (fun c11 => ?_)
      · refine Tr.iload_n (pc := 101) (i := 1) d_X5_product_101 rfl rfl ?_
        exact Tr.zret (pc := 102) d_X5_product_102 rfl (by omega) ⟨hS, _, rfl, by omega, by omega, fun hq => (y7_p7_1_6_6 (by omega))⟩
      · refine Tr.iload_n (pc := 14) (i := 1) d_X5_product_14 rfl rfl ?_
        refine Tr.if_eq (pc := 15) (tgt := 101) d_X5_product_15 rfl (fun c15 => ?_) (fun c15 => ?_)
        · refine Tr.iload_n (pc := 101) (i := 1) d_X5_product_101 rfl rfl ?_
          exact Tr.zret (pc := 102) d_X5_product_102 rfl (by omega) ⟨hS, _, rfl, by omega, by omega, fun hq => absurd hq (by omega)⟩
        · refine Tr.aload_n (pc := 18) (i := 0) d_X5_product_18 rfl rfl ?_
          refine Tr.bipush (pc := 19) d_X5_product_19 rfl (by decide) ?_
          refine Tr.callV (pc := 21) (as := [_]) d_X5_product_21 s_5_77 ok_X5_isSign rfl rfl (Nat.le_of_ble_eq_true rfl) (Nat.le_of_ble_eq_true rfl) (by decide) (ty_6 hS.1.1) ?_
          refine Tr.imp (Tr.deep (by decide) (sp_X5_isSign_6_w2 hS.1 ((St.kp hS (by decide) (by decide) (by decide)).trans en_6_2) 42 (by omega))) ?_
          rintro M21 _ ⟨h21, r21, rfl, lr21, ur21⟩
          have hS := St.tr hS h21 (by decide) (by decide)
          refine Tr.sc [(0, r21)] rfl ?_
          have J45 : ∀ (M : Mem), St Tru ws_X5_product_6_w11 as_X5_product_6_w11 M0 M → rd M 6 6 = 2 → Tr l K 28 mX5_product 45 [(0, (2, 6)), (2, (0, p7_2))] [] M (q_X5_product_6_w11 M0) := by
            intro M  hS  k45_6_6
            refine Tr.aload_n (pc := 45) (i := 0) d_X5_product_45 rfl rfl ?_
            refine Tr.bipush (pc := 46) d_X5_product_46 rfl (by decide) ?_
            refine Tr.callV (pc := 48) (as := [_]) d_X5_product_48 s_5_77 ok_X5_isSign rfl rfl (Nat.le_of_ble_eq_true rfl) (Nat.le_of_ble_eq_true rfl) (by decide) (ty_6 hS.1.1) ?_
            refine Tr.imp (Tr.deep (by decide) (sp_X5_isSign_6_w2 hS.1 ((St.kp hS (by decide) (by decide) (by decide)).trans en_6_2) 42 (by omega))) ?_
            rintro M48 _ ⟨h48, r48, rfl, lr48, ur48⟩
            have hS := St.tr hS h48 (by decide) (by decide)
            refine Tr.sc [(0, r48)] rfl ?_
            have J75 : ∀ (M : Mem) (q75_0 : Int), St Tru ws_X5_product_6_w11 as_X5_product_6_w11 M0 M → (8 ≤ q75_0 ∧ q75_0 ≤ 10) → rd M 6 6 = 2 → Tr l K 28 mX5_product 75 [(0, (2, 6)), (2, (0, p7_2))] [(0, q75_0)] M (q_X5_product_6_w11 M0) := by
              intro M q75_0 hS bq75_0 k75_6_6
              refine Tr.istore_n (pc := 75) (i := 3) (ls2 := [(3, (0, q75_0)), (0, (2, 6)), (2, (0, p7_2))]) d_X5_product_75 rfl (by decide) rfl ?_
              refine Tr.aload_n (pc := 76) (i := 0) d_X5_product_76 rfl rfl ?_
              refine Tr.callV (pc := 77) (as := []) d_X5_product_77 s_5_74 ok_X5_goOn rfl rfl (Nat.le_of_ble_eq_true rfl) (Nat.le_of_ble_eq_true rfl) (by decide) (ty_6 hS.1.1) ?_
              refine Tr.imp (Tr.deep (by decide) (sp_X5_goOn_6 hS.1 )) ?_
              rintro M77 _ ⟨h77, r77, rfl, lr77, ur77⟩
              have hS := St.tr hS h77 (by decide) (by decide)
              refine Tr.sc [(0, r77)] rfl ?_
              refine Tr.pop (pc := 80) d_X5_product_80 ne01 ?_
              refine Tr.aload_n (pc := 81) (i := 0) d_X5_product_81 rfl rfl ?_
              refine Tr.callV (pc := 82) (as := []) d_X5_product_82 s_5_227 ok_X5_piece rfl rfl (Nat.le_of_ble_eq_true rfl) (Nat.le_of_ble_eq_true rfl) (by decide) (ty_6 hS.1.1) ?_
              refine Tr.imp (Tr.deep (by decide) (sp_X5_piece_6_w11 hS.1 hE ((St.kp hS (by decide) (by decide) (by decide)).trans en_6_2) ((St.kp hS (by decide) (by decide) (by decide)).trans en_6_3) ((St.kp hS (by decide) (by decide) (by decide)).trans en_6_4) ((St.kp h77 (by decide) (by decide) (by decide)).trans k75_6_6))) ?_
              rintro M82 _ ⟨h82, r82, rfl, lr82, ur82, x82_6_6⟩
              have hS := St.tr hS h82 (by decide) (by decide)
              refine Tr.sc [(0, r82)] rfl ?_
              refine Tr.istore_n (pc := 85) (i := 1) (ls2 := [(1, (0, r82)), (3, (0, q75_0)), (0, (2, 6)), (2, (0, p7_2))]) d_X5_product_85 rfl (by decide) rfl ?_
              refine Tr.aload_n (pc := 86) (i := 0) d_X5_product_86 rfl rfl ?_
              refine Tr.getf (pc := 87) d_X5_product_87 f_5_32 (by decide) (by decide) (ty_6 hS.1.1) ?_
              refine Tr.tp 15 ((St.kp hS (by decide) (by decide) (by decide)).trans en_6_4) ?_
              refine Tr.iload_n (pc := 90) (i := 3) d_X5_product_90 rfl rfl ?_
              refine Tr.iconst (pc := 91) d_X5_product_91 (by decide) ?_
              refine Tr.callV (pc := 92) (as := [_, _]) d_X5_product_92 s_5_215 ok_X4_emit rfl rfl (Nat.le_of_ble_eq_true rfl) (Nat.le_of_ble_eq_true rfl) (by decide) (ty_15 hS.1.1) ?_
              refine Tr.imp (Tr.deep (by decide) (sp_X4_emit_15_w5 hS.1.wk q75_0 (by omega) 0 (by omega) (by omega))) ?_
              rintro M92 _ ⟨h92, rfl⟩
              have hS := St.tr hS h92 (by decide) (by decide)
              refine Tr.sc [] rfl ?_
              refine Tr.iincV (pc := 95) (n2 := (p7_2 + 1)) (ls2 := [(2, (0, (p7_2 + 1))), (1, (0, r82)), (3, (0, q75_0)), (0, (2, 6))]) d_X5_product_95 rfl (by decide) ((w32_id (by omega)).trans (by omega)) rfl ?_
              refine Tr.goto (pc := 98) (tgt := 7) d_X5_product_98 rfl ?_
              refine Tr.pick [3, 1, 0] (ls2 := [(0, (2, 6)), (1, (0, r82)), (2, (0, (p7_2 + 1)))]) rfl ?_
              exact J7 _ _ _ hS (by omega) (by omega) (fun hq => ((St.kp h92 (by decide) (by decide) (by decide)).trans (x82_6_6 (by omega)))) (by omega)
            refine Tr.if_eq (pc := 51) (tgt := 59) d_X5_product_51 rfl (fun c51 => ?_) (fun c51 => ?_)
            · refine Tr.aload_n (pc := 59) (i := 0) d_X5_product_59 rfl rfl ?_
              refine Tr.bipush (pc := 60) d_X5_product_60 rfl (by decide) ?_
              refine Tr.callV (pc := 62) (as := [_]) d_X5_product_62 s_5_77 ok_X5_isSign rfl rfl (Nat.le_of_ble_eq_true rfl) (Nat.le_of_ble_eq_true rfl) (by decide) (ty_6 hS.1.1) ?_
              refine Tr.imp (Tr.deep (by decide) (sp_X5_isSign_6_w2 hS.1 ((St.kp hS (by decide) (by decide) (by decide)).trans en_6_2) 47 (by omega))) ?_
              rintro M62 _ ⟨h62, r62, rfl, lr62, ur62⟩
              have hS := St.tr hS h62 (by decide) (by decide)
              refine Tr.sc [(0, r62)] rfl ?_
              refine Tr.if_eq (pc := 65) (tgt := 73) d_X5_product_65 rfl (fun c65 => ?_) (fun c65 => ?_)
              · refine Tr.bipush (pc := 73) d_X5_product_73 rfl (by decide) ?_
                refine Tr.pick [0, 1] (ls2 := [(0, (2, 6)), (2, (0, p7_2))]) rfl ?_
                exact J75 _ _ hS (by omega) ((St.kp h62 (by decide) (by decide) (by decide)).trans ((St.kp h48 (by decide) (by decide) (by decide)).trans k45_6_6))
              · refine Tr.bipush (pc := 68) d_X5_product_68 rfl (by decide) ?_
                refine Tr.goto (pc := 70) (tgt := 75) d_X5_product_70 rfl ?_
                refine Tr.pick [0, 1] (ls2 := [(0, (2, 6)), (2, (0, p7_2))]) rfl ?_
                exact J75 _ _ hS (by omega) ((St.kp h62 (by decide) (by decide) (by decide)).trans ((St.kp h48 (by decide) (by decide) (by decide)).trans k45_6_6))
            · refine Tr.bipush (pc := 54) d_X5_product_54 rfl (by decide) ?_
              refine Tr.goto (pc := 56) (tgt := 75) d_X5_product_56 rfl ?_
              refine Tr.pick [0, 1] (ls2 := [(0, (2, 6)), (2, (0, p7_2))]) rfl ?_
              exact J75 _ _ hS (by omega) ((St.kp h48 (by decide) (by decide) (by decide)).trans k45_6_6)
          refine Tr.if_ne (pc := 24) (tgt := 45) d_X5_product_24 rfl (fun c24 => ?_) (fun c24 => ?_)
          · refine Tr.pick [0, 2] (ls2 := [(0, (2, 6)), (2, (0, p7_2))]) rfl ?_
            exact J45 _ hS ((St.kp h21 (by decide) (by decide) (by decide)).trans (y7_p7_1_6_6 (by omega)))
          · refine Tr.aload_n (pc := 27) (i := 0) d_X5_product_27 rfl rfl ?_
            refine Tr.bipush (pc := 28) d_X5_product_28 rfl (by decide) ?_
            refine Tr.callV (pc := 30) (as := [_]) d_X5_product_30 s_5_77 ok_X5_isSign rfl rfl (Nat.le_of_ble_eq_true rfl) (Nat.le_of_ble_eq_true rfl) (by decide) (ty_6 hS.1.1) ?_
            refine Tr.imp (Tr.deep (by decide) (sp_X5_isSign_6_w2 hS.1 ((St.kp hS (by decide) (by decide) (by decide)).trans en_6_2) 47 (by omega))) ?_
            rintro M30 _ ⟨h30, r30, rfl, lr30, ur30⟩
            have hS := St.tr hS h30 (by decide) (by decide)
            refine Tr.sc [(0, r30)] rfl ?_
            refine Tr.if_ne (pc := 33) (tgt := 45) d_X5_product_33 rfl (fun c33 => ?_) (fun c33 => ?_)
            · refine Tr.pick [0, 2] (ls2 := [(0, (2, 6)), (2, (0, p7_2))]) rfl ?_
              exact J45 _ hS ((St.kp h30 (by decide) (by decide) (by decide)).trans ((St.kp h21 (by decide) (by decide) (by decide)).trans (y7_p7_1_6_6 (by omega))))
            · refine Tr.aload_n (pc := 36) (i := 0) d_X5_product_36 rfl rfl ?_
              refine Tr.bipush (pc := 37) d_X5_product_37 rfl (by decide) ?_
              refine Tr.callV (pc := 39) (as := [_]) d_X5_product_39 s_5_77 ok_X5_isSign rfl rfl (Nat.le_of_ble_eq_true rfl) (Nat.le_of_ble_eq_true rfl) (by decide) (ty_6 hS.1.1) ?_
              refine Tr.imp (Tr.deep (by decide) (sp_X5_isSign_6_w2 hS.1 ((St.kp hS (by decide) (by decide) (by decide)).trans en_6_2) 37 (by omega))) ?_
              rintro M39 _ ⟨h39, r39, rfl, lr39, ur39⟩
              have hS := St.tr hS h39 (by decide) (by decide)
              refine Tr.sc [(0, r39)] rfl ?_
              refine Tr.if_eq (pc := 42) (tgt := 101) d_X5_product_42 rfl (fun c42 => ?_) (fun c42 => ?_)
              · refine Tr.iload_n (pc := 101) (i := 1) d_X5_product_101 rfl rfl ?_
                exact Tr.zret (pc := 102) d_X5_product_102 rfl (by omega) ⟨hS, _, rfl, by omega, by omega, fun _ => ((St.kp h39 (by decide) (by decide) (by decide)).trans ((St.kp h30 (by decide) (by decide) (by decide)).trans ((St.kp h21 (by decide) (by decide) (by decide)).trans (y7_p7_1_6_6 (by omega)))))⟩
              · refine Tr.pick [0, 2] (ls2 := [(0, (2, 6)), (2, (0, p7_2))]) rfl ?_
                exact J45 _ hS ((St.kp h39 (by decide) (by decide) (by decide)).trans ((St.kp h30 (by decide) (by decide) (by decide)).trans ((St.kp h21 (by decide) (by decide) (by decide)).trans (y7_p7_1_6_6 (by omega)))))
  refine Tr.pick [2, 1, 0] (ls2 := [(0, (2, 6)), (1, (0, r1)), (2, (0, 0))]) rfl ?_
  exact J7 _ _ _ _ hS (by omega) (by omega) (fun hq => (x1_6_6 (by omega))) (Nat.lt_succ_self _)

def ws_X5_sum_6_w11 : List (Int × Int) := [(6, 0), (6, 1), (6, 5), (6, 6), (15, 11)]
def as_X5_sum_6_w11 : List Int := [24, 25]
def q_X5_sum_6_w11 (M0 M' : Mem) (r : Option PV) : Prop := St Tru ws_X5_sum_6_w11 as_X5_sum_6_w11 M0 M' ∧ ∃ v : Int, r = some (0, v) ∧ 0 ≤ v ∧ v ≤ 1 ∧ ((1 ≤ v ∧ v ≤ 1) → rd M' 6 6 = 2)
set_option maxRecDepth 100000 in
set_option maxHeartbeats 4000000 in
theorem sp_X5_sum_6_w11 {l : Launch} {K : EC} {M0 : Mem} {xq : Int} (hI : In Tru M0) (hE : e_all K xq) (en_6_2 : rd M0 6 2 = 2) (en_6_3 : rd M0 6 3 = 7) (en_6_4 : rd M0 6 4 = 15) (en_6_6 : rd M0 6 6 = 2)   : Tr l K 29 mX5_sum 0 [(0, (2, 6))] [] M0 (q_X5_sum_6_w11 M0) := by
  have hS : St Tru ws_X5_sum_6_w11 as_X5_sum_6_w11 M0 M0 := St.rf hI
  refine Tr.aload_n (pc := 0) (i := 0) d_X5_sum_0 rfl rfl ?_
  refine Tr.callV (pc := 1) (as := []) d_X5_sum_1 s_5_224 ok_X5_product rfl rfl (Nat.le_of_ble_eq_true rfl) (Nat.le_of_ble_eq_true rfl) (by decide) (ty_6 hS.1.1) ?_
  refine Tr.imp (Tr.deep (by decide) (sp_X5_product_6_w11 hS.1 hE ((St.kp hS (by decide) (by decide) (by decide)).trans en_6_2) ((St.kp hS (by decide) (by decide) (by decide)).trans en_6_3) ((St.kp hS (by decide) (by decide) (by decide)).trans en_6_4) en_6_6)) ?_
  rintro M1 _ ⟨h1, r1, rfl, lr1, ur1, x1_6_6⟩
  have hS := St.tr hS h1 (by decide) (by decide)
  refine Tr.sc [(0, r1)] rfl ?_
  refine Tr.istore_n (pc := 4) (i := 1) (ls2 := [(1, (0, r1)), (0, (2, 6))]) d_X5_sum_4 rfl (by decide) rfl ?_
  refine Tr.iconst (pc := 5) d_X5_sum_5 (by decide) ?_
  refine Tr.istore_n (pc := 6) (i := 2) (ls2 := [(2, (0, 0)), (1, (0, r1)), (0, (2, 6))]) d_X5_sum_6 rfl (by decide) rfl ?_
  have J7 : ∀ (n7 : Nat) (M : Mem) (p7_1 p7_2 : Int), St Tru ws_X5_sum_6_w11 as_X5_sum_6_w11 M0 M → (0 ≤ p7_1 ∧ p7_1 ≤ 1) → (0 ≤ p7_2 ∧ p7_2 ≤ 900) → (p7_1 = 1 → rd M 6 6 = 2) → (900 - p7_2).toNat < n7 → Tr l K 29 mX5_sum 7 [(0, (2, 6)), (1, (0, p7_1)), (2, (0, p7_2))] [] M (q_X5_sum_6_w11 M0) := by
    intro n7
    induction n7 with
    | zero => intro M p7_1 p7_2 hS bp7_1 bp7_2  y7_p7_1_6_60 hm7; exact absurd hm7 (Nat.not_lt_zero _)
    | succ n7 J7 =>
      intro M p7_1 p7_2 hS bp7_1 bp7_2  y7_p7_1_6_60 hm7
      have y7_p7_1_6_6 : 1 ≤ p7_1 ∧ p7_1 ≤ 1 → rd M 6 6 = 2 := fun hq => y7_p7_1_6_60 (by omega)
      refine Tr.iload_n (pc := 7) (i := 2) d_X5_sum_7 rfl rfl ?_
      refine Tr.sipush (pc := 8) d_X5_sum_8 rfl (by decide) ?_
      refine Tr.icmp_ge (pc := 11) (tgt := 78) d_X5_sum_11 rfl (fun c11 => ?_) (fun c11 => ?_)
      · refine Tr.iload_n (pc := 78) (i := 1) d_X5_sum_78 rfl rfl ?_
        exact Tr.zret (pc := 79) d_X5_sum_79 rfl (by omega) ⟨hS, _, rfl, by omega, by omega, fun hq => (y7_p7_1_6_6 (by omega))⟩
      · refine Tr.iload_n (pc := 14) (i := 1) d_X5_sum_14 rfl rfl ?_
        refine Tr.if_eq (pc := 15) (tgt := 78) d_X5_sum_15 rfl (fun c15 => ?_) (fun c15 => ?_)
        · refine Tr.iload_n (pc := 78) (i := 1) d_X5_sum_78 rfl rfl ?_
          exact Tr.zret (pc := 79) d_X5_sum_79 rfl (by omega) ⟨hS, _, rfl, by omega, by omega, fun hq => absurd hq (by omega)⟩
        · refine Tr.aload_n (pc := 18) (i := 0) d_X5_sum_18 rfl rfl ?_
          refine Tr.bipush (pc := 19) d_X5_sum_19 rfl (by decide) ?_
          refine Tr.callV (pc := 21) (as := [_]) d_X5_sum_21 s_5_77 ok_X5_isSign rfl rfl (Nat.le_of_ble_eq_true rfl) (Nat.le_of_ble_eq_true rfl) (by decide) (ty_6 hS.1.1) ?_
          refine Tr.imp (Tr.deep (by decide) (sp_X5_isSign_6_w2 hS.1 ((St.kp hS (by decide) (by decide) (by decide)).trans en_6_2) 43 (by omega))) ?_
          rintro M21 _ ⟨h21, r21, rfl, lr21, ur21⟩
          have hS := St.tr hS h21 (by decide) (by decide)
          refine Tr.sc [(0, r21)] rfl ?_
          have J36 : ∀ (M : Mem), St Tru ws_X5_sum_6_w11 as_X5_sum_6_w11 M0 M → rd M 6 6 = 2 → Tr l K 29 mX5_sum 36 [(0, (2, 6)), (2, (0, p7_2))] [] M (q_X5_sum_6_w11 M0) := by
            intro M  hS  k36_6_6
            refine Tr.aload_n (pc := 36) (i := 0) d_X5_sum_36 rfl rfl ?_
            refine Tr.bipush (pc := 37) d_X5_sum_37 rfl (by decide) ?_
            refine Tr.callV (pc := 39) (as := [_]) d_X5_sum_39 s_5_77 ok_X5_isSign rfl rfl (Nat.le_of_ble_eq_true rfl) (Nat.le_of_ble_eq_true rfl) (by decide) (ty_6 hS.1.1) ?_
            refine Tr.imp (Tr.deep (by decide) (sp_X5_isSign_6_w2 hS.1 ((St.kp hS (by decide) (by decide) (by decide)).trans en_6_2) 43 (by omega))) ?_
            rintro M39 _ ⟨h39, r39, rfl, lr39, ur39⟩
            have hS := St.tr hS h39 (by decide) (by decide)
            refine Tr.sc [(0, r39)] rfl ?_
            have J52 : ∀ (M : Mem) (q52_0 : Int), St Tru ws_X5_sum_6_w11 as_X5_sum_6_w11 M0 M → (6 ≤ q52_0 ∧ q52_0 ≤ 7) → rd M 6 6 = 2 → Tr l K 29 mX5_sum 52 [(0, (2, 6)), (2, (0, p7_2))] [(0, q52_0)] M (q_X5_sum_6_w11 M0) := by
              intro M q52_0 hS bq52_0 k52_6_6
              refine Tr.istore_n (pc := 52) (i := 3) (ls2 := [(3, (0, q52_0)), (0, (2, 6)), (2, (0, p7_2))]) d_X5_sum_52 rfl (by decide) rfl ?_
              refine Tr.aload_n (pc := 53) (i := 0) d_X5_sum_53 rfl rfl ?_
              refine Tr.callV (pc := 54) (as := []) d_X5_sum_54 s_5_74 ok_X5_goOn rfl rfl (Nat.le_of_ble_eq_true rfl) (Nat.le_of_ble_eq_true rfl) (by decide) (ty_6 hS.1.1) ?_
              refine Tr.imp (Tr.deep (by decide) (sp_X5_goOn_6 hS.1 )) ?_
              rintro M54 _ ⟨h54, r54, rfl, lr54, ur54⟩
              have hS := St.tr hS h54 (by decide) (by decide)
              refine Tr.sc [(0, r54)] rfl ?_
              refine Tr.pop (pc := 57) d_X5_sum_57 ne01 ?_
              refine Tr.aload_n (pc := 58) (i := 0) d_X5_sum_58 rfl rfl ?_
              refine Tr.callV (pc := 59) (as := []) d_X5_sum_59 s_5_224 ok_X5_product rfl rfl (Nat.le_of_ble_eq_true rfl) (Nat.le_of_ble_eq_true rfl) (by decide) (ty_6 hS.1.1) ?_
              refine Tr.imp (Tr.deep (by decide) (sp_X5_product_6_w11 hS.1 hE ((St.kp hS (by decide) (by decide) (by decide)).trans en_6_2) ((St.kp hS (by decide) (by decide) (by decide)).trans en_6_3) ((St.kp hS (by decide) (by decide) (by decide)).trans en_6_4) ((St.kp h54 (by decide) (by decide) (by decide)).trans k52_6_6))) ?_
              rintro M59 _ ⟨h59, r59, rfl, lr59, ur59, x59_6_6⟩
              have hS := St.tr hS h59 (by decide) (by decide)
              refine Tr.sc [(0, r59)] rfl ?_
              refine Tr.istore_n (pc := 62) (i := 1) (ls2 := [(1, (0, r59)), (3, (0, q52_0)), (0, (2, 6)), (2, (0, p7_2))]) d_X5_sum_62 rfl (by decide) rfl ?_
              refine Tr.aload_n (pc := 63) (i := 0) d_X5_sum_63 rfl rfl ?_
              refine Tr.getf (pc := 64) d_X5_sum_64 f_5_32 (by decide) (by decide) (ty_6 hS.1.1) ?_
              refine Tr.tp 15 ((St.kp hS (by decide) (by decide) (by decide)).trans en_6_4) ?_
              refine Tr.iload_n (pc := 67) (i := 3) d_X5_sum_67 rfl rfl ?_
              refine Tr.iconst (pc := 68) d_X5_sum_68 (by decide) ?_
              refine Tr.callV (pc := 69) (as := [_, _]) d_X5_sum_69 s_5_215 ok_X4_emit rfl rfl (Nat.le_of_ble_eq_true rfl) (Nat.le_of_ble_eq_true rfl) (by decide) (ty_15 hS.1.1) ?_
              refine Tr.imp (Tr.deep (by decide) (sp_X4_emit_15_w6 hS.1.wk q52_0 (by omega) 0 (by omega) (by omega))) ?_
              rintro M69 _ ⟨h69, rfl⟩
              have hS := St.tr hS h69 (by decide) (by decide)
              refine Tr.sc [] rfl ?_
              refine Tr.iincV (pc := 72) (n2 := (p7_2 + 1)) (ls2 := [(2, (0, (p7_2 + 1))), (1, (0, r59)), (3, (0, q52_0)), (0, (2, 6))]) d_X5_sum_72 rfl (by decide) ((w32_id (by omega)).trans (by omega)) rfl ?_
              refine Tr.goto (pc := 75) (tgt := 7) d_X5_sum_75 rfl ?_
              refine Tr.pick [3, 1, 0] (ls2 := [(0, (2, 6)), (1, (0, r59)), (2, (0, (p7_2 + 1)))]) rfl ?_
              exact J7 _ _ _ hS (by omega) (by omega) (fun hq => ((St.kp h69 (by decide) (by decide) (by decide)).trans (x59_6_6 (by omega)))) (by omega)
            refine Tr.if_eq (pc := 42) (tgt := 50) d_X5_sum_42 rfl (fun c42 => ?_) (fun c42 => ?_)
            · refine Tr.bipush (pc := 50) d_X5_sum_50 rfl (by decide) ?_
              refine Tr.pick [0, 1] (ls2 := [(0, (2, 6)), (2, (0, p7_2))]) rfl ?_
              exact J52 _ _ hS (by omega) ((St.kp h39 (by decide) (by decide) (by decide)).trans k36_6_6)
            · refine Tr.bipush (pc := 45) d_X5_sum_45 rfl (by decide) ?_
              refine Tr.goto (pc := 47) (tgt := 52) d_X5_sum_47 rfl ?_
              refine Tr.pick [0, 1] (ls2 := [(0, (2, 6)), (2, (0, p7_2))]) rfl ?_
              exact J52 _ _ hS (by omega) ((St.kp h39 (by decide) (by decide) (by decide)).trans k36_6_6)
          refine Tr.if_ne (pc := 24) (tgt := 36) d_X5_sum_24 rfl (fun c24 => ?_) (fun c24 => ?_)
          · refine Tr.pick [0, 2] (ls2 := [(0, (2, 6)), (2, (0, p7_2))]) rfl ?_
            exact J36 _ hS ((St.kp h21 (by decide) (by decide) (by decide)).trans (y7_p7_1_6_6 (by omega)))
          · refine Tr.aload_n (pc := 27) (i := 0) d_X5_sum_27 rfl rfl ?_
            refine Tr.bipush (pc := 28) d_X5_sum_28 rfl (by decide) ?_
            refine Tr.callV (pc := 30) (as := [_]) d_X5_sum_30 s_5_77 ok_X5_isSign rfl rfl (Nat.le_of_ble_eq_true rfl) (Nat.le_of_ble_eq_true rfl) (by decide) (ty_6 hS.1.1) ?_
            refine Tr.imp (Tr.deep (by decide) (sp_X5_isSign_6_w2 hS.1 ((St.kp hS (by decide) (by decide) (by decide)).trans en_6_2) 45 (by omega))) ?_
            rintro M30 _ ⟨h30, r30, rfl, lr30, ur30⟩
            have hS := St.tr hS h30 (by decide) (by decide)
            refine Tr.sc [(0, r30)] rfl ?_
            refine Tr.if_eq (pc := 33) (tgt := 78) d_X5_sum_33 rfl (fun c33 => ?_) (fun c33 => ?_)
            · refine Tr.iload_n (pc := 78) (i := 1) d_X5_sum_78 rfl rfl ?_
              exact Tr.zret (pc := 79) d_X5_sum_79 rfl (by omega) ⟨hS, _, rfl, by omega, by omega, fun _ => ((St.kp h30 (by decide) (by decide) (by decide)).trans ((St.kp h21 (by decide) (by decide) (by decide)).trans (y7_p7_1_6_6 (by omega))))⟩
            · refine Tr.pick [0, 2] (ls2 := [(0, (2, 6)), (2, (0, p7_2))]) rfl ?_
              exact J36 _ hS ((St.kp h30 (by decide) (by decide) (by decide)).trans ((St.kp h21 (by decide) (by decide) (by decide)).trans (y7_p7_1_6_6 (by omega))))
  refine Tr.pick [2, 1, 0] (ls2 := [(0, (2, 6)), (1, (0, r1)), (2, (0, 0))]) rfl ?_
  exact J7 _ _ _ _ hS (by omega) (by omega) (fun hq => (x1_6_6 (by omega))) (Nat.lt_succ_self _)
end
/-! 43.18 -/
section
def ws_X5_choice_6_w16 : List (Int × Int) := [(6, 0), (6, 1), (6, 5), (6, 6), (15, 11)]
def as_X5_choice_6_w16 : List Int := [24, 25]
def q_X5_choice_6_w16 (M0 M' : Mem) (r : Option PV) : Prop := St Tru ws_X5_choice_6_w16 as_X5_choice_6_w16 M0 M' ∧ ∃ v : Int, r = some (0, v) ∧ 0 ≤ v ∧ v ≤ 1 ∧ ((1 ≤ v ∧ v ≤ 1) → rd M' 6 6 = 1)
set_option maxRecDepth 100000 in
set_option maxHeartbeats 4000000 in
theorem sp_X5_choice_6_w16 {l : Launch} {K : EC} {M0 : Mem} {xq : Int} (hI : In Tru M0) (hE : e_all K xq) (en_6_2 : rd M0 6 2 = 2) (en_6_3 : rd M0 6 3 = 7) (en_6_4 : rd M0 6 4 = 15) (en_6_6 : rd M0 6 6 = 1) (a1 : Int) (ha1 : 10 ≤ a1 ∧ a1 ≤ 15)  : Tr l K 30 mX5_choice 0 [(0, (2, 6)), (1, (0, a1))] [] M0 (q_X5_choice_6_w16 M0) := by
  have hS : St Tru ws_X5_choice_6_w16 as_X5_choice_6_w16 M0 M0 := St.rf hI
  refine Tr.aload_n (pc := 0) (i := 0) d_X5_choice_0 rfl rfl ?_
  refine Tr.callV (pc := 1) (as := []) d_X5_choice_1 s_5_74 ok_X5_goOn rfl rfl (Nat.le_of_ble_eq_true rfl) (Nat.le_of_ble_eq_true rfl) (by decide) (ty_6 hS.1.1) ?_
  refine Tr.imp (Tr.deep (by decide) (sp_X5_goOn_6 hS.1 )) ?_
  rintro M1 _ ⟨h1, r1, rfl, lr1, ur1⟩
  have hS := St.tr hS h1 (by decide) (by decide)
  refine Tr.sc [(0, r1)] rfl ?_
  refine Tr.pop (pc := 4) d_X5_choice_4 ne01 ?_
  refine Tr.aload_n (pc := 5) (i := 0) d_X5_choice_5 rfl rfl ?_
  refine Tr.bipush (pc := 6) d_X5_choice_6 rfl (by decide) ?_
  refine Tr.callV (pc := 8) (as := [_]) d_X5_choice_8 s_5_206 ok_X5_takeOpening rfl rfl (Nat.le_of_ble_eq_true rfl) (Nat.le_of_ble_eq_true rfl) (by decide) (ty_6 hS.1.1) ?_
  refine Tr.imp (Tr.deep (by decide) (sp_X5_takeOpening_6_w1 hS.1 ((St.kp hS (by decide) (by decide) (by decide)).trans en_6_2) ((St.kp h1 (by decide) (by decide) (by decide)).trans en_6_6) 40 (by omega))) ?_
  rintro M8 _ ⟨h8, r8, rfl, lr8, ur8, x8_6_6⟩
  have hS := St.tr hS h8 (by decide) (by decide)
  refine Tr.sc [(0, r8)] rfl ?_
  have J51 : ∀ (M : Mem) (q51_0 : Int), St Tru ws_X5_choice_6_w16 as_X5_choice_6_w16 M0 M → (0 ≤ q51_0 ∧ q51_0 ≤ 1) → (q51_0 = 1 → rd M 6 6 = 1) → Tr l K 30 mX5_choice 51 [(0, (2, 6)), (1, (0, a1))] [(0, q51_0)] M (q_X5_choice_6_w16 M0) := by
    intro M q51_0 hS bq51_0  y51_q51_0_6_60
    have y51_q51_0_6_6 : 1 ≤ q51_0 ∧ q51_0 ≤ 1 → rd M 6 6 = 1 := fun hq => y51_q51_0_6_60 (by omega)
    refine Tr.istore_n (pc := 51) (i := 2) (ls2 := [(2, (0, q51_0)), (0, (2, 6)), (1, (0, a1))]) d_X5_choice_51 rfl (by decide) rfl ?_
    refine Tr.aload_n (pc := 52) (i := 0) d_X5_choice_52 rfl rfl ?_
    refine Tr.getf (pc := 53) d_X5_choice_53 f_5_32 (by decide) (by decide) (ty_6 hS.1.1) ?_
    refine Tr.tp 15 ((St.kp hS (by decide) (by decide) (by decide)).trans en_6_4) ?_
    refine Tr.iload_n (pc := 56) (i := 1) d_X5_choice_56 rfl rfl ?_
    refine Tr.iconst (pc := 57) d_X5_choice_57 (by decide) ?_
    refine Tr.callV (pc := 58) (as := [_, _]) d_X5_choice_58 s_5_215 ok_X4_emit rfl rfl (Nat.le_of_ble_eq_true rfl) (Nat.le_of_ble_eq_true rfl) (by decide) (ty_15 hS.1.1) ?_
    refine Tr.imp (Tr.deep (by decide) (sp_X4_emit_15_w4 hS.1.wk a1 (by omega) 0 (by omega) (by omega))) ?_
    rintro M58 _ ⟨h58, rfl⟩
    have hS := St.tr hS h58 (by decide) (by decide)
    refine Tr.sc [] rfl ?_
    refine Tr.iload_n (pc := 61) (i := 2) d_X5_choice_61 rfl rfl ?_
    exact Tr.zret (pc := 62) d_X5_choice_62 rfl (by omega) ⟨hS, _, rfl, by omega, by omega, fun hq => ((St.kp h58 (by decide) (by decide) (by decide)).trans (y51_q51_0_6_6 (by omega)))⟩
  have J50 : ∀ (M : Mem), St Tru ws_X5_choice_6_w16 as_X5_choice_6_w16 M0 M → Tr l K 30 mX5_choice 50 [(0, (2, 6)), (1, (0, a1))] [] M (q_X5_choice_6_w16 M0) := by
    intro M  hS  
    refine Tr.iconst (pc := 50) d_X5_choice_50 (by decide) ?_
    refine Tr.pick [0, 1] (ls2 := [(0, (2, 6)), (1, (0, a1))]) rfl ?_
    exact J51 _ _ hS (by omega) (fun hq => absurd hq (by omega))
  refine Tr.if_eq (pc := 11) (tgt := 50) d_X5_choice_11 rfl (fun c11 => ?_) (fun c11 => ?_)
  · refine Tr.pick [0, 1] (ls2 := [(0, (2, 6)), (1, (0, a1))]) rfl ?_
    exact J50 _ hS 
  · refine Tr.aload_n (pc := 14) (i := 0) d_X5_choice_14 rfl rfl ?_
    refine Tr.callV (pc := 15) (as := []) d_X5_choice_15 s_5_174 ok_X5_sum rfl rfl (Nat.le_of_ble_eq_true rfl) (Nat.le_of_ble_eq_true rfl) (by decide) (ty_6 hS.1.1) ?_
    refine Tr.imp (Tr.deep (by decide) (sp_X5_sum_6_w11 hS.1 hE ((St.kp hS (by decide) (by decide) (by decide)).trans en_6_2) ((St.kp hS (by decide) (by decide) (by decide)).trans en_6_3) ((St.kp hS (by decide) (by decide) (by decide)).trans en_6_4) (x8_6_6 (by omega)))) ?_
    rintro M15 _ ⟨h15, r15, rfl, lr15, ur15, x15_6_6⟩
    have hS := St.tr hS h15 (by decide) (by decide)
    refine Tr.sc [(0, r15)] rfl ?_
    refine Tr.if_eq (pc := 18) (tgt := 50) d_X5_choice_18 rfl (fun c18 => ?_) (fun c18 => ?_)
    · refine Tr.pick [0, 1] (ls2 := [(0, (2, 6)), (1, (0, a1))]) rfl ?_
      exact J50 _ hS 
    · refine Tr.aload_n (pc := 21) (i := 0) d_X5_choice_21 rfl rfl ?_
      refine Tr.bipush (pc := 22) d_X5_choice_22 rfl (by decide) ?_
      refine Tr.callV (pc := 24) (as := [_]) d_X5_choice_24 s_5_81 ok_X5_takeSign rfl rfl (Nat.le_of_ble_eq_true rfl) (Nat.le_of_ble_eq_true rfl) (by decide) (ty_6 hS.1.1) ?_
      refine Tr.imp (Tr.deep (by decide) (sp_X5_takeSign_6_w1 hS.1 ((St.kp hS (by decide) (by decide) (by decide)).trans en_6_2) 44 (by omega))) ?_
      rintro M24 _ ⟨h24, r24, rfl, lr24, ur24⟩
      have hS := St.tr hS h24 (by decide) (by decide)
      refine Tr.sc [(0, r24)] rfl ?_
      refine Tr.if_eq (pc := 27) (tgt := 50) d_X5_choice_27 rfl (fun c27 => ?_) (fun c27 => ?_)
      · refine Tr.pick [0, 1] (ls2 := [(0, (2, 6)), (1, (0, a1))]) rfl ?_
        exact J50 _ hS 
      · refine Tr.aload_n (pc := 30) (i := 0) d_X5_choice_30 rfl rfl ?_
        refine Tr.callV (pc := 31) (as := []) d_X5_choice_31 s_5_174 ok_X5_sum rfl rfl (Nat.le_of_ble_eq_true rfl) (Nat.le_of_ble_eq_true rfl) (by decide) (ty_6 hS.1.1) ?_
        refine Tr.imp (Tr.deep (by decide) (sp_X5_sum_6_w11 hS.1 hE ((St.kp hS (by decide) (by decide) (by decide)).trans en_6_2) ((St.kp hS (by decide) (by decide) (by decide)).trans en_6_3) ((St.kp hS (by decide) (by decide) (by decide)).trans en_6_4) ((St.kp h24 (by decide) (by decide) (by decide)).trans (x15_6_6 (by omega))))) ?_
        rintro M31 _ ⟨h31, r31, rfl, lr31, ur31, x31_6_6⟩
        have hS := St.tr hS h31 (by decide) (by decide)
        refine Tr.sc [(0, r31)] rfl ?_
        refine Tr.if_eq (pc := 34) (tgt := 50) d_X5_choice_34 rfl (fun c34 => ?_) (fun c34 => ?_)
        · refine Tr.pick [0, 1] (ls2 := [(0, (2, 6)), (1, (0, a1))]) rfl ?_
          exact J50 _ hS 
        · refine Tr.aload_n (pc := 37) (i := 0) d_X5_choice_37 rfl rfl ?_
          refine Tr.bipush (pc := 38) d_X5_choice_38 rfl (by decide) ?_
          refine Tr.callV (pc := 40) (as := [_]) d_X5_choice_40 s_5_209 ok_X5_takeClosing rfl rfl (Nat.le_of_ble_eq_true rfl) (Nat.le_of_ble_eq_true rfl) (by decide) (ty_6 hS.1.1) ?_
          refine Tr.imp (Tr.deep (by decide) (sp_X5_takeClosing_6_w6 hS.1 ((St.kp hS (by decide) (by decide) (by decide)).trans en_6_2) (x31_6_6 (by omega)) 41 (by omega))) ?_
          rintro M40 _ ⟨h40, r40, rfl, lr40, ur40, x40_6_6⟩
          have hS := St.tr hS h40 (by decide) (by decide)
          refine Tr.sc [(0, r40)] rfl ?_
          refine Tr.if_eq (pc := 43) (tgt := 50) d_X5_choice_43 rfl (fun c43 => ?_) (fun c43 => ?_)
          · refine Tr.pick [0, 1] (ls2 := [(0, (2, 6)), (1, (0, a1))]) rfl ?_
            exact J50 _ hS 
          · refine Tr.iconst (pc := 46) d_X5_choice_46 (by decide) ?_
            refine Tr.goto (pc := 47) (tgt := 51) d_X5_choice_47 rfl ?_
            refine Tr.pick [0, 1] (ls2 := [(0, (2, 6)), (1, (0, a1))]) rfl ?_
            exact J51 _ _ hS (by omega) (fun _ => (x40_6_6 (by omega)))

def ws_X5_piece_6_w10 : List (Int × Int) := [(6, 0), (6, 1), (6, 5), (6, 6), (15, 11)]
def as_X5_piece_6_w10 : List Int := [24, 25]
def q_X5_piece_6_w10 (M0 M' : Mem) (r : Option PV) : Prop := St Tru ws_X5_piece_6_w10 as_X5_piece_6_w10 M0 M' ∧ ∃ v : Int, r = some (0, v) ∧ 0 ≤ v ∧ v ≤ 1 ∧ ((1 ≤ v ∧ v ≤ 1) → rd M' 6 6 = 1)
set_option maxRecDepth 100000 in
set_option maxHeartbeats 4000000 in
theorem sp_X5_piece_6_w10 {l : Launch} {K : EC} {M0 : Mem} {xq : Int} (hI : In Tru M0) (hE : e_all K xq) (en_6_2 : rd M0 6 2 = 2) (en_6_3 : rd M0 6 3 = 7) (en_6_4 : rd M0 6 4 = 15) (en_6_6 : rd M0 6 6 = 1)   : Tr l K 31 mX5_piece 0 [(0, (2, 6))] [] M0 (q_X5_piece_6_w10 M0) := by
  have hS : St Tru ws_X5_piece_6_w10 as_X5_piece_6_w10 M0 M0 := St.rf hI
  refine Tr.aload_n (pc := 0) (i := 0) d_X5_piece_0 rfl rfl ?_
  refine Tr.getf (pc := 1) d_X5_piece_1 f_5_18 (by decide) (by decide) (ty_6 hS.1.1) ?_
  refine Tr.tp 2 ((St.kp hS (by decide) (by decide) (by decide)).trans en_6_2) ?_
  refine Tr.getf (pc := 4) d_X5_piece_4 f_5_50 (by decide) (by decide) (ty_2 hS.1.1) ?_
  refine Tr.tp 3 (fx_2_0 hS.1.1) ?_
  refine Tr.aload_n (pc := 7) (i := 0) d_X5_piece_7 rfl rfl ?_
  refine Tr.getf (pc := 8) d_X5_piece_8 f_5_36 (by decide) (by decide) (ty_6 hS.1.1) ?_
  refine Tr.gen (P := fun v => 0 ≤ v ∧ v ≤ 900) (ir_6_5 hS.1.2.1) (fun r8 er8 br8 => ?_)
  refine Tr.iald (pc := 11) d_X5_piece_11 (ty_3 hS.1.1) (by omega) (by omega) ?_
  refine Tr.gen (P := fun v => (-2147483648) ≤ v ∧ v ≤ 2147483647) (ar_3 hS.1.2.1 _) (fun r11 er11 br11 => ?_)
  refine Tr.iconst (pc := 12) d_X5_piece_12 (by decide) ?_
  refine Tr.icmp_ne (pc := 13) (tgt := 44) d_X5_piece_13 rfl (fun c13 => ?_) (fun c13 => ?_)
  · refine Tr.aload_n (pc := 44) (i := 0) d_X5_piece_44 rfl rfl ?_
    refine Tr.getf (pc := 45) d_X5_piece_45 f_5_18 (by decide) (by decide) (ty_6 hS.1.1) ?_
    refine Tr.tp 2 ((St.kp hS (by decide) (by decide) (by decide)).trans en_6_2) ?_
    refine Tr.getf (pc := 48) d_X5_piece_48 f_5_50 (by decide) (by decide) (ty_2 hS.1.1) ?_
    refine Tr.tp 3 (fx_2_0 hS.1.1) ?_
    refine Tr.aload_n (pc := 51) (i := 0) d_X5_piece_51 rfl rfl ?_
    refine Tr.getf (pc := 52) d_X5_piece_52 f_5_36 (by decide) (by decide) (ty_6 hS.1.1) ?_
    refine Tr.tp r8 er8 ?_
    refine Tr.iald (pc := 55) d_X5_piece_55 (ty_3 hS.1.1) (by omega) (by omega) ?_
    refine Tr.tp r11 er11 ?_
    refine Tr.iconst (pc := 56) d_X5_piece_56 (by decide) ?_
    refine Tr.icmp_ne (pc := 57) (tgt := 65) d_X5_piece_57 rfl (fun c57 => ?_) (fun c57 => ?_)
    · refine Tr.aload_n (pc := 65) (i := 0) d_X5_piece_65 rfl rfl ?_
      refine Tr.bipush (pc := 66) d_X5_piece_66 rfl (by decide) ?_
      refine Tr.callV (pc := 68) (as := [_]) d_X5_piece_68 s_5_77 ok_X5_isSign rfl rfl (Nat.le_of_ble_eq_true rfl) (Nat.le_of_ble_eq_true rfl) (by decide) (ty_6 hS.1.1) ?_
      refine Tr.imp (Tr.deep (by decide) (sp_X5_isSign_6_w2 hS.1 ((St.kp hS (by decide) (by decide) (by decide)).trans en_6_2) 40 (by omega))) ?_
      rintro M68 _ ⟨h68, r68, rfl, lr68, ur68⟩
      have hS := St.tr hS h68 (by decide) (by decide)
      refine Tr.sc [(0, r68)] rfl ?_
      refine Tr.if_eq (pc := 71) (tgt := 105) d_X5_piece_71 rfl (fun c71 => ?_) (fun c71 => ?_)
      · refine Tr.aload_n (pc := 105) (i := 0) d_X5_piece_105 rfl rfl ?_
        refine Tr.bipush (pc := 106) d_X5_piece_106 rfl (by decide) ?_
        refine Tr.callV (pc := 108) (as := [_]) d_X5_piece_108 s_5_71 ok_X5_isOwn rfl rfl (Nat.le_of_ble_eq_true rfl) (Nat.le_of_ble_eq_true rfl) (by decide) (ty_6 hS.1.1) ?_
        refine Tr.imp (Tr.deep (by decide) (sp_X5_isOwn_6_w4 hS.1 ((St.kp hS (by decide) (by decide) (by decide)).trans en_6_2) 24 (by omega))) ?_
        rintro M108 _ ⟨h108, r108, rfl, lr108, ur108⟩
        have hS := St.tr hS h108 (by decide) (by decide)
        refine Tr.sc [(0, r108)] rfl ?_
        refine Tr.if_eq (pc := 111) (tgt := 128) d_X5_piece_111 rfl (fun c111 => ?_) (fun c111 => ?_)
        · refine Tr.aload_n (pc := 128) (i := 0) d_X5_piece_128 rfl rfl ?_
          refine Tr.bipush (pc := 129) d_X5_piece_129 rfl (by decide) ?_
          refine Tr.callV (pc := 131) (as := [_]) d_X5_piece_131 s_5_71 ok_X5_isOwn rfl rfl (Nat.le_of_ble_eq_true rfl) (Nat.le_of_ble_eq_true rfl) (by decide) (ty_6 hS.1.1) ?_
          refine Tr.imp (Tr.deep (by decide) (sp_X5_isOwn_6_w4 hS.1 ((St.kp hS (by decide) (by decide) (by decide)).trans en_6_2) 25 (by omega))) ?_
          rintro M131 _ ⟨h131, r131, rfl, lr131, ur131⟩
          have hS := St.tr hS h131 (by decide) (by decide)
          refine Tr.sc [(0, r131)] rfl ?_
          have J146 : ∀ (M : Mem), St Tru ws_X5_piece_6_w10 as_X5_piece_6_w10 M0 M → rd M 3 r8 = r11 → rd M 6 5 = r8 → rd M 6 6 = 1 → Tr l K 31 mX5_piece 146 [(0, (2, 6))] [] M (q_X5_piece_6_w10 M0) := by
            intro M  hS  k146_3_r810 k146_6_5 k146_6_6
            refine Tr.aload_n (pc := 146) (i := 0) d_X5_piece_146 rfl rfl ?_
            refine Tr.aload_n (pc := 147) (i := 0) d_X5_piece_147 rfl rfl ?_
            refine Tr.bipush (pc := 148) d_X5_piece_148 rfl (by decide) ?_
            refine Tr.callV (pc := 150) (as := [_]) d_X5_piece_150 s_5_71 ok_X5_isOwn rfl rfl (Nat.le_of_ble_eq_true rfl) (Nat.le_of_ble_eq_true rfl) (by decide) (ty_6 hS.1.1) ?_
            refine Tr.imp (Tr.deep (by decide) (sp_X5_isOwn_6_w4 hS.1 ((St.kp hS (by decide) (by decide) (by decide)).trans en_6_2) 25 (by omega))) ?_
            rintro M150 _ ⟨h150, r150, rfl, lr150, ur150⟩
            have hS := St.tr hS h150 (by decide) (by decide)
            refine Tr.sc [(0, r150), (2, 6)] rfl ?_
            have J163 : ∀ (M : Mem) (q163_1 : Int), St Tru ws_X5_piece_6_w10 as_X5_piece_6_w10 M0 M → (11 ≤ q163_1 ∧ q163_1 ≤ 12) → rd M 3 r8 = r11 → rd M 6 5 = r8 → rd M 6 6 = 1 → Tr l K 31 mX5_piece 163 [] [(0, q163_1), (2, 6)] M (q_X5_piece_6_w10 M0) := by
              intro M q163_1 hS bq163_1 k163_3_r810 k163_6_5 k163_6_6
              refine Tr.callV (pc := 163) (as := [_]) d_X5_piece_163 s_5_233 ok_X5_choice rfl rfl (Nat.le_of_ble_eq_true rfl) (Nat.le_of_ble_eq_true rfl) (by decide) (ty_6 hS.1.1) ?_
              refine Tr.imp (Tr.deep (by decide) (sp_X5_choice_6_w16 hS.1 hE ((St.kp hS (by decide) (by decide) (by decide)).trans en_6_2) ((St.kp hS (by decide) (by decide) (by decide)).trans en_6_3) ((St.kp hS (by decide) (by decide) (by decide)).trans en_6_4) k163_6_6 q163_1 (by omega))) ?_
              rintro M163 _ ⟨h163, r163, rfl, lr163, ur163, x163_6_6⟩
              have hS := St.tr hS h163 (by decide) (by decide)
              refine Tr.sc [(0, r163)] rfl ?_
              exact Tr.zret (pc := 166) d_X5_piece_166 rfl (by omega) ⟨hS, _, rfl, by omega, by omega, fun hq => (x163_6_6 (by omega))⟩
            refine Tr.if_eq (pc := 153) (tgt := 161) d_X5_piece_153 rfl (fun c153 => ?_) (fun c153 => ?_)
            · refine Tr.bipush (pc := 161) d_X5_piece_161 rfl (by decide) ?_
              refine Tr.pick [] (ls2 := []) rfl ?_
              exact J163 _ _ hS (by omega) ((St.ka h150 (by decide) (by decide) (by decide)).trans k146_3_r810) ((St.kp h150 (by decide) (by decide) (by decide)).trans k146_6_5) ((St.kp h150 (by decide) (by decide) (by decide)).trans k146_6_6)
            · refine Tr.bipush (pc := 156) d_X5_piece_156 rfl (by decide) ?_
              refine Tr.goto (pc := 158) (tgt := 163) d_X5_piece_158 rfl ?_
              refine Tr.pick [] (ls2 := []) rfl ?_
              exact J163 _ _ hS (by omega) ((St.ka h150 (by decide) (by decide) (by decide)).trans k146_3_r810) ((St.kp h150 (by decide) (by decide) (by decide)).trans k146_6_5) ((St.kp h150 (by decide) (by decide) (by decide)).trans k146_6_6)
          refine Tr.if_ne (pc := 134) (tgt := 146) d_X5_piece_134 rfl (fun c134 => ?_) (fun c134 => ?_)
          · refine Tr.pick [0] (ls2 := [(0, (2, 6))]) rfl ?_
            exact J146 _ hS ((St.ka h131 (by decide) (by decide) (by decide)).trans ((St.ka h108 (by decide) (by decide) (by decide)).trans ((St.ka h68 (by decide) (by decide) (by decide)).trans er11))) ((St.kp h131 (by decide) (by decide) (by decide)).trans ((St.kp h108 (by decide) (by decide) (by decide)).trans ((St.kp h68 (by decide) (by decide) (by decide)).trans er8))) ((St.kp h131 (by decide) (by decide) (by decide)).trans ((St.kp h108 (by decide) (by decide) (by decide)).trans ((St.kp h68 (by decide) (by decide) (by decide)).trans en_6_6)))
          · refine Tr.aload_n (pc := 137) (i := 0) d_X5_piece_137 rfl rfl ?_
            refine Tr.bipush (pc := 138) d_X5_piece_138 rfl (by decide) ?_
            refine Tr.callV (pc := 140) (as := [_]) d_X5_piece_140 s_5_71 ok_X5_isOwn rfl rfl (Nat.le_of_ble_eq_true rfl) (Nat.le_of_ble_eq_true rfl) (by decide) (ty_6 hS.1.1) ?_
            refine Tr.imp (Tr.deep (by decide) (sp_X5_isOwn_6_w4 hS.1 ((St.kp hS (by decide) (by decide) (by decide)).trans en_6_2) 26 (by omega))) ?_
            rintro M140 _ ⟨h140, r140, rfl, lr140, ur140⟩
            have hS := St.tr hS h140 (by decide) (by decide)
            refine Tr.sc [(0, r140)] rfl ?_
            refine Tr.if_eq (pc := 143) (tgt := 167) d_X5_piece_143 rfl (fun c143 => ?_) (fun c143 => ?_)
            · refine Tr.aload_n (pc := 167) (i := 0) d_X5_piece_167 rfl rfl ?_
              refine Tr.iconst (pc := 168) d_X5_piece_168 (by decide) ?_
              refine Tr.callV (pc := 169) (as := [_]) d_X5_piece_169 s_5_56 ok_X5_refuse rfl rfl (Nat.le_of_ble_eq_true rfl) (Nat.le_of_ble_eq_true rfl) (by decide) (ty_6 hS.1.1) ?_
              refine Tr.imp (Tr.deep (by decide) (sp_X5_refuse_6_w1 hS.1 ((St.kp hS (by decide) (by decide) (by decide)).trans en_6_2) 1 (by omega))) ?_
              rintro M169 _ ⟨h169, r169, rfl, lr169, ur169⟩
              have hS := St.tr hS h169 (by decide) (by decide)
              refine Tr.sc [(0, r169)] rfl ?_
              exact Tr.zret (pc := 172) d_X5_piece_172 rfl (by omega) ⟨hS, _, rfl, by omega, by omega, fun hq => absurd hq (by omega)⟩
            · refine Tr.pick [0] (ls2 := [(0, (2, 6))]) rfl ?_
              exact J146 _ hS ((St.ka h140 (by decide) (by decide) (by decide)).trans ((St.ka h131 (by decide) (by decide) (by decide)).trans ((St.ka h108 (by decide) (by decide) (by decide)).trans ((St.ka h68 (by decide) (by decide) (by decide)).trans er11)))) ((St.kp h140 (by decide) (by decide) (by decide)).trans ((St.kp h131 (by decide) (by decide) (by decide)).trans ((St.kp h108 (by decide) (by decide) (by decide)).trans ((St.kp h68 (by decide) (by decide) (by decide)).trans er8)))) ((St.kp h140 (by decide) (by decide) (by decide)).trans ((St.kp h131 (by decide) (by decide) (by decide)).trans ((St.kp h108 (by decide) (by decide) (by decide)).trans ((St.kp h68 (by decide) (by decide) (by decide)).trans en_6_6))))
        · refine Tr.aload_n (pc := 114) (i := 0) d_X5_piece_114 rfl rfl ?_
          refine Tr.getf (pc := 115) d_X5_piece_115 f_5_32 (by decide) (by decide) (ty_6 hS.1.1) ?_
          refine Tr.tp 15 ((St.kp hS (by decide) (by decide) (by decide)).trans en_6_4) ?_
          refine Tr.iconst (pc := 118) d_X5_piece_118 (by decide) ?_
          refine Tr.iconst (pc := 119) d_X5_piece_119 (by decide) ?_
          refine Tr.callV (pc := 120) (as := [_, _]) d_X5_piece_120 s_5_215 ok_X4_emit rfl rfl (Nat.le_of_ble_eq_true rfl) (Nat.le_of_ble_eq_true rfl) (by decide) (ty_15 hS.1.1) ?_
          refine Tr.imp (Tr.deep (by decide) (sp_X4_emit_15 hS.1.wk 3 (by omega) 0 (by omega) (by omega))) ?_
          rintro M120 _ ⟨h120, rfl⟩
          have hS := St.tr hS h120 (by decide) (by decide)
          refine Tr.sc [] rfl ?_
          refine Tr.aload_n (pc := 123) (i := 0) d_X5_piece_123 rfl rfl ?_
          refine Tr.callV (pc := 124) (as := []) d_X5_piece_124 s_5_74 ok_X5_goOn rfl rfl (Nat.le_of_ble_eq_true rfl) (Nat.le_of_ble_eq_true rfl) (by decide) (ty_6 hS.1.1) ?_
          refine Tr.imp (Tr.deep (by decide) (sp_X5_goOn_6 hS.1 )) ?_
          rintro M124 _ ⟨h124, r124, rfl, lr124, ur124⟩
          have hS := St.tr hS h124 (by decide) (by decide)
          refine Tr.sc [(0, r124)] rfl ?_
          exact Tr.zret (pc := 127) d_X5_piece_127 rfl (by omega) ⟨hS, _, rfl, by omega, by omega, fun _ => ((St.kp h124 (by decide) (by decide) (by decide)).trans ((St.kp h120 (by decide) (by decide) (by decide)).trans ((St.kp h108 (by decide) (by decide) (by decide)).trans ((St.kp h68 (by decide) (by decide) (by decide)).trans en_6_6))))⟩
      · refine Tr.aload_n (pc := 74) (i := 0) d_X5_piece_74 rfl rfl ?_
        refine Tr.bipush (pc := 75) d_X5_piece_75 rfl (by decide) ?_
        refine Tr.callV (pc := 77) (as := [_]) d_X5_piece_77 s_5_206 ok_X5_takeOpening rfl rfl (Nat.le_of_ble_eq_true rfl) (Nat.le_of_ble_eq_true rfl) (by decide) (ty_6 hS.1.1) ?_
        refine Tr.imp (Tr.deep (by decide) (sp_X5_takeOpening_6_w1 hS.1 ((St.kp hS (by decide) (by decide) (by decide)).trans en_6_2) ((St.kp h68 (by decide) (by decide) (by decide)).trans en_6_6) 40 (by omega))) ?_
        rintro M77 _ ⟨h77, r77, rfl, lr77, ur77, x77_6_6⟩
        have hS := St.tr hS h77 (by decide) (by decide)
        refine Tr.sc [(0, r77)] rfl ?_
        refine Tr.if_eq (pc := 80) (tgt := 103) d_X5_piece_80 rfl (fun c80 => ?_) (fun c80 => ?_)
        · refine Tr.iconst (pc := 103) d_X5_piece_103 (by decide) ?_
          exact Tr.zret (pc := 104) d_X5_piece_104 rfl (by omega) ⟨hS, _, rfl, by omega, by omega, fun hq => absurd hq (by omega)⟩
        · refine Tr.aload_n (pc := 83) (i := 0) d_X5_piece_83 rfl rfl ?_
          refine Tr.callV (pc := 84) (as := []) d_X5_piece_84 s_5_174 ok_X5_sum rfl rfl (Nat.le_of_ble_eq_true rfl) (Nat.le_of_ble_eq_true rfl) (by decide) (ty_6 hS.1.1) ?_
          refine Tr.imp (Tr.deep (by decide) (sp_X5_sum_6_w11 hS.1 hE ((St.kp hS (by decide) (by decide) (by decide)).trans en_6_2) ((St.kp hS (by decide) (by decide) (by decide)).trans en_6_3) ((St.kp hS (by decide) (by decide) (by decide)).trans en_6_4) (x77_6_6 (by omega)))) ?_
          rintro M84 _ ⟨h84, r84, rfl, lr84, ur84, x84_6_6⟩
          have hS := St.tr hS h84 (by decide) (by decide)
          refine Tr.sc [(0, r84)] rfl ?_
          refine Tr.if_eq (pc := 87) (tgt := 103) d_X5_piece_87 rfl (fun c87 => ?_) (fun c87 => ?_)
          · refine Tr.iconst (pc := 103) d_X5_piece_103 (by decide) ?_
            exact Tr.zret (pc := 104) d_X5_piece_104 rfl (by omega) ⟨hS, _, rfl, by omega, by omega, fun hq => absurd hq (by omega)⟩
          · refine Tr.aload_n (pc := 90) (i := 0) d_X5_piece_90 rfl rfl ?_
            refine Tr.bipush (pc := 91) d_X5_piece_91 rfl (by decide) ?_
            refine Tr.callV (pc := 93) (as := [_]) d_X5_piece_93 s_5_209 ok_X5_takeClosing rfl rfl (Nat.le_of_ble_eq_true rfl) (Nat.le_of_ble_eq_true rfl) (by decide) (ty_6 hS.1.1) ?_
            refine Tr.imp (Tr.deep (by decide) (sp_X5_takeClosing_6_w6 hS.1 ((St.kp hS (by decide) (by decide) (by decide)).trans en_6_2) (x84_6_6 (by omega)) 41 (by omega))) ?_
            rintro M93 _ ⟨h93, r93, rfl, lr93, ur93, x93_6_6⟩
            have hS := St.tr hS h93 (by decide) (by decide)
            refine Tr.sc [(0, r93)] rfl ?_
            refine Tr.if_eq (pc := 96) (tgt := 103) d_X5_piece_96 rfl (fun c96 => ?_) (fun c96 => ?_)
            · refine Tr.iconst (pc := 103) d_X5_piece_103 (by decide) ?_
              exact Tr.zret (pc := 104) d_X5_piece_104 rfl (by omega) ⟨hS, _, rfl, by omega, by omega, fun hq => absurd hq (by omega)⟩
            · refine Tr.iconst (pc := 99) d_X5_piece_99 (by decide) ?_
              refine Tr.goto (pc := 100) (tgt := 104) d_X5_piece_100 rfl ?_
              exact Tr.zret (pc := 104) d_X5_piece_104 rfl (by omega) ⟨hS, _, rfl, by omega, by omega, fun _ => (x93_6_6 (by omega))⟩
    · refine Tr.aload_n (pc := 60) (i := 0) d_X5_piece_60 rfl rfl ?_
      refine Tr.callV (pc := 61) (as := []) d_X5_piece_61 s_5_230 ok_X5_namedPiece rfl rfl (Nat.le_of_ble_eq_true rfl) (Nat.le_of_ble_eq_true rfl) (by decide) (ty_6 hS.1.1) ?_
      refine Tr.imp (Tr.deep (by decide) (sp_X5_namedPiece_6_w1 hS.1 hE ((St.kp hS (by decide) (by decide) (by decide)).trans en_6_2) ((St.kp hS (by decide) (by decide) (by decide)).trans en_6_3) ((St.kp hS (by decide) (by decide) (by decide)).trans en_6_4))) ?_
      rintro M61 _ ⟨h61, r61, rfl, lr61, ur61⟩
      have hS := St.tr hS h61 (by decide) (by decide)
      refine Tr.sc [(0, r61)] rfl ?_
      exact Tr.zret (pc := 64) d_X5_piece_64 rfl (by omega) ⟨hS, _, rfl, by omega, by omega, fun _ => ((St.kp h61 (by decide) (by decide) (by decide)).trans en_6_6)⟩
  · refine Tr.aload_n (pc := 16) (i := 0) d_X5_piece_16 rfl rfl ?_
    refine Tr.iconst (pc := 17) d_X5_piece_17 (by decide) ?_
    refine Tr.sipush (pc := 18) d_X5_piece_18 rfl (by decide) ?_
    refine Tr.callV (pc := 21) (as := [_, _]) d_X5_piece_21 s_5_87 ok_X5_takeNumber rfl rfl (Nat.le_of_ble_eq_true rfl) (Nat.le_of_ble_eq_true rfl) (by decide) (ty_6 hS.1.1) ?_
    refine Tr.imp (Tr.deep (by decide) (sp_X5_takeNumber_6_w2 hS.1 ((St.kp hS (by decide) (by decide) (by decide)).trans en_6_2) 0 (by omega) 999 (by omega))) ?_
    rintro M21 _ ⟨h21, r21, rfl, lr21, ur21⟩
    have hS := St.tr hS h21 (by decide) (by decide)
    refine Tr.sc [(0, r21)] rfl ?_
    refine Tr.istore_n (pc := 24) (i := 1) (ls2 := [(1, (0, r21)), (0, (2, 6))]) d_X5_piece_24 rfl (by decide) rfl ?_
    refine Tr.aload_n (pc := 25) (i := 0) d_X5_piece_25 rfl rfl ?_
    refine Tr.getf (pc := 26) d_X5_piece_26 f_5_32 (by decide) (by decide) (ty_6 hS.1.1) ?_
    refine Tr.tp 15 ((St.kp hS (by decide) (by decide) (by decide)).trans en_6_4) ?_
    refine Tr.iconst (pc := 29) d_X5_piece_29 (by decide) ?_
    refine Tr.iload_n (pc := 30) (i := 1) d_X5_piece_30 rfl rfl ?_
    refine Tr.callV (pc := 31) (as := [_, _]) d_X5_piece_31 s_5_215 ok_X4_emit rfl rfl (Nat.le_of_ble_eq_true rfl) (Nat.le_of_ble_eq_true rfl) (by decide) (ty_15 hS.1.1) ?_
    refine Tr.imp (Tr.deep (by decide) (sp_X4_emit_15_w3 hS.1.wk 0 (by omega) r21 (by omega) (by omega))) ?_
    rintro M31 _ ⟨h31, rfl⟩
    have hS := St.tr hS h31 (by decide) (by decide)
    refine Tr.sc [] rfl ?_
    refine Tr.iload_n (pc := 34) (i := 1) d_X5_piece_34 rfl rfl ?_
    refine Tr.if_lt (pc := 35) (tgt := 42) d_X5_piece_35 rfl (fun c35 => ?_) (fun c35 => ?_)
    · refine Tr.iconst (pc := 42) d_X5_piece_42 (by decide) ?_
      exact Tr.zret (pc := 43) d_X5_piece_43 rfl (by omega) ⟨hS, _, rfl, by omega, by omega, fun hq => absurd hq (by omega)⟩
    · refine Tr.iconst (pc := 38) d_X5_piece_38 (by decide) ?_
      refine Tr.goto (pc := 39) (tgt := 43) d_X5_piece_39 rfl ?_
      exact Tr.zret (pc := 43) d_X5_piece_43 rfl (by omega) ⟨hS, _, rfl, by omega, by omega, fun _ => ((St.kp h31 (by decide) (by decide) (by decide)).trans ((St.kp h21 (by decide) (by decide) (by decide)).trans en_6_6))⟩

def ws_X5_product_6_w10 : List (Int × Int) := [(6, 0), (6, 1), (6, 5), (6, 6), (15, 11)]
def as_X5_product_6_w10 : List Int := [24, 25]
def q_X5_product_6_w10 (M0 M' : Mem) (r : Option PV) : Prop := St Tru ws_X5_product_6_w10 as_X5_product_6_w10 M0 M' ∧ ∃ v : Int, r = some (0, v) ∧ 0 ≤ v ∧ v ≤ 1 ∧ ((1 ≤ v ∧ v ≤ 1) → rd M' 6 6 = 1)
set_option maxRecDepth 100000 in
set_option maxHeartbeats 4000000 in
theorem sp_X5_product_6_w10 {l : Launch} {K : EC} {M0 : Mem} {xq : Int} (hI : In Tru M0) (hE : e_all K xq) (en_6_2 : rd M0 6 2 = 2) (en_6_3 : rd M0 6 3 = 7) (en_6_4 : rd M0 6 4 = 15) (en_6_6 : rd M0 6 6 = 1)   : Tr l K 32 mX5_product 0 [(0, (2, 6))] [] M0 (q_X5_product_6_w10 M0) := by
  have hS : St Tru ws_X5_product_6_w10 as_X5_product_6_w10 M0 M0 := St.rf hI
  refine Tr.aload_n (pc := 0) (i := 0) d_X5_product_0 rfl rfl ?_
  refine Tr.callV (pc := 1) (as := []) d_X5_product_1 s_5_227 ok_X5_piece rfl rfl (Nat.le_of_ble_eq_true rfl) (Nat.le_of_ble_eq_true rfl) (by decide) (ty_6 hS.1.1) ?_
  refine Tr.imp (Tr.deep (by decide) (sp_X5_piece_6_w10 hS.1 hE ((St.kp hS (by decide) (by decide) (by decide)).trans en_6_2) ((St.kp hS (by decide) (by decide) (by decide)).trans en_6_3) ((St.kp hS (by decide) (by decide) (by decide)).trans en_6_4) en_6_6)) ?_
  rintro M1 _ ⟨h1, r1, rfl, lr1, ur1, x1_6_6⟩
  have hS := St.tr hS h1 (by decide) (by decide)
  refine Tr.sc [(0, r1)] rfl ?_
  refine Tr.istore_n (pc := 4) (i := 1) (ls2 := [(1, (0, r1)), (0, (2, 6))]) d_X5_product_4 rfl (by decide) rfl ?_
  refine Tr.iconst (pc := 5) d_X5_product_5 (by decide) ?_
  refine Tr.istore_n (pc := 6) (i := 2) (ls2 := [(2, (0, 0)), (1, (0, r1)), (0, (2, 6))]) d_X5_product_6 rfl (by decide) rfl ?_
  have J7 : ∀ (n7 : Nat) (M : Mem) (p7_1 p7_2 : Int), St Tru ws_X5_product_6_w10 as_X5_product_6_w10 M0 M → (0 ≤ p7_1 ∧ p7_1 ≤ 1) → (0 ≤ p7_2 ∧ p7_2 ≤ 900) → (p7_1 = 1 → rd M 6 6 = 1) → (900 - p7_2).toNat < n7 → Tr l K 32 mX5_product 7 [(0, (2, 6)), (1, (0, p7_1)), (2, (0, p7_2))] [] M (q_X5_product_6_w10 M0) := by
    intro n7
    induction n7 with
    | zero => intro M p7_1 p7_2 hS bp7_1 bp7_2  y7_p7_1_6_60 hm7; exact absurd hm7 (Nat.not_lt_zero _)
    | succ n7 J7 =>
      intro M p7_1 p7_2 hS bp7_1 bp7_2  y7_p7_1_6_60 hm7
      have y7_p7_1_6_6 : 1 ≤ p7_1 ∧ p7_1 ≤ 1 → rd M 6 6 = 1 := fun hq => y7_p7_1_6_60 (by omega)
      refine Tr.iload_n (pc := 7) (i := 2) d_X5_product_7 rfl rfl ?_
      refine Tr.sipush (pc := 8) d_X5_product_8 rfl (by decide) ?_
      refine Tr.icmp_ge (pc := 11) (tgt := 101) d_X5_product_11 rfl (fun c11 => ?_) (fun c11 => ?_)
      · refine Tr.iload_n (pc := 101) (i := 1) d_X5_product_101 rfl rfl ?_
        exact Tr.zret (pc := 102) d_X5_product_102 rfl (by omega) ⟨hS, _, rfl, by omega, by omega, fun hq => (y7_p7_1_6_6 (by omega))⟩
      · refine Tr.iload_n (pc := 14) (i := 1) d_X5_product_14 rfl rfl ?_
        refine Tr.if_eq (pc := 15) (tgt := 101) d_X5_product_15 rfl (fun c15 => ?_) (fun c15 => ?_)
        · refine Tr.iload_n (pc := 101) (i := 1) d_X5_product_101 rfl rfl ?_
          exact Tr.zret (pc := 102) d_X5_product_102 rfl (by omega) ⟨hS, _, rfl, by omega, by omega, fun hq => absurd hq (by omega)⟩
        · refine Tr.aload_n (pc := 18) (i := 0) d_X5_product_18 rfl rfl ?_
          refine Tr.bipush (pc := 19) d_X5_product_19 rfl (by decide) ?_
          refine Tr.callV (pc := 21) (as := [_]) d_X5_product_21 s_5_77 ok_X5_isSign rfl rfl (Nat.le_of_ble_eq_true rfl) (Nat.le_of_ble_eq_true rfl) (by decide) (ty_6 hS.1.1) ?_
          refine Tr.imp (Tr.deep (by decide) (sp_X5_isSign_6_w2 hS.1 ((St.kp hS (by decide) (by decide) (by decide)).trans en_6_2) 42 (by omega))) ?_
          rintro M21 _ ⟨h21, r21, rfl, lr21, ur21⟩
          have hS := St.tr hS h21 (by decide) (by decide)
          refine Tr.sc [(0, r21)] rfl ?_
          have J45 : ∀ (M : Mem), St Tru ws_X5_product_6_w10 as_X5_product_6_w10 M0 M → rd M 6 6 = 1 → Tr l K 32 mX5_product 45 [(0, (2, 6)), (2, (0, p7_2))] [] M (q_X5_product_6_w10 M0) := by
            intro M  hS  k45_6_6
            refine Tr.aload_n (pc := 45) (i := 0) d_X5_product_45 rfl rfl ?_
            refine Tr.bipush (pc := 46) d_X5_product_46 rfl (by decide) ?_
            refine Tr.callV (pc := 48) (as := [_]) d_X5_product_48 s_5_77 ok_X5_isSign rfl rfl (Nat.le_of_ble_eq_true rfl) (Nat.le_of_ble_eq_true rfl) (by decide) (ty_6 hS.1.1) ?_
            refine Tr.imp (Tr.deep (by decide) (sp_X5_isSign_6_w2 hS.1 ((St.kp hS (by decide) (by decide) (by decide)).trans en_6_2) 42 (by omega))) ?_
            rintro M48 _ ⟨h48, r48, rfl, lr48, ur48⟩
            have hS := St.tr hS h48 (by decide) (by decide)
            refine Tr.sc [(0, r48)] rfl ?_
            have J75 : ∀ (M : Mem) (q75_0 : Int), St Tru ws_X5_product_6_w10 as_X5_product_6_w10 M0 M → (8 ≤ q75_0 ∧ q75_0 ≤ 10) → rd M 6 6 = 1 → Tr l K 32 mX5_product 75 [(0, (2, 6)), (2, (0, p7_2))] [(0, q75_0)] M (q_X5_product_6_w10 M0) := by
              intro M q75_0 hS bq75_0 k75_6_6
              refine Tr.istore_n (pc := 75) (i := 3) (ls2 := [(3, (0, q75_0)), (0, (2, 6)), (2, (0, p7_2))]) d_X5_product_75 rfl (by decide) rfl ?_
              refine Tr.aload_n (pc := 76) (i := 0) d_X5_product_76 rfl rfl ?_
              refine Tr.callV (pc := 77) (as := []) d_X5_product_77 s_5_74 ok_X5_goOn rfl rfl (Nat.le_of_ble_eq_true rfl) (Nat.le_of_ble_eq_true rfl) (by decide) (ty_6 hS.1.1) ?_
              refine Tr.imp (Tr.deep (by decide) (sp_X5_goOn_6 hS.1 )) ?_
              rintro M77 _ ⟨h77, r77, rfl, lr77, ur77⟩
              have hS := St.tr hS h77 (by decide) (by decide)
              refine Tr.sc [(0, r77)] rfl ?_
              refine Tr.pop (pc := 80) d_X5_product_80 ne01 ?_
              refine Tr.aload_n (pc := 81) (i := 0) d_X5_product_81 rfl rfl ?_
              refine Tr.callV (pc := 82) (as := []) d_X5_product_82 s_5_227 ok_X5_piece rfl rfl (Nat.le_of_ble_eq_true rfl) (Nat.le_of_ble_eq_true rfl) (by decide) (ty_6 hS.1.1) ?_
              refine Tr.imp (Tr.deep (by decide) (sp_X5_piece_6_w10 hS.1 hE ((St.kp hS (by decide) (by decide) (by decide)).trans en_6_2) ((St.kp hS (by decide) (by decide) (by decide)).trans en_6_3) ((St.kp hS (by decide) (by decide) (by decide)).trans en_6_4) ((St.kp h77 (by decide) (by decide) (by decide)).trans k75_6_6))) ?_
              rintro M82 _ ⟨h82, r82, rfl, lr82, ur82, x82_6_6⟩
              have hS := St.tr hS h82 (by decide) (by decide)
              refine Tr.sc [(0, r82)] rfl ?_
              refine Tr.istore_n (pc := 85) (i := 1) (ls2 := [(1, (0, r82)), (3, (0, q75_0)), (0, (2, 6)), (2, (0, p7_2))]) d_X5_product_85 rfl (by decide) rfl ?_
              refine Tr.aload_n (pc := 86) (i := 0) d_X5_product_86 rfl rfl ?_
              refine Tr.getf (pc := 87) d_X5_product_87 f_5_32 (by decide) (by decide) (ty_6 hS.1.1) ?_
              refine Tr.tp 15 ((St.kp hS (by decide) (by decide) (by decide)).trans en_6_4) ?_
              refine Tr.iload_n (pc := 90) (i := 3) d_X5_product_90 rfl rfl ?_
              refine Tr.iconst (pc := 91) d_X5_product_91 (by decide) ?_
              refine Tr.callV (pc := 92) (as := [_, _]) d_X5_product_92 s_5_215 ok_X4_emit rfl rfl (Nat.le_of_ble_eq_true rfl) (Nat.le_of_ble_eq_true rfl) (by decide) (ty_15 hS.1.1) ?_
              refine Tr.imp (Tr.deep (by decide) (sp_X4_emit_15_w5 hS.1.wk q75_0 (by omega) 0 (by omega) (by omega))) ?_
              rintro M92 _ ⟨h92, rfl⟩
              have hS := St.tr hS h92 (by decide) (by decide)
              refine Tr.sc [] rfl ?_
              refine Tr.iincV (pc := 95) (n2 := (p7_2 + 1)) (ls2 := [(2, (0, (p7_2 + 1))), (1, (0, r82)), (3, (0, q75_0)), (0, (2, 6))]) d_X5_product_95 rfl (by decide) ((w32_id (by omega)).trans (by omega)) rfl ?_
              refine Tr.goto (pc := 98) (tgt := 7) d_X5_product_98 rfl ?_
              refine Tr.pick [3, 1, 0] (ls2 := [(0, (2, 6)), (1, (0, r82)), (2, (0, (p7_2 + 1)))]) rfl ?_
              exact J7 _ _ _ hS (by omega) (by omega) (fun hq => ((St.kp h92 (by decide) (by decide) (by decide)).trans (x82_6_6 (by omega)))) (by omega)
            refine Tr.if_eq (pc := 51) (tgt := 59) d_X5_product_51 rfl (fun c51 => ?_) (fun c51 => ?_)
            · refine Tr.aload_n (pc := 59) (i := 0) d_X5_product_59 rfl rfl ?_
              refine Tr.bipush (pc := 60) d_X5_product_60 rfl (by decide) ?_
              refine Tr.callV (pc := 62) (as := [_]) d_X5_product_62 s_5_77 ok_X5_isSign rfl rfl (Nat.le_of_ble_eq_true rfl) (Nat.le_of_ble_eq_true rfl) (by decide) (ty_6 hS.1.1) ?_
              refine Tr.imp (Tr.deep (by decide) (sp_X5_isSign_6_w2 hS.1 ((St.kp hS (by decide) (by decide) (by decide)).trans en_6_2) 47 (by omega))) ?_
              rintro M62 _ ⟨h62, r62, rfl, lr62, ur62⟩
              have hS := St.tr hS h62 (by decide) (by decide)
              refine Tr.sc [(0, r62)] rfl ?_
              refine Tr.if_eq (pc := 65) (tgt := 73) d_X5_product_65 rfl (fun c65 => ?_) (fun c65 => ?_)
              · refine Tr.bipush (pc := 73) d_X5_product_73 rfl (by decide) ?_
                refine Tr.pick [0, 1] (ls2 := [(0, (2, 6)), (2, (0, p7_2))]) rfl ?_
                exact J75 _ _ hS (by omega) ((St.kp h62 (by decide) (by decide) (by decide)).trans ((St.kp h48 (by decide) (by decide) (by decide)).trans k45_6_6))
              · refine Tr.bipush (pc := 68) d_X5_product_68 rfl (by decide) ?_
                refine Tr.goto (pc := 70) (tgt := 75) d_X5_product_70 rfl ?_
                refine Tr.pick [0, 1] (ls2 := [(0, (2, 6)), (2, (0, p7_2))]) rfl ?_
                exact J75 _ _ hS (by omega) ((St.kp h62 (by decide) (by decide) (by decide)).trans ((St.kp h48 (by decide) (by decide) (by decide)).trans k45_6_6))
            · refine Tr.bipush (pc := 54) d_X5_product_54 rfl (by decide) ?_
              refine Tr.goto (pc := 56) (tgt := 75) d_X5_product_56 rfl ?_
              refine Tr.pick [0, 1] (ls2 := [(0, (2, 6)), (2, (0, p7_2))]) rfl ?_
              exact J75 _ _ hS (by omega) ((St.kp h48 (by decide) (by decide) (by decide)).trans k45_6_6)
          refine Tr.if_ne (pc := 24) (tgt := 45) d_X5_product_24 rfl (fun c24 => ?_) (fun c24 => ?_)
          · refine Tr.pick [0, 2] (ls2 := [(0, (2, 6)), (2, (0, p7_2))]) rfl ?_
            exact J45 _ hS ((St.kp h21 (by decide) (by decide) (by decide)).trans (y7_p7_1_6_6 (by omega)))
          · refine Tr.aload_n (pc := 27) (i := 0) d_X5_product_27 rfl rfl ?_
            refine Tr.bipush (pc := 28) d_X5_product_28 rfl (by decide) ?_
            refine Tr.callV (pc := 30) (as := [_]) d_X5_product_30 s_5_77 ok_X5_isSign rfl rfl (Nat.le_of_ble_eq_true rfl) (Nat.le_of_ble_eq_true rfl) (by decide) (ty_6 hS.1.1) ?_
            refine Tr.imp (Tr.deep (by decide) (sp_X5_isSign_6_w2 hS.1 ((St.kp hS (by decide) (by decide) (by decide)).trans en_6_2) 47 (by omega))) ?_
            rintro M30 _ ⟨h30, r30, rfl, lr30, ur30⟩
            have hS := St.tr hS h30 (by decide) (by decide)
            refine Tr.sc [(0, r30)] rfl ?_
            refine Tr.if_ne (pc := 33) (tgt := 45) d_X5_product_33 rfl (fun c33 => ?_) (fun c33 => ?_)
            · refine Tr.pick [0, 2] (ls2 := [(0, (2, 6)), (2, (0, p7_2))]) rfl ?_
              exact J45 _ hS ((St.kp h30 (by decide) (by decide) (by decide)).trans ((St.kp h21 (by decide) (by decide) (by decide)).trans (y7_p7_1_6_6 (by omega))))
            · refine Tr.aload_n (pc := 36) (i := 0) d_X5_product_36 rfl rfl ?_
              refine Tr.bipush (pc := 37) d_X5_product_37 rfl (by decide) ?_
              refine Tr.callV (pc := 39) (as := [_]) d_X5_product_39 s_5_77 ok_X5_isSign rfl rfl (Nat.le_of_ble_eq_true rfl) (Nat.le_of_ble_eq_true rfl) (by decide) (ty_6 hS.1.1) ?_
              refine Tr.imp (Tr.deep (by decide) (sp_X5_isSign_6_w2 hS.1 ((St.kp hS (by decide) (by decide) (by decide)).trans en_6_2) 37 (by omega))) ?_
              rintro M39 _ ⟨h39, r39, rfl, lr39, ur39⟩
              have hS := St.tr hS h39 (by decide) (by decide)
              refine Tr.sc [(0, r39)] rfl ?_
              refine Tr.if_eq (pc := 42) (tgt := 101) d_X5_product_42 rfl (fun c42 => ?_) (fun c42 => ?_)
              · refine Tr.iload_n (pc := 101) (i := 1) d_X5_product_101 rfl rfl ?_
                exact Tr.zret (pc := 102) d_X5_product_102 rfl (by omega) ⟨hS, _, rfl, by omega, by omega, fun _ => ((St.kp h39 (by decide) (by decide) (by decide)).trans ((St.kp h30 (by decide) (by decide) (by decide)).trans ((St.kp h21 (by decide) (by decide) (by decide)).trans (y7_p7_1_6_6 (by omega)))))⟩
              · refine Tr.pick [0, 2] (ls2 := [(0, (2, 6)), (2, (0, p7_2))]) rfl ?_
                exact J45 _ hS ((St.kp h39 (by decide) (by decide) (by decide)).trans ((St.kp h30 (by decide) (by decide) (by decide)).trans ((St.kp h21 (by decide) (by decide) (by decide)).trans (y7_p7_1_6_6 (by omega)))))
  refine Tr.pick [2, 1, 0] (ls2 := [(0, (2, 6)), (1, (0, r1)), (2, (0, 0))]) rfl ?_
  exact J7 _ _ _ _ hS (by omega) (by omega) (fun hq => (x1_6_6 (by omega))) (Nat.lt_succ_self _)

def ws_X5_sum_6_w10 : List (Int × Int) := [(6, 0), (6, 1), (6, 5), (6, 6), (15, 11)]
def as_X5_sum_6_w10 : List Int := [24, 25]
def q_X5_sum_6_w10 (M0 M' : Mem) (r : Option PV) : Prop := St Tru ws_X5_sum_6_w10 as_X5_sum_6_w10 M0 M' ∧ ∃ v : Int, r = some (0, v) ∧ 0 ≤ v ∧ v ≤ 1 ∧ ((1 ≤ v ∧ v ≤ 1) → rd M' 6 6 = 1)
set_option maxRecDepth 100000 in
set_option maxHeartbeats 4000000 in
theorem sp_X5_sum_6_w10 {l : Launch} {K : EC} {M0 : Mem} {xq : Int} (hI : In Tru M0) (hE : e_all K xq) (en_6_2 : rd M0 6 2 = 2) (en_6_3 : rd M0 6 3 = 7) (en_6_4 : rd M0 6 4 = 15) (en_6_6 : rd M0 6 6 = 1)   : Tr l K 33 mX5_sum 0 [(0, (2, 6))] [] M0 (q_X5_sum_6_w10 M0) := by
  have hS : St Tru ws_X5_sum_6_w10 as_X5_sum_6_w10 M0 M0 := St.rf hI
  refine Tr.aload_n (pc := 0) (i := 0) d_X5_sum_0 rfl rfl ?_
  refine Tr.callV (pc := 1) (as := []) d_X5_sum_1 s_5_224 ok_X5_product rfl rfl (Nat.le_of_ble_eq_true rfl) (Nat.le_of_ble_eq_true rfl) (by decide) (ty_6 hS.1.1) ?_
  refine Tr.imp (Tr.deep (by decide) (sp_X5_product_6_w10 hS.1 hE ((St.kp hS (by decide) (by decide) (by decide)).trans en_6_2) ((St.kp hS (by decide) (by decide) (by decide)).trans en_6_3) ((St.kp hS (by decide) (by decide) (by decide)).trans en_6_4) en_6_6)) ?_
  rintro M1 _ ⟨h1, r1, rfl, lr1, ur1, x1_6_6⟩
  have hS := St.tr hS h1 (by decide) (by decide)
  refine Tr.sc [(0, r1)] rfl ?_
  refine Tr.istore_n (pc := 4) (i := 1) (ls2 := [(1, (0, r1)), (0, (2, 6))]) d_X5_sum_4 rfl (by decide) rfl ?_
  refine Tr.iconst (pc := 5) d_X5_sum_5 (by decide) ?_
  refine Tr.istore_n (pc := 6) (i := 2) (ls2 := [(2, (0, 0)), (1, (0, r1)), (0, (2, 6))]) d_X5_sum_6 rfl (by decide) rfl ?_
  have J7 : ∀ (n7 : Nat) (M : Mem) (p7_1 p7_2 : Int), St Tru ws_X5_sum_6_w10 as_X5_sum_6_w10 M0 M → (0 ≤ p7_1 ∧ p7_1 ≤ 1) → (0 ≤ p7_2 ∧ p7_2 ≤ 900) → (p7_1 = 1 → rd M 6 6 = 1) → (900 - p7_2).toNat < n7 → Tr l K 33 mX5_sum 7 [(0, (2, 6)), (1, (0, p7_1)), (2, (0, p7_2))] [] M (q_X5_sum_6_w10 M0) := by
    intro n7
    induction n7 with
    | zero => intro M p7_1 p7_2 hS bp7_1 bp7_2  y7_p7_1_6_60 hm7; exact absurd hm7 (Nat.not_lt_zero _)
    | succ n7 J7 =>
      intro M p7_1 p7_2 hS bp7_1 bp7_2  y7_p7_1_6_60 hm7
      have y7_p7_1_6_6 : 1 ≤ p7_1 ∧ p7_1 ≤ 1 → rd M 6 6 = 1 := fun hq => y7_p7_1_6_60 (by omega)
      refine Tr.iload_n (pc := 7) (i := 2) d_X5_sum_7 rfl rfl ?_
      refine Tr.sipush (pc := 8) d_X5_sum_8 rfl (by decide) ?_
      refine Tr.icmp_ge (pc := 11) (tgt := 78) d_X5_sum_11 rfl (fun c11 => ?_) (fun c11 => ?_)
      · refine Tr.iload_n (pc := 78) (i := 1) d_X5_sum_78 rfl rfl ?_
        exact Tr.zret (pc := 79) d_X5_sum_79 rfl (by omega) ⟨hS, _, rfl, by omega, by omega, fun hq => (y7_p7_1_6_6 (by omega))⟩
      · refine Tr.iload_n (pc := 14) (i := 1) d_X5_sum_14 rfl rfl ?_
        refine Tr.if_eq (pc := 15) (tgt := 78) d_X5_sum_15 rfl (fun c15 => ?_) (fun c15 => ?_)
        · refine Tr.iload_n (pc := 78) (i := 1) d_X5_sum_78 rfl rfl ?_
          exact Tr.zret (pc := 79) d_X5_sum_79 rfl (by omega) ⟨hS, _, rfl, by omega, by omega, fun hq => absurd hq (by omega)⟩
        · refine Tr.aload_n (pc := 18) (i := 0) d_X5_sum_18 rfl rfl ?_
          refine Tr.bipush (pc := 19) d_X5_sum_19 rfl (by decide) ?_
          refine Tr.callV (pc := 21) (as := [_]) d_X5_sum_21 s_5_77 ok_X5_isSign rfl rfl (Nat.le_of_ble_eq_true rfl) (Nat.le_of_ble_eq_true rfl) (by decide) (ty_6 hS.1.1) ?_
          refine Tr.imp (Tr.deep (by decide) (sp_X5_isSign_6_w2 hS.1 ((St.kp hS (by decide) (by decide) (by decide)).trans en_6_2) 43 (by omega))) ?_
          rintro M21 _ ⟨h21, r21, rfl, lr21, ur21⟩
          have hS := St.tr hS h21 (by decide) (by decide)
          refine Tr.sc [(0, r21)] rfl ?_
          have J36 : ∀ (M : Mem), St Tru ws_X5_sum_6_w10 as_X5_sum_6_w10 M0 M → rd M 6 6 = 1 → Tr l K 33 mX5_sum 36 [(0, (2, 6)), (2, (0, p7_2))] [] M (q_X5_sum_6_w10 M0) := by
            intro M  hS  k36_6_6
            refine Tr.aload_n (pc := 36) (i := 0) d_X5_sum_36 rfl rfl ?_
            refine Tr.bipush (pc := 37) d_X5_sum_37 rfl (by decide) ?_
            refine Tr.callV (pc := 39) (as := [_]) d_X5_sum_39 s_5_77 ok_X5_isSign rfl rfl (Nat.le_of_ble_eq_true rfl) (Nat.le_of_ble_eq_true rfl) (by decide) (ty_6 hS.1.1) ?_
            refine Tr.imp (Tr.deep (by decide) (sp_X5_isSign_6_w2 hS.1 ((St.kp hS (by decide) (by decide) (by decide)).trans en_6_2) 43 (by omega))) ?_
            rintro M39 _ ⟨h39, r39, rfl, lr39, ur39⟩
            have hS := St.tr hS h39 (by decide) (by decide)
            refine Tr.sc [(0, r39)] rfl ?_
            have J52 : ∀ (M : Mem) (q52_0 : Int), St Tru ws_X5_sum_6_w10 as_X5_sum_6_w10 M0 M → (6 ≤ q52_0 ∧ q52_0 ≤ 7) → rd M 6 6 = 1 → Tr l K 33 mX5_sum 52 [(0, (2, 6)), (2, (0, p7_2))] [(0, q52_0)] M (q_X5_sum_6_w10 M0) := by
              intro M q52_0 hS bq52_0 k52_6_6
              refine Tr.istore_n (pc := 52) (i := 3) (ls2 := [(3, (0, q52_0)), (0, (2, 6)), (2, (0, p7_2))]) d_X5_sum_52 rfl (by decide) rfl ?_
              refine Tr.aload_n (pc := 53) (i := 0) d_X5_sum_53 rfl rfl ?_
              refine Tr.callV (pc := 54) (as := []) d_X5_sum_54 s_5_74 ok_X5_goOn rfl rfl (Nat.le_of_ble_eq_true rfl) (Nat.le_of_ble_eq_true rfl) (by decide) (ty_6 hS.1.1) ?_
              refine Tr.imp (Tr.deep (by decide) (sp_X5_goOn_6 hS.1 )) ?_
              rintro M54 _ ⟨h54, r54, rfl, lr54, ur54⟩
              have hS := St.tr hS h54 (by decide) (by decide)
              refine Tr.sc [(0, r54)] rfl ?_
              refine Tr.pop (pc := 57) d_X5_sum_57 ne01 ?_
              refine Tr.aload_n (pc := 58) (i := 0) d_X5_sum_58 rfl rfl ?_
              refine Tr.callV (pc := 59) (as := []) d_X5_sum_59 s_5_224 ok_X5_product rfl rfl (Nat.le_of_ble_eq_true rfl) (Nat.le_of_ble_eq_true rfl) (by decide) (ty_6 hS.1.1) ?_
              refine Tr.imp (Tr.deep (by decide) (sp_X5_product_6_w10 hS.1 hE ((St.kp hS (by decide) (by decide) (by decide)).trans en_6_2) ((St.kp hS (by decide) (by decide) (by decide)).trans en_6_3) ((St.kp hS (by decide) (by decide) (by decide)).trans en_6_4) ((St.kp h54 (by decide) (by decide) (by decide)).trans k52_6_6))) ?_
              rintro M59 _ ⟨h59, r59, rfl, lr59, ur59, x59_6_6⟩
              have hS := St.tr hS h59 (by decide) (by decide)
              refine Tr.sc [(0, r59)] rfl ?_
              refine Tr.istore_n (pc := 62) (i := 1) (ls2 := [(1, (0, r59)), (3, (0, q52_0)), (0, (2, 6)), (2, (0, p7_2))]) d_X5_sum_62 rfl (by decide) rfl ?_
              refine Tr.aload_n (pc := 63) (i := 0) d_X5_sum_63 rfl rfl ?_
              refine Tr.getf (pc := 64) d_X5_sum_64 f_5_32 (by decide) (by decide) (ty_6 hS.1.1) ?_
              refine Tr.tp 15 ((St.kp hS (by decide) (by decide) (by decide)).trans en_6_4) ?_
              refine Tr.iload_n (pc := 67) (i := 3) d_X5_sum_67 rfl rfl ?_
              refine Tr.iconst (pc := 68) d_X5_sum_68 (by decide) ?_
              refine Tr.callV (pc := 69) (as := [_, _]) d_X5_sum_69 s_5_215 ok_X4_emit rfl rfl (Nat.le_of_ble_eq_true rfl) (Nat.le_of_ble_eq_true rfl) (by decide) (ty_15 hS.1.1) ?_
              refine Tr.imp (Tr.deep (by decide) (sp_X4_emit_15_w6 hS.1.wk q52_0 (by omega) 0 (by omega) (by omega))) ?_
              rintro M69 _ ⟨h69, rfl⟩
              have hS := St.tr hS h69 (by decide) (by decide)
              refine Tr.sc [] rfl ?_
              refine Tr.iincV (pc := 72) (n2 := (p7_2 + 1)) (ls2 := [(2, (0, (p7_2 + 1))), (1, (0, r59)), (3, (0, q52_0)), (0, (2, 6))]) d_X5_sum_72 rfl (by decide) ((w32_id (by omega)).trans (by omega)) rfl ?_
              refine Tr.goto (pc := 75) (tgt := 7) d_X5_sum_75 rfl ?_
              refine Tr.pick [3, 1, 0] (ls2 := [(0, (2, 6)), (1, (0, r59)), (2, (0, (p7_2 + 1)))]) rfl ?_
              exact J7 _ _ _ hS (by omega) (by omega) (fun hq => ((St.kp h69 (by decide) (by decide) (by decide)).trans (x59_6_6 (by omega)))) (by omega)
            refine Tr.if_eq (pc := 42) (tgt := 50) d_X5_sum_42 rfl (fun c42 => ?_) (fun c42 => ?_)
            · refine Tr.bipush (pc := 50) d_X5_sum_50 rfl (by decide) ?_
              refine Tr.pick [0, 1] (ls2 := [(0, (2, 6)), (2, (0, p7_2))]) rfl ?_
              exact J52 _ _ hS (by omega) ((St.kp h39 (by decide) (by decide) (by decide)).trans k36_6_6)
            · refine Tr.bipush (pc := 45) d_X5_sum_45 rfl (by decide) ?_
              refine Tr.goto (pc := 47) (tgt := 52) d_X5_sum_47 rfl ?_
              refine Tr.pick [0, 1] (ls2 := [(0, (2, 6)), (2, (0, p7_2))]) rfl ?_
              exact J52 _ _ hS (by omega) ((St.kp h39 (by decide) (by decide) (by decide)).trans k36_6_6)
          refine Tr.if_ne (pc := 24) (tgt := 36) d_X5_sum_24 rfl (fun c24 => ?_) (fun c24 => ?_)
          · refine Tr.pick [0, 2] (ls2 := [(0, (2, 6)), (2, (0, p7_2))]) rfl ?_
            exact J36 _ hS ((St.kp h21 (by decide) (by decide) (by decide)).trans (y7_p7_1_6_6 (by omega)))
          · refine Tr.aload_n (pc := 27) (i := 0) d_X5_sum_27 rfl rfl ?_
            refine Tr.bipush (pc := 28) d_X5_sum_28 rfl (by decide) ?_
            refine Tr.callV (pc := 30) (as := [_]) d_X5_sum_30 s_5_77 ok_X5_isSign rfl rfl (Nat.le_of_ble_eq_true rfl) (Nat.le_of_ble_eq_true rfl) (by decide) (ty_6 hS.1.1) ?_
            refine Tr.imp (Tr.deep (by decide) (sp_X5_isSign_6_w2 hS.1 ((St.kp hS (by decide) (by decide) (by decide)).trans en_6_2) 45 (by omega))) ?_
            rintro M30 _ ⟨h30, r30, rfl, lr30, ur30⟩
            have hS := St.tr hS h30 (by decide) (by decide)
            refine Tr.sc [(0, r30)] rfl ?_
            refine Tr.if_eq (pc := 33) (tgt := 78) d_X5_sum_33 rfl (fun c33 => ?_) (fun c33 => ?_)
            · refine Tr.iload_n (pc := 78) (i := 1) d_X5_sum_78 rfl rfl ?_
              exact Tr.zret (pc := 79) d_X5_sum_79 rfl (by omega) ⟨hS, _, rfl, by omega, by omega, fun _ => ((St.kp h30 (by decide) (by decide) (by decide)).trans ((St.kp h21 (by decide) (by decide) (by decide)).trans (y7_p7_1_6_6 (by omega))))⟩
            · refine Tr.pick [0, 2] (ls2 := [(0, (2, 6)), (2, (0, p7_2))]) rfl ?_
              exact J36 _ hS ((St.kp h30 (by decide) (by decide) (by decide)).trans ((St.kp h21 (by decide) (by decide) (by decide)).trans (y7_p7_1_6_6 (by omega))))
  refine Tr.pick [2, 1, 0] (ls2 := [(0, (2, 6)), (1, (0, r1)), (2, (0, 0))]) rfl ?_
  exact J7 _ _ _ _ hS (by omega) (by omega) (fun hq => (x1_6_6 (by omega))) (Nat.lt_succ_self _)

def ws_X5_choice_6_w17 : List (Int × Int) := [(6, 0), (6, 1), (6, 5), (6, 6), (15, 11)]
def as_X5_choice_6_w17 : List Int := [24, 25]
def q_X5_choice_6_w17 (M0 M' : Mem) (r : Option PV) : Prop := St Tru ws_X5_choice_6_w17 as_X5_choice_6_w17 M0 M' ∧ ∃ v : Int, r = some (0, v) ∧ 0 ≤ v ∧ v ≤ 1 ∧ ((1 ≤ v ∧ v ≤ 1) → rd M' 6 6 = 0)
set_option maxRecDepth 100000 in
set_option maxHeartbeats 4000000 in
theorem sp_X5_choice_6_w17 {l : Launch} {K : EC} {M0 : Mem} {xq : Int} (hI : In Tru M0) (hE : e_all K xq) (en_6_2 : rd M0 6 2 = 2) (en_6_3 : rd M0 6 3 = 7) (en_6_4 : rd M0 6 4 = 15) (en_6_6 : rd M0 6 6 = 0) (a1 : Int) (ha1 : 10 ≤ a1 ∧ a1 ≤ 15)  : Tr l K 34 mX5_choice 0 [(0, (2, 6)), (1, (0, a1))] [] M0 (q_X5_choice_6_w17 M0) := by
  have hS : St Tru ws_X5_choice_6_w17 as_X5_choice_6_w17 M0 M0 := St.rf hI
  refine Tr.aload_n (pc := 0) (i := 0) d_X5_choice_0 rfl rfl ?_
  refine Tr.callV (pc := 1) (as := []) d_X5_choice_1 s_5_74 ok_X5_goOn rfl rfl (Nat.le_of_ble_eq_true rfl) (Nat.le_of_ble_eq_true rfl) (by decide) (ty_6 hS.1.1) ?_
  refine Tr.imp (Tr.deep (by decide) (sp_X5_goOn_6 hS.1 )) ?_
  rintro M1 _ ⟨h1, r1, rfl, lr1, ur1⟩
  have hS := St.tr hS h1 (by decide) (by decide)
  refine Tr.sc [(0, r1)] rfl ?_
  refine Tr.pop (pc := 4) d_X5_choice_4 ne01 ?_
  refine Tr.aload_n (pc := 5) (i := 0) d_X5_choice_5 rfl rfl ?_
  refine Tr.bipush (pc := 6) d_X5_choice_6 rfl (by decide) ?_
  refine Tr.callV (pc := 8) (as := [_]) d_X5_choice_8 s_5_206 ok_X5_takeOpening rfl rfl (Nat.le_of_ble_eq_true rfl) (Nat.le_of_ble_eq_true rfl) (by decide) (ty_6 hS.1.1) ?_
  refine Tr.imp (Tr.deep (by decide) (sp_X5_takeOpening_6 hS.1 ((St.kp hS (by decide) (by decide) (by decide)).trans en_6_2) ((St.kp h1 (by decide) (by decide) (by decide)).trans en_6_6) 40 (by omega))) ?_
  rintro M8 _ ⟨h8, r8, rfl, lr8, ur8, x8_6_6⟩
  have hS := St.tr hS h8 (by decide) (by decide)
  refine Tr.sc [(0, r8)] rfl ?_
  have J51 : ∀ (M : Mem) (q51_0 : Int), St Tru ws_X5_choice_6_w17 as_X5_choice_6_w17 M0 M → (0 ≤ q51_0 ∧ q51_0 ≤ 1) → (q51_0 = 1 → rd M 6 6 = 0) → Tr l K 34 mX5_choice 51 [(0, (2, 6)), (1, (0, a1))] [(0, q51_0)] M (q_X5_choice_6_w17 M0) := by
    intro M q51_0 hS bq51_0  y51_q51_0_6_60
    have y51_q51_0_6_6 : 1 ≤ q51_0 ∧ q51_0 ≤ 1 → rd M 6 6 = 0 := fun hq => y51_q51_0_6_60 (by omega)
    refine Tr.istore_n (pc := 51) (i := 2) (ls2 := [(2, (0, q51_0)), (0, (2, 6)), (1, (0, a1))]) d_X5_choice_51 rfl (by decide) rfl ?_
    refine Tr.aload_n (pc := 52) (i := 0) d_X5_choice_52 rfl rfl ?_
    refine Tr.getf (pc := 53) d_X5_choice_53 f_5_32 (by decide) (by decide) (ty_6 hS.1.1) ?_
    refine Tr.tp 15 ((St.kp hS (by decide) (by decide) (by decide)).trans en_6_4) ?_
    refine Tr.iload_n (pc := 56) (i := 1) d_X5_choice_56 rfl rfl ?_
    refine Tr.iconst (pc := 57) d_X5_choice_57 (by decide) ?_
    refine Tr.callV (pc := 58) (as := [_, _]) d_X5_choice_58 s_5_215 ok_X4_emit rfl rfl (Nat.le_of_ble_eq_true rfl) (Nat.le_of_ble_eq_true rfl) (by decide) (ty_15 hS.1.1) ?_
    refine Tr.imp (Tr.deep (by decide) (sp_X4_emit_15_w4 hS.1.wk a1 (by omega) 0 (by omega) (by omega))) ?_
    rintro M58 _ ⟨h58, rfl⟩
    have hS := St.tr hS h58 (by decide) (by decide)
    refine Tr.sc [] rfl ?_
    refine Tr.iload_n (pc := 61) (i := 2) d_X5_choice_61 rfl rfl ?_
    exact Tr.zret (pc := 62) d_X5_choice_62 rfl (by omega) ⟨hS, _, rfl, by omega, by omega, fun hq => ((St.kp h58 (by decide) (by decide) (by decide)).trans (y51_q51_0_6_6 (by omega)))⟩
  have J50 : ∀ (M : Mem), St Tru ws_X5_choice_6_w17 as_X5_choice_6_w17 M0 M → Tr l K 34 mX5_choice 50 [(0, (2, 6)), (1, (0, a1))] [] M (q_X5_choice_6_w17 M0) := by
    intro M  hS  
    refine Tr.iconst (pc := 50) d_X5_choice_50 (by decide) ?_
    refine Tr.pick [0, 1] (ls2 := [(0, (2, 6)), (1, (0, a1))]) rfl ?_
    exact J51 _ _ hS (by omega) (fun hq => absurd hq (by omega))
  refine Tr.if_eq (pc := 11) (tgt := 50) d_X5_choice_11 rfl (fun c11 => ?_) (fun c11 => ?_)
  · refine Tr.pick [0, 1] (ls2 := [(0, (2, 6)), (1, (0, a1))]) rfl ?_
    exact J50 _ hS 
  · refine Tr.aload_n (pc := 14) (i := 0) d_X5_choice_14 rfl rfl ?_
    refine Tr.callV (pc := 15) (as := []) d_X5_choice_15 s_5_174 ok_X5_sum rfl rfl (Nat.le_of_ble_eq_true rfl) (Nat.le_of_ble_eq_true rfl) (by decide) (ty_6 hS.1.1) ?_
    refine Tr.imp (Tr.deep (by decide) (sp_X5_sum_6_w10 hS.1 hE ((St.kp hS (by decide) (by decide) (by decide)).trans en_6_2) ((St.kp hS (by decide) (by decide) (by decide)).trans en_6_3) ((St.kp hS (by decide) (by decide) (by decide)).trans en_6_4) (x8_6_6 (by omega)))) ?_
    rintro M15 _ ⟨h15, r15, rfl, lr15, ur15, x15_6_6⟩
    have hS := St.tr hS h15 (by decide) (by decide)
    refine Tr.sc [(0, r15)] rfl ?_
    refine Tr.if_eq (pc := 18) (tgt := 50) d_X5_choice_18 rfl (fun c18 => ?_) (fun c18 => ?_)
    · refine Tr.pick [0, 1] (ls2 := [(0, (2, 6)), (1, (0, a1))]) rfl ?_
      exact J50 _ hS 
    · refine Tr.aload_n (pc := 21) (i := 0) d_X5_choice_21 rfl rfl ?_
      refine Tr.bipush (pc := 22) d_X5_choice_22 rfl (by decide) ?_
      refine Tr.callV (pc := 24) (as := [_]) d_X5_choice_24 s_5_81 ok_X5_takeSign rfl rfl (Nat.le_of_ble_eq_true rfl) (Nat.le_of_ble_eq_true rfl) (by decide) (ty_6 hS.1.1) ?_
      refine Tr.imp (Tr.deep (by decide) (sp_X5_takeSign_6_w1 hS.1 ((St.kp hS (by decide) (by decide) (by decide)).trans en_6_2) 44 (by omega))) ?_
      rintro M24 _ ⟨h24, r24, rfl, lr24, ur24⟩
      have hS := St.tr hS h24 (by decide) (by decide)
      refine Tr.sc [(0, r24)] rfl ?_
      refine Tr.if_eq (pc := 27) (tgt := 50) d_X5_choice_27 rfl (fun c27 => ?_) (fun c27 => ?_)
      · refine Tr.pick [0, 1] (ls2 := [(0, (2, 6)), (1, (0, a1))]) rfl ?_
        exact J50 _ hS 
      · refine Tr.aload_n (pc := 30) (i := 0) d_X5_choice_30 rfl rfl ?_
        refine Tr.callV (pc := 31) (as := []) d_X5_choice_31 s_5_174 ok_X5_sum rfl rfl (Nat.le_of_ble_eq_true rfl) (Nat.le_of_ble_eq_true rfl) (by decide) (ty_6 hS.1.1) ?_
        refine Tr.imp (Tr.deep (by decide) (sp_X5_sum_6_w10 hS.1 hE ((St.kp hS (by decide) (by decide) (by decide)).trans en_6_2) ((St.kp hS (by decide) (by decide) (by decide)).trans en_6_3) ((St.kp hS (by decide) (by decide) (by decide)).trans en_6_4) ((St.kp h24 (by decide) (by decide) (by decide)).trans (x15_6_6 (by omega))))) ?_
        rintro M31 _ ⟨h31, r31, rfl, lr31, ur31, x31_6_6⟩
        have hS := St.tr hS h31 (by decide) (by decide)
        refine Tr.sc [(0, r31)] rfl ?_
        refine Tr.if_eq (pc := 34) (tgt := 50) d_X5_choice_34 rfl (fun c34 => ?_) (fun c34 => ?_)
        · refine Tr.pick [0, 1] (ls2 := [(0, (2, 6)), (1, (0, a1))]) rfl ?_
          exact J50 _ hS 
        · refine Tr.aload_n (pc := 37) (i := 0) d_X5_choice_37 rfl rfl ?_
          refine Tr.bipush (pc := 38) d_X5_choice_38 rfl (by decide) ?_
          refine Tr.callV (pc := 40) (as := [_]) d_X5_choice_40 s_5_209 ok_X5_takeClosing rfl rfl (Nat.le_of_ble_eq_true rfl) (Nat.le_of_ble_eq_true rfl) (by decide) (ty_6 hS.1.1) ?_
          refine Tr.imp (Tr.deep (by decide) (sp_X5_takeClosing_6_w7 hS.1 ((St.kp hS (by decide) (by decide) (by decide)).trans en_6_2) (x31_6_6 (by omega)) 41 (by omega))) ?_
          rintro M40 _ ⟨h40, r40, rfl, lr40, ur40, x40_6_6⟩
          have hS := St.tr hS h40 (by decide) (by decide)
          refine Tr.sc [(0, r40)] rfl ?_
          refine Tr.if_eq (pc := 43) (tgt := 50) d_X5_choice_43 rfl (fun c43 => ?_) (fun c43 => ?_)
          · refine Tr.pick [0, 1] (ls2 := [(0, (2, 6)), (1, (0, a1))]) rfl ?_
            exact J50 _ hS 
          · refine Tr.iconst (pc := 46) d_X5_choice_46 (by decide) ?_
            refine Tr.goto (pc := 47) (tgt := 51) d_X5_choice_47 rfl ?_
            refine Tr.pick [0, 1] (ls2 := [(0, (2, 6)), (1, (0, a1))]) rfl ?_
            exact J51 _ _ hS (by omega) (fun _ => (x40_6_6 (by omega)))

def ws_X5_piece_6_w9 : List (Int × Int) := [(6, 0), (6, 1), (6, 5), (6, 6), (15, 11)]
def as_X5_piece_6_w9 : List Int := [24, 25]
def q_X5_piece_6_w9 (M0 M' : Mem) (r : Option PV) : Prop := St Tru ws_X5_piece_6_w9 as_X5_piece_6_w9 M0 M' ∧ ∃ v : Int, r = some (0, v) ∧ 0 ≤ v ∧ v ≤ 1 ∧ ((1 ≤ v ∧ v ≤ 1) → rd M' 6 6 = 0)
set_option maxRecDepth 100000 in
set_option maxHeartbeats 4000000 in
theorem sp_X5_piece_6_w9 {l : Launch} {K : EC} {M0 : Mem} {xq : Int} (hI : In Tru M0) (hE : e_all K xq) (en_6_2 : rd M0 6 2 = 2) (en_6_3 : rd M0 6 3 = 7) (en_6_4 : rd M0 6 4 = 15) (en_6_6 : rd M0 6 6 = 0)   : Tr l K 35 mX5_piece 0 [(0, (2, 6))] [] M0 (q_X5_piece_6_w9 M0) := by
  have hS : St Tru ws_X5_piece_6_w9 as_X5_piece_6_w9 M0 M0 := St.rf hI
  refine Tr.aload_n (pc := 0) (i := 0) d_X5_piece_0 rfl rfl ?_
  refine Tr.getf (pc := 1) d_X5_piece_1 f_5_18 (by decide) (by decide) (ty_6 hS.1.1) ?_
  refine Tr.tp 2 ((St.kp hS (by decide) (by decide) (by decide)).trans en_6_2) ?_
  refine Tr.getf (pc := 4) d_X5_piece_4 f_5_50 (by decide) (by decide) (ty_2 hS.1.1) ?_
  refine Tr.tp 3 (fx_2_0 hS.1.1) ?_
  refine Tr.aload_n (pc := 7) (i := 0) d_X5_piece_7 rfl rfl ?_
  refine Tr.getf (pc := 8) d_X5_piece_8 f_5_36 (by decide) (by decide) (ty_6 hS.1.1) ?_
  refine Tr.gen (P := fun v => 0 ≤ v ∧ v ≤ 900) (ir_6_5 hS.1.2.1) (fun r8 er8 br8 => ?_)
  refine Tr.iald (pc := 11) d_X5_piece_11 (ty_3 hS.1.1) (by omega) (by omega) ?_
  refine Tr.gen (P := fun v => (-2147483648) ≤ v ∧ v ≤ 2147483647) (ar_3 hS.1.2.1 _) (fun r11 er11 br11 => ?_)
  refine Tr.iconst (pc := 12) d_X5_piece_12 (by decide) ?_
  refine Tr.icmp_ne (pc := 13) (tgt := 44) d_X5_piece_13 rfl (fun c13 => ?_) (fun c13 => ?_)
  · refine Tr.aload_n (pc := 44) (i := 0) d_X5_piece_44 rfl rfl ?_
    refine Tr.getf (pc := 45) d_X5_piece_45 f_5_18 (by decide) (by decide) (ty_6 hS.1.1) ?_
    refine Tr.tp 2 ((St.kp hS (by decide) (by decide) (by decide)).trans en_6_2) ?_
    refine Tr.getf (pc := 48) d_X5_piece_48 f_5_50 (by decide) (by decide) (ty_2 hS.1.1) ?_
    refine Tr.tp 3 (fx_2_0 hS.1.1) ?_
    refine Tr.aload_n (pc := 51) (i := 0) d_X5_piece_51 rfl rfl ?_
    refine Tr.getf (pc := 52) d_X5_piece_52 f_5_36 (by decide) (by decide) (ty_6 hS.1.1) ?_
    refine Tr.tp r8 er8 ?_
    refine Tr.iald (pc := 55) d_X5_piece_55 (ty_3 hS.1.1) (by omega) (by omega) ?_
    refine Tr.tp r11 er11 ?_
    refine Tr.iconst (pc := 56) d_X5_piece_56 (by decide) ?_
    refine Tr.icmp_ne (pc := 57) (tgt := 65) d_X5_piece_57 rfl (fun c57 => ?_) (fun c57 => ?_)
    · refine Tr.aload_n (pc := 65) (i := 0) d_X5_piece_65 rfl rfl ?_
      refine Tr.bipush (pc := 66) d_X5_piece_66 rfl (by decide) ?_
      refine Tr.callV (pc := 68) (as := [_]) d_X5_piece_68 s_5_77 ok_X5_isSign rfl rfl (Nat.le_of_ble_eq_true rfl) (Nat.le_of_ble_eq_true rfl) (by decide) (ty_6 hS.1.1) ?_
      refine Tr.imp (Tr.deep (by decide) (sp_X5_isSign_6_w2 hS.1 ((St.kp hS (by decide) (by decide) (by decide)).trans en_6_2) 40 (by omega))) ?_
      rintro M68 _ ⟨h68, r68, rfl, lr68, ur68⟩
      have hS := St.tr hS h68 (by decide) (by decide)
      refine Tr.sc [(0, r68)] rfl ?_
      refine Tr.if_eq (pc := 71) (tgt := 105) d_X5_piece_71 rfl (fun c71 => ?_) (fun c71 => ?_)
      · refine Tr.aload_n (pc := 105) (i := 0) d_X5_piece_105 rfl rfl ?_
        refine Tr.bipush (pc := 106) d_X5_piece_106 rfl (by decide) ?_
        refine Tr.callV (pc := 108) (as := [_]) d_X5_piece_108 s_5_71 ok_X5_isOwn rfl rfl (Nat.le_of_ble_eq_true rfl) (Nat.le_of_ble_eq_true rfl) (by decide) (ty_6 hS.1.1) ?_
        refine Tr.imp (Tr.deep (by decide) (sp_X5_isOwn_6_w4 hS.1 ((St.kp hS (by decide) (by decide) (by decide)).trans en_6_2) 24 (by omega))) ?_
        rintro M108 _ ⟨h108, r108, rfl, lr108, ur108⟩
        have hS := St.tr hS h108 (by decide) (by decide)
        refine Tr.sc [(0, r108)] rfl ?_
        refine Tr.if_eq (pc := 111) (tgt := 128) d_X5_piece_111 rfl (fun c111 => ?_) (fun c111 => ?_)
        · refine Tr.aload_n (pc := 128) (i := 0) d_X5_piece_128 rfl rfl ?_
          refine Tr.bipush (pc := 129) d_X5_piece_129 rfl (by decide) ?_
          refine Tr.callV (pc := 131) (as := [_]) d_X5_piece_131 s_5_71 ok_X5_isOwn rfl rfl (Nat.le_of_ble_eq_true rfl) (Nat.le_of_ble_eq_true rfl) (by decide) (ty_6 hS.1.1) ?_
          refine Tr.imp (Tr.deep (by decide) (sp_X5_isOwn_6_w4 hS.1 ((St.kp hS (by decide) (by decide) (by decide)).trans en_6_2) 25 (by omega))) ?_
          rintro M131 _ ⟨h131, r131, rfl, lr131, ur131⟩
          have hS := St.tr hS h131 (by decide) (by decide)
          refine Tr.sc [(0, r131)] rfl ?_
          have J146 : ∀ (M : Mem), St Tru ws_X5_piece_6_w9 as_X5_piece_6_w9 M0 M → rd M 3 r8 = r11 → rd M 6 5 = r8 → rd M 6 6 = 0 → Tr l K 35 mX5_piece 146 [(0, (2, 6))] [] M (q_X5_piece_6_w9 M0) := by
            intro M  hS  k146_3_r810 k146_6_5 k146_6_6
            refine Tr.aload_n (pc := 146) (i := 0) d_X5_piece_146 rfl rfl ?_
            refine Tr.aload_n (pc := 147) (i := 0) d_X5_piece_147 rfl rfl ?_
            refine Tr.bipush (pc := 148) d_X5_piece_148 rfl (by decide) ?_
            refine Tr.callV (pc := 150) (as := [_]) d_X5_piece_150 s_5_71 ok_X5_isOwn rfl rfl (Nat.le_of_ble_eq_true rfl) (Nat.le_of_ble_eq_true rfl) (by decide) (ty_6 hS.1.1) ?_
            refine Tr.imp (Tr.deep (by decide) (sp_X5_isOwn_6_w4 hS.1 ((St.kp hS (by decide) (by decide) (by decide)).trans en_6_2) 25 (by omega))) ?_
            rintro M150 _ ⟨h150, r150, rfl, lr150, ur150⟩
            have hS := St.tr hS h150 (by decide) (by decide)
            refine Tr.sc [(0, r150), (2, 6)] rfl ?_
            have J163 : ∀ (M : Mem) (q163_1 : Int), St Tru ws_X5_piece_6_w9 as_X5_piece_6_w9 M0 M → (11 ≤ q163_1 ∧ q163_1 ≤ 12) → rd M 3 r8 = r11 → rd M 6 5 = r8 → rd M 6 6 = 0 → Tr l K 35 mX5_piece 163 [] [(0, q163_1), (2, 6)] M (q_X5_piece_6_w9 M0) := by
              intro M q163_1 hS bq163_1 k163_3_r810 k163_6_5 k163_6_6
              refine Tr.callV (pc := 163) (as := [_]) d_X5_piece_163 s_5_233 ok_X5_choice rfl rfl (Nat.le_of_ble_eq_true rfl) (Nat.le_of_ble_eq_true rfl) (by decide) (ty_6 hS.1.1) ?_
              refine Tr.imp (Tr.deep (by decide) (sp_X5_choice_6_w17 hS.1 hE ((St.kp hS (by decide) (by decide) (by decide)).trans en_6_2) ((St.kp hS (by decide) (by decide) (by decide)).trans en_6_3) ((St.kp hS (by decide) (by decide) (by decide)).trans en_6_4) k163_6_6 q163_1 (by omega))) ?_
              rintro M163 _ ⟨h163, r163, rfl, lr163, ur163, x163_6_6⟩
              have hS := St.tr hS h163 (by decide) (by decide)
              refine Tr.sc [(0, r163)] rfl ?_
              exact Tr.zret (pc := 166) d_X5_piece_166 rfl (by omega) ⟨hS, _, rfl, by omega, by omega, fun hq => (x163_6_6 (by omega))⟩
            refine Tr.if_eq (pc := 153) (tgt := 161) d_X5_piece_153 rfl (fun c153 => ?_) (fun c153 => ?_)
            · refine Tr.bipush (pc := 161) d_X5_piece_161 rfl (by decide) ?_
              refine Tr.pick [] (ls2 := []) rfl ?_
              exact J163 _ _ hS (by omega) ((St.ka h150 (by decide) (by decide) (by decide)).trans k146_3_r810) ((St.kp h150 (by decide) (by decide) (by decide)).trans k146_6_5) ((St.kp h150 (by decide) (by decide) (by decide)).trans k146_6_6)
            · refine Tr.bipush (pc := 156) d_X5_piece_156 rfl (by decide) ?_
              refine Tr.goto (pc := 158) (tgt := 163) d_X5_piece_158 rfl ?_
              refine Tr.pick [] (ls2 := []) rfl ?_
              exact J163 _ _ hS (by omega) ((St.ka h150 (by decide) (by decide) (by decide)).trans k146_3_r810) ((St.kp h150 (by decide) (by decide) (by decide)).trans k146_6_5) ((St.kp h150 (by decide) (by decide) (by decide)).trans k146_6_6)
          refine Tr.if_ne (pc := 134) (tgt := 146) d_X5_piece_134 rfl (fun c134 => ?_) (fun c134 => ?_)
          · refine Tr.pick [0] (ls2 := [(0, (2, 6))]) rfl ?_
            exact J146 _ hS ((St.ka h131 (by decide) (by decide) (by decide)).trans ((St.ka h108 (by decide) (by decide) (by decide)).trans ((St.ka h68 (by decide) (by decide) (by decide)).trans er11))) ((St.kp h131 (by decide) (by decide) (by decide)).trans ((St.kp h108 (by decide) (by decide) (by decide)).trans ((St.kp h68 (by decide) (by decide) (by decide)).trans er8))) ((St.kp h131 (by decide) (by decide) (by decide)).trans ((St.kp h108 (by decide) (by decide) (by decide)).trans ((St.kp h68 (by decide) (by decide) (by decide)).trans en_6_6)))
          · refine Tr.aload_n (pc := 137) (i := 0) d_X5_piece_137 rfl rfl ?_
            refine Tr.bipush (pc := 138) d_X5_piece_138 rfl (by decide) ?_
            refine Tr.callV (pc := 140) (as := [_]) d_X5_piece_140 s_5_71 ok_X5_isOwn rfl rfl (Nat.le_of_ble_eq_true rfl) (Nat.le_of_ble_eq_true rfl) (by decide) (ty_6 hS.1.1) ?_
            refine Tr.imp (Tr.deep (by decide) (sp_X5_isOwn_6_w4 hS.1 ((St.kp hS (by decide) (by decide) (by decide)).trans en_6_2) 26 (by omega))) ?_
            rintro M140 _ ⟨h140, r140, rfl, lr140, ur140⟩
            have hS := St.tr hS h140 (by decide) (by decide)
            refine Tr.sc [(0, r140)] rfl ?_
            refine Tr.if_eq (pc := 143) (tgt := 167) d_X5_piece_143 rfl (fun c143 => ?_) (fun c143 => ?_)
            · refine Tr.aload_n (pc := 167) (i := 0) d_X5_piece_167 rfl rfl ?_
              refine Tr.iconst (pc := 168) d_X5_piece_168 (by decide) ?_
              refine Tr.callV (pc := 169) (as := [_]) d_X5_piece_169 s_5_56 ok_X5_refuse rfl rfl (Nat.le_of_ble_eq_true rfl) (Nat.le_of_ble_eq_true rfl) (by decide) (ty_6 hS.1.1) ?_
              refine Tr.imp (Tr.deep (by decide) (sp_X5_refuse_6_w1 hS.1 ((St.kp hS (by decide) (by decide) (by decide)).trans en_6_2) 1 (by omega))) ?_
              rintro M169 _ ⟨h169, r169, rfl, lr169, ur169⟩
              have hS := St.tr hS h169 (by decide) (by decide)
              refine Tr.sc [(0, r169)] rfl ?_
              exact Tr.zret (pc := 172) d_X5_piece_172 rfl (by omega) ⟨hS, _, rfl, by omega, by omega, fun hq => absurd hq (by omega)⟩
            · refine Tr.pick [0] (ls2 := [(0, (2, 6))]) rfl ?_
              exact J146 _ hS ((St.ka h140 (by decide) (by decide) (by decide)).trans ((St.ka h131 (by decide) (by decide) (by decide)).trans ((St.ka h108 (by decide) (by decide) (by decide)).trans ((St.ka h68 (by decide) (by decide) (by decide)).trans er11)))) ((St.kp h140 (by decide) (by decide) (by decide)).trans ((St.kp h131 (by decide) (by decide) (by decide)).trans ((St.kp h108 (by decide) (by decide) (by decide)).trans ((St.kp h68 (by decide) (by decide) (by decide)).trans er8)))) ((St.kp h140 (by decide) (by decide) (by decide)).trans ((St.kp h131 (by decide) (by decide) (by decide)).trans ((St.kp h108 (by decide) (by decide) (by decide)).trans ((St.kp h68 (by decide) (by decide) (by decide)).trans en_6_6))))
        · refine Tr.aload_n (pc := 114) (i := 0) d_X5_piece_114 rfl rfl ?_
          refine Tr.getf (pc := 115) d_X5_piece_115 f_5_32 (by decide) (by decide) (ty_6 hS.1.1) ?_
          refine Tr.tp 15 ((St.kp hS (by decide) (by decide) (by decide)).trans en_6_4) ?_
          refine Tr.iconst (pc := 118) d_X5_piece_118 (by decide) ?_
          refine Tr.iconst (pc := 119) d_X5_piece_119 (by decide) ?_
          refine Tr.callV (pc := 120) (as := [_, _]) d_X5_piece_120 s_5_215 ok_X4_emit rfl rfl (Nat.le_of_ble_eq_true rfl) (Nat.le_of_ble_eq_true rfl) (by decide) (ty_15 hS.1.1) ?_
          refine Tr.imp (Tr.deep (by decide) (sp_X4_emit_15 hS.1.wk 3 (by omega) 0 (by omega) (by omega))) ?_
          rintro M120 _ ⟨h120, rfl⟩
          have hS := St.tr hS h120 (by decide) (by decide)
          refine Tr.sc [] rfl ?_
          refine Tr.aload_n (pc := 123) (i := 0) d_X5_piece_123 rfl rfl ?_
          refine Tr.callV (pc := 124) (as := []) d_X5_piece_124 s_5_74 ok_X5_goOn rfl rfl (Nat.le_of_ble_eq_true rfl) (Nat.le_of_ble_eq_true rfl) (by decide) (ty_6 hS.1.1) ?_
          refine Tr.imp (Tr.deep (by decide) (sp_X5_goOn_6 hS.1 )) ?_
          rintro M124 _ ⟨h124, r124, rfl, lr124, ur124⟩
          have hS := St.tr hS h124 (by decide) (by decide)
          refine Tr.sc [(0, r124)] rfl ?_
          exact Tr.zret (pc := 127) d_X5_piece_127 rfl (by omega) ⟨hS, _, rfl, by omega, by omega, fun _ => ((St.kp h124 (by decide) (by decide) (by decide)).trans ((St.kp h120 (by decide) (by decide) (by decide)).trans ((St.kp h108 (by decide) (by decide) (by decide)).trans ((St.kp h68 (by decide) (by decide) (by decide)).trans en_6_6))))⟩
      · refine Tr.aload_n (pc := 74) (i := 0) d_X5_piece_74 rfl rfl ?_
        refine Tr.bipush (pc := 75) d_X5_piece_75 rfl (by decide) ?_
        refine Tr.callV (pc := 77) (as := [_]) d_X5_piece_77 s_5_206 ok_X5_takeOpening rfl rfl (Nat.le_of_ble_eq_true rfl) (Nat.le_of_ble_eq_true rfl) (by decide) (ty_6 hS.1.1) ?_
        refine Tr.imp (Tr.deep (by decide) (sp_X5_takeOpening_6 hS.1 ((St.kp hS (by decide) (by decide) (by decide)).trans en_6_2) ((St.kp h68 (by decide) (by decide) (by decide)).trans en_6_6) 40 (by omega))) ?_
        rintro M77 _ ⟨h77, r77, rfl, lr77, ur77, x77_6_6⟩
        have hS := St.tr hS h77 (by decide) (by decide)
        refine Tr.sc [(0, r77)] rfl ?_
        refine Tr.if_eq (pc := 80) (tgt := 103) d_X5_piece_80 rfl (fun c80 => ?_) (fun c80 => ?_)
        · refine Tr.iconst (pc := 103) d_X5_piece_103 (by decide) ?_
          exact Tr.zret (pc := 104) d_X5_piece_104 rfl (by omega) ⟨hS, _, rfl, by omega, by omega, fun hq => absurd hq (by omega)⟩
        · refine Tr.aload_n (pc := 83) (i := 0) d_X5_piece_83 rfl rfl ?_
          refine Tr.callV (pc := 84) (as := []) d_X5_piece_84 s_5_174 ok_X5_sum rfl rfl (Nat.le_of_ble_eq_true rfl) (Nat.le_of_ble_eq_true rfl) (by decide) (ty_6 hS.1.1) ?_
          refine Tr.imp (Tr.deep (by decide) (sp_X5_sum_6_w10 hS.1 hE ((St.kp hS (by decide) (by decide) (by decide)).trans en_6_2) ((St.kp hS (by decide) (by decide) (by decide)).trans en_6_3) ((St.kp hS (by decide) (by decide) (by decide)).trans en_6_4) (x77_6_6 (by omega)))) ?_
          rintro M84 _ ⟨h84, r84, rfl, lr84, ur84, x84_6_6⟩
          have hS := St.tr hS h84 (by decide) (by decide)
          refine Tr.sc [(0, r84)] rfl ?_
          refine Tr.if_eq (pc := 87) (tgt := 103) d_X5_piece_87 rfl (fun c87 => ?_) (fun c87 => ?_)
          · refine Tr.iconst (pc := 103) d_X5_piece_103 (by decide) ?_
            exact Tr.zret (pc := 104) d_X5_piece_104 rfl (by omega) ⟨hS, _, rfl, by omega, by omega, fun hq => absurd hq (by omega)⟩
          · refine Tr.aload_n (pc := 90) (i := 0) d_X5_piece_90 rfl rfl ?_
            refine Tr.bipush (pc := 91) d_X5_piece_91 rfl (by decide) ?_
            refine Tr.callV (pc := 93) (as := [_]) d_X5_piece_93 s_5_209 ok_X5_takeClosing rfl rfl (Nat.le_of_ble_eq_true rfl) (Nat.le_of_ble_eq_true rfl) (by decide) (ty_6 hS.1.1) ?_
            refine Tr.imp (Tr.deep (by decide) (sp_X5_takeClosing_6_w7 hS.1 ((St.kp hS (by decide) (by decide) (by decide)).trans en_6_2) (x84_6_6 (by omega)) 41 (by omega))) ?_
            rintro M93 _ ⟨h93, r93, rfl, lr93, ur93, x93_6_6⟩
            have hS := St.tr hS h93 (by decide) (by decide)
            refine Tr.sc [(0, r93)] rfl ?_
            refine Tr.if_eq (pc := 96) (tgt := 103) d_X5_piece_96 rfl (fun c96 => ?_) (fun c96 => ?_)
            · refine Tr.iconst (pc := 103) d_X5_piece_103 (by decide) ?_
              exact Tr.zret (pc := 104) d_X5_piece_104 rfl (by omega) ⟨hS, _, rfl, by omega, by omega, fun hq => absurd hq (by omega)⟩
            · refine Tr.iconst (pc := 99) d_X5_piece_99 (by decide) ?_
              refine Tr.goto (pc := 100) (tgt := 104) d_X5_piece_100 rfl ?_
              exact Tr.zret (pc := 104) d_X5_piece_104 rfl (by omega) ⟨hS, _, rfl, by omega, by omega, fun _ => (x93_6_6 (by omega))⟩
    · refine Tr.aload_n (pc := 60) (i := 0) d_X5_piece_60 rfl rfl ?_
      refine Tr.callV (pc := 61) (as := []) d_X5_piece_61 s_5_230 ok_X5_namedPiece rfl rfl (Nat.le_of_ble_eq_true rfl) (Nat.le_of_ble_eq_true rfl) (by decide) (ty_6 hS.1.1) ?_
      refine Tr.imp (Tr.deep (by decide) (sp_X5_namedPiece_6_w1 hS.1 hE ((St.kp hS (by decide) (by decide) (by decide)).trans en_6_2) ((St.kp hS (by decide) (by decide) (by decide)).trans en_6_3) ((St.kp hS (by decide) (by decide) (by decide)).trans en_6_4))) ?_
      rintro M61 _ ⟨h61, r61, rfl, lr61, ur61⟩
      have hS := St.tr hS h61 (by decide) (by decide)
      refine Tr.sc [(0, r61)] rfl ?_
      exact Tr.zret (pc := 64) d_X5_piece_64 rfl (by omega) ⟨hS, _, rfl, by omega, by omega, fun _ => ((St.kp h61 (by decide) (by decide) (by decide)).trans en_6_6)⟩
  · refine Tr.aload_n (pc := 16) (i := 0) d_X5_piece_16 rfl rfl ?_
    refine Tr.iconst (pc := 17) d_X5_piece_17 (by decide) ?_
    refine Tr.sipush (pc := 18) d_X5_piece_18 rfl (by decide) ?_
    refine Tr.callV (pc := 21) (as := [_, _]) d_X5_piece_21 s_5_87 ok_X5_takeNumber rfl rfl (Nat.le_of_ble_eq_true rfl) (Nat.le_of_ble_eq_true rfl) (by decide) (ty_6 hS.1.1) ?_
    refine Tr.imp (Tr.deep (by decide) (sp_X5_takeNumber_6_w2 hS.1 ((St.kp hS (by decide) (by decide) (by decide)).trans en_6_2) 0 (by omega) 999 (by omega))) ?_
    rintro M21 _ ⟨h21, r21, rfl, lr21, ur21⟩
    have hS := St.tr hS h21 (by decide) (by decide)
    refine Tr.sc [(0, r21)] rfl ?_
    refine Tr.istore_n (pc := 24) (i := 1) (ls2 := [(1, (0, r21)), (0, (2, 6))]) d_X5_piece_24 rfl (by decide) rfl ?_
    refine Tr.aload_n (pc := 25) (i := 0) d_X5_piece_25 rfl rfl ?_
    refine Tr.getf (pc := 26) d_X5_piece_26 f_5_32 (by decide) (by decide) (ty_6 hS.1.1) ?_
    refine Tr.tp 15 ((St.kp hS (by decide) (by decide) (by decide)).trans en_6_4) ?_
    refine Tr.iconst (pc := 29) d_X5_piece_29 (by decide) ?_
    refine Tr.iload_n (pc := 30) (i := 1) d_X5_piece_30 rfl rfl ?_
    refine Tr.callV (pc := 31) (as := [_, _]) d_X5_piece_31 s_5_215 ok_X4_emit rfl rfl (Nat.le_of_ble_eq_true rfl) (Nat.le_of_ble_eq_true rfl) (by decide) (ty_15 hS.1.1) ?_
    refine Tr.imp (Tr.deep (by decide) (sp_X4_emit_15_w3 hS.1.wk 0 (by omega) r21 (by omega) (by omega))) ?_
    rintro M31 _ ⟨h31, rfl⟩
    have hS := St.tr hS h31 (by decide) (by decide)
    refine Tr.sc [] rfl ?_
    refine Tr.iload_n (pc := 34) (i := 1) d_X5_piece_34 rfl rfl ?_
    refine Tr.if_lt (pc := 35) (tgt := 42) d_X5_piece_35 rfl (fun c35 => ?_) (fun c35 => ?_)
    · refine Tr.iconst (pc := 42) d_X5_piece_42 (by decide) ?_
      exact Tr.zret (pc := 43) d_X5_piece_43 rfl (by omega) ⟨hS, _, rfl, by omega, by omega, fun hq => absurd hq (by omega)⟩
    · refine Tr.iconst (pc := 38) d_X5_piece_38 (by decide) ?_
      refine Tr.goto (pc := 39) (tgt := 43) d_X5_piece_39 rfl ?_
      exact Tr.zret (pc := 43) d_X5_piece_43 rfl (by omega) ⟨hS, _, rfl, by omega, by omega, fun _ => ((St.kp h31 (by decide) (by decide) (by decide)).trans ((St.kp h21 (by decide) (by decide) (by decide)).trans en_6_6))⟩
end
/-! 43.19 -/
section
def ws_X5_product_6_w9 : List (Int × Int) := [(6, 0), (6, 1), (6, 5), (6, 6), (15, 11)]
def as_X5_product_6_w9 : List Int := [24, 25]
def q_X5_product_6_w9 (M0 M' : Mem) (r : Option PV) : Prop := St Tru ws_X5_product_6_w9 as_X5_product_6_w9 M0 M' ∧ ∃ v : Int, r = some (0, v) ∧ 0 ≤ v ∧ v ≤ 1 ∧ ((1 ≤ v ∧ v ≤ 1) → rd M' 6 6 = 0)
set_option maxRecDepth 100000 in
set_option maxHeartbeats 4000000 in
theorem sp_X5_product_6_w9 {l : Launch} {K : EC} {M0 : Mem} {xq : Int} (hI : In Tru M0) (hE : e_all K xq) (en_6_2 : rd M0 6 2 = 2) (en_6_3 : rd M0 6 3 = 7) (en_6_4 : rd M0 6 4 = 15) (en_6_6 : rd M0 6 6 = 0)   : Tr l K 36 mX5_product 0 [(0, (2, 6))] [] M0 (q_X5_product_6_w9 M0) := by
  have hS : St Tru ws_X5_product_6_w9 as_X5_product_6_w9 M0 M0 := St.rf hI
  refine Tr.aload_n (pc := 0) (i := 0) d_X5_product_0 rfl rfl ?_
  refine Tr.callV (pc := 1) (as := []) d_X5_product_1 s_5_227 ok_X5_piece rfl rfl (Nat.le_of_ble_eq_true rfl) (Nat.le_of_ble_eq_true rfl) (by decide) (ty_6 hS.1.1) ?_
  refine Tr.imp (Tr.deep (by decide) (sp_X5_piece_6_w9 hS.1 hE ((St.kp hS (by decide) (by decide) (by decide)).trans en_6_2) ((St.kp hS (by decide) (by decide) (by decide)).trans en_6_3) ((St.kp hS (by decide) (by decide) (by decide)).trans en_6_4) en_6_6)) ?_
  rintro M1 _ ⟨h1, r1, rfl, lr1, ur1, x1_6_6⟩
  have hS := St.tr hS h1 (by decide) (by decide)
  refine Tr.sc [(0, r1)] rfl ?_
  refine Tr.istore_n (pc := 4) (i := 1) (ls2 := [(1, (0, r1)), (0, (2, 6))]) d_X5_product_4 rfl (by decide) rfl ?_
  refine Tr.iconst (pc := 5) d_X5_product_5 (by decide) ?_
  refine Tr.istore_n (pc := 6) (i := 2) (ls2 := [(2, (0, 0)), (1, (0, r1)), (0, (2, 6))]) d_X5_product_6 rfl (by decide) rfl ?_
  have J7 : ∀ (n7 : Nat) (M : Mem) (p7_1 p7_2 : Int), St Tru ws_X5_product_6_w9 as_X5_product_6_w9 M0 M → (0 ≤ p7_1 ∧ p7_1 ≤ 1) → (0 ≤ p7_2 ∧ p7_2 ≤ 900) → (p7_1 = 1 → rd M 6 6 = 0) → (900 - p7_2).toNat < n7 → Tr l K 36 mX5_product 7 [(0, (2, 6)), (1, (0, p7_1)), (2, (0, p7_2))] [] M (q_X5_product_6_w9 M0) := by
    intro n7
    induction n7 with
    | zero => intro M p7_1 p7_2 hS bp7_1 bp7_2  y7_p7_1_6_60 hm7; exact absurd hm7 (Nat.not_lt_zero _)
    | succ n7 J7 =>
      intro M p7_1 p7_2 hS bp7_1 bp7_2  y7_p7_1_6_60 hm7
      have y7_p7_1_6_6 : 1 ≤ p7_1 ∧ p7_1 ≤ 1 → rd M 6 6 = 0 := fun hq => y7_p7_1_6_60 (by omega)
      refine Tr.iload_n (pc := 7) (i := 2) d_X5_product_7 rfl rfl ?_
      refine Tr.sipush (pc := 8) d_X5_product_8 rfl (by decide) ?_
      refine Tr.icmp_ge (pc := 11) (tgt := 101) d_X5_product_11 rfl (fun c11 => ?_) (fun c11 => ?_)
      · refine Tr.iload_n (pc := 101) (i := 1) d_X5_product_101 rfl rfl ?_
        exact Tr.zret (pc := 102) d_X5_product_102 rfl (by omega) ⟨hS, _, rfl, by omega, by omega, fun hq => (y7_p7_1_6_6 (by omega))⟩
      · refine Tr.iload_n (pc := 14) (i := 1) d_X5_product_14 rfl rfl ?_
        refine Tr.if_eq (pc := 15) (tgt := 101) d_X5_product_15 rfl (fun c15 => ?_) (fun c15 => ?_)
        · refine Tr.iload_n (pc := 101) (i := 1) d_X5_product_101 rfl rfl ?_
          exact Tr.zret (pc := 102) d_X5_product_102 rfl (by omega) ⟨hS, _, rfl, by omega, by omega, fun hq => absurd hq (by omega)⟩
        · refine Tr.aload_n (pc := 18) (i := 0) d_X5_product_18 rfl rfl ?_
          refine Tr.bipush (pc := 19) d_X5_product_19 rfl (by decide) ?_
          refine Tr.callV (pc := 21) (as := [_]) d_X5_product_21 s_5_77 ok_X5_isSign rfl rfl (Nat.le_of_ble_eq_true rfl) (Nat.le_of_ble_eq_true rfl) (by decide) (ty_6 hS.1.1) ?_
          refine Tr.imp (Tr.deep (by decide) (sp_X5_isSign_6_w2 hS.1 ((St.kp hS (by decide) (by decide) (by decide)).trans en_6_2) 42 (by omega))) ?_
          rintro M21 _ ⟨h21, r21, rfl, lr21, ur21⟩
          have hS := St.tr hS h21 (by decide) (by decide)
          refine Tr.sc [(0, r21)] rfl ?_
          have J45 : ∀ (M : Mem), St Tru ws_X5_product_6_w9 as_X5_product_6_w9 M0 M → rd M 6 6 = 0 → Tr l K 36 mX5_product 45 [(0, (2, 6)), (2, (0, p7_2))] [] M (q_X5_product_6_w9 M0) := by
            intro M  hS  k45_6_6
            refine Tr.aload_n (pc := 45) (i := 0) d_X5_product_45 rfl rfl ?_
            refine Tr.bipush (pc := 46) d_X5_product_46 rfl (by decide) ?_
            refine Tr.callV (pc := 48) (as := [_]) d_X5_product_48 s_5_77 ok_X5_isSign rfl rfl (Nat.le_of_ble_eq_true rfl) (Nat.le_of_ble_eq_true rfl) (by decide) (ty_6 hS.1.1) ?_
            refine Tr.imp (Tr.deep (by decide) (sp_X5_isSign_6_w2 hS.1 ((St.kp hS (by decide) (by decide) (by decide)).trans en_6_2) 42 (by omega))) ?_
            rintro M48 _ ⟨h48, r48, rfl, lr48, ur48⟩
            have hS := St.tr hS h48 (by decide) (by decide)
            refine Tr.sc [(0, r48)] rfl ?_
            have J75 : ∀ (M : Mem) (q75_0 : Int), St Tru ws_X5_product_6_w9 as_X5_product_6_w9 M0 M → (8 ≤ q75_0 ∧ q75_0 ≤ 10) → rd M 6 6 = 0 → Tr l K 36 mX5_product 75 [(0, (2, 6)), (2, (0, p7_2))] [(0, q75_0)] M (q_X5_product_6_w9 M0) := by
              intro M q75_0 hS bq75_0 k75_6_6
              refine Tr.istore_n (pc := 75) (i := 3) (ls2 := [(3, (0, q75_0)), (0, (2, 6)), (2, (0, p7_2))]) d_X5_product_75 rfl (by decide) rfl ?_
              refine Tr.aload_n (pc := 76) (i := 0) d_X5_product_76 rfl rfl ?_
              refine Tr.callV (pc := 77) (as := []) d_X5_product_77 s_5_74 ok_X5_goOn rfl rfl (Nat.le_of_ble_eq_true rfl) (Nat.le_of_ble_eq_true rfl) (by decide) (ty_6 hS.1.1) ?_
              refine Tr.imp (Tr.deep (by decide) (sp_X5_goOn_6 hS.1 )) ?_
              rintro M77 _ ⟨h77, r77, rfl, lr77, ur77⟩
              have hS := St.tr hS h77 (by decide) (by decide)
              refine Tr.sc [(0, r77)] rfl ?_
              refine Tr.pop (pc := 80) d_X5_product_80 ne01 ?_
              refine Tr.aload_n (pc := 81) (i := 0) d_X5_product_81 rfl rfl ?_
              refine Tr.callV (pc := 82) (as := []) d_X5_product_82 s_5_227 ok_X5_piece rfl rfl (Nat.le_of_ble_eq_true rfl) (Nat.le_of_ble_eq_true rfl) (by decide) (ty_6 hS.1.1) ?_
              refine Tr.imp (Tr.deep (by decide) (sp_X5_piece_6_w9 hS.1 hE ((St.kp hS (by decide) (by decide) (by decide)).trans en_6_2) ((St.kp hS (by decide) (by decide) (by decide)).trans en_6_3) ((St.kp hS (by decide) (by decide) (by decide)).trans en_6_4) ((St.kp h77 (by decide) (by decide) (by decide)).trans k75_6_6))) ?_
              rintro M82 _ ⟨h82, r82, rfl, lr82, ur82, x82_6_6⟩
              have hS := St.tr hS h82 (by decide) (by decide)
              refine Tr.sc [(0, r82)] rfl ?_
              refine Tr.istore_n (pc := 85) (i := 1) (ls2 := [(1, (0, r82)), (3, (0, q75_0)), (0, (2, 6)), (2, (0, p7_2))]) d_X5_product_85 rfl (by decide) rfl ?_
              refine Tr.aload_n (pc := 86) (i := 0) d_X5_product_86 rfl rfl ?_
              refine Tr.getf (pc := 87) d_X5_product_87 f_5_32 (by decide) (by decide) (ty_6 hS.1.1) ?_
              refine Tr.tp 15 ((St.kp hS (by decide) (by decide) (by decide)).trans en_6_4) ?_
              refine Tr.iload_n (pc := 90) (i := 3) d_X5_product_90 rfl rfl ?_
              refine Tr.iconst (pc := 91) d_X5_product_91 (by decide) ?_
              refine Tr.callV (pc := 92) (as := [_, _]) d_X5_product_92 s_5_215 ok_X4_emit rfl rfl (Nat.le_of_ble_eq_true rfl) (Nat.le_of_ble_eq_true rfl) (by decide) (ty_15 hS.1.1) ?_
              refine Tr.imp (Tr.deep (by decide) (sp_X4_emit_15_w5 hS.1.wk q75_0 (by omega) 0 (by omega) (by omega))) ?_
              rintro M92 _ ⟨h92, rfl⟩
              have hS := St.tr hS h92 (by decide) (by decide)
              refine Tr.sc [] rfl ?_
              refine Tr.iincV (pc := 95) (n2 := (p7_2 + 1)) (ls2 := [(2, (0, (p7_2 + 1))), (1, (0, r82)), (3, (0, q75_0)), (0, (2, 6))]) d_X5_product_95 rfl (by decide) ((w32_id (by omega)).trans (by omega)) rfl ?_
              refine Tr.goto (pc := 98) (tgt := 7) d_X5_product_98 rfl ?_
              refine Tr.pick [3, 1, 0] (ls2 := [(0, (2, 6)), (1, (0, r82)), (2, (0, (p7_2 + 1)))]) rfl ?_
              exact J7 _ _ _ hS (by omega) (by omega) (fun hq => ((St.kp h92 (by decide) (by decide) (by decide)).trans (x82_6_6 (by omega)))) (by omega)
            refine Tr.if_eq (pc := 51) (tgt := 59) d_X5_product_51 rfl (fun c51 => ?_) (fun c51 => ?_)
            · refine Tr.aload_n (pc := 59) (i := 0) d_X5_product_59 rfl rfl ?_
              refine Tr.bipush (pc := 60) d_X5_product_60 rfl (by decide) ?_
              refine Tr.callV (pc := 62) (as := [_]) d_X5_product_62 s_5_77 ok_X5_isSign rfl rfl (Nat.le_of_ble_eq_true rfl) (Nat.le_of_ble_eq_true rfl) (by decide) (ty_6 hS.1.1) ?_
              refine Tr.imp (Tr.deep (by decide) (sp_X5_isSign_6_w2 hS.1 ((St.kp hS (by decide) (by decide) (by decide)).trans en_6_2) 47 (by omega))) ?_
              rintro M62 _ ⟨h62, r62, rfl, lr62, ur62⟩
              have hS := St.tr hS h62 (by decide) (by decide)
              refine Tr.sc [(0, r62)] rfl ?_
              refine Tr.if_eq (pc := 65) (tgt := 73) d_X5_product_65 rfl (fun c65 => ?_) (fun c65 => ?_)
              · refine Tr.bipush (pc := 73) d_X5_product_73 rfl (by decide) ?_
                refine Tr.pick [0, 1] (ls2 := [(0, (2, 6)), (2, (0, p7_2))]) rfl ?_
                exact J75 _ _ hS (by omega) ((St.kp h62 (by decide) (by decide) (by decide)).trans ((St.kp h48 (by decide) (by decide) (by decide)).trans k45_6_6))
              · refine Tr.bipush (pc := 68) d_X5_product_68 rfl (by decide) ?_
                refine Tr.goto (pc := 70) (tgt := 75) d_X5_product_70 rfl ?_
                refine Tr.pick [0, 1] (ls2 := [(0, (2, 6)), (2, (0, p7_2))]) rfl ?_
                exact J75 _ _ hS (by omega) ((St.kp h62 (by decide) (by decide) (by decide)).trans ((St.kp h48 (by decide) (by decide) (by decide)).trans k45_6_6))
            · refine Tr.bipush (pc := 54) d_X5_product_54 rfl (by decide) ?_
              refine Tr.goto (pc := 56) (tgt := 75) d_X5_product_56 rfl ?_
              refine Tr.pick [0, 1] (ls2 := [(0, (2, 6)), (2, (0, p7_2))]) rfl ?_
              exact J75 _ _ hS (by omega) ((St.kp h48 (by decide) (by decide) (by decide)).trans k45_6_6)
          refine Tr.if_ne (pc := 24) (tgt := 45) d_X5_product_24 rfl (fun c24 => ?_) (fun c24 => ?_)
          · refine Tr.pick [0, 2] (ls2 := [(0, (2, 6)), (2, (0, p7_2))]) rfl ?_
            exact J45 _ hS ((St.kp h21 (by decide) (by decide) (by decide)).trans (y7_p7_1_6_6 (by omega)))
          · refine Tr.aload_n (pc := 27) (i := 0) d_X5_product_27 rfl rfl ?_
            refine Tr.bipush (pc := 28) d_X5_product_28 rfl (by decide) ?_
            refine Tr.callV (pc := 30) (as := [_]) d_X5_product_30 s_5_77 ok_X5_isSign rfl rfl (Nat.le_of_ble_eq_true rfl) (Nat.le_of_ble_eq_true rfl) (by decide) (ty_6 hS.1.1) ?_
            refine Tr.imp (Tr.deep (by decide) (sp_X5_isSign_6_w2 hS.1 ((St.kp hS (by decide) (by decide) (by decide)).trans en_6_2) 47 (by omega))) ?_
            rintro M30 _ ⟨h30, r30, rfl, lr30, ur30⟩
            have hS := St.tr hS h30 (by decide) (by decide)
            refine Tr.sc [(0, r30)] rfl ?_
            refine Tr.if_ne (pc := 33) (tgt := 45) d_X5_product_33 rfl (fun c33 => ?_) (fun c33 => ?_)
            · refine Tr.pick [0, 2] (ls2 := [(0, (2, 6)), (2, (0, p7_2))]) rfl ?_
              exact J45 _ hS ((St.kp h30 (by decide) (by decide) (by decide)).trans ((St.kp h21 (by decide) (by decide) (by decide)).trans (y7_p7_1_6_6 (by omega))))
            · refine Tr.aload_n (pc := 36) (i := 0) d_X5_product_36 rfl rfl ?_
              refine Tr.bipush (pc := 37) d_X5_product_37 rfl (by decide) ?_
              refine Tr.callV (pc := 39) (as := [_]) d_X5_product_39 s_5_77 ok_X5_isSign rfl rfl (Nat.le_of_ble_eq_true rfl) (Nat.le_of_ble_eq_true rfl) (by decide) (ty_6 hS.1.1) ?_
              refine Tr.imp (Tr.deep (by decide) (sp_X5_isSign_6_w2 hS.1 ((St.kp hS (by decide) (by decide) (by decide)).trans en_6_2) 37 (by omega))) ?_
              rintro M39 _ ⟨h39, r39, rfl, lr39, ur39⟩
              have hS := St.tr hS h39 (by decide) (by decide)
              refine Tr.sc [(0, r39)] rfl ?_
              refine Tr.if_eq (pc := 42) (tgt := 101) d_X5_product_42 rfl (fun c42 => ?_) (fun c42 => ?_)
              · refine Tr.iload_n (pc := 101) (i := 1) d_X5_product_101 rfl rfl ?_
                exact Tr.zret (pc := 102) d_X5_product_102 rfl (by omega) ⟨hS, _, rfl, by omega, by omega, fun _ => ((St.kp h39 (by decide) (by decide) (by decide)).trans ((St.kp h30 (by decide) (by decide) (by decide)).trans ((St.kp h21 (by decide) (by decide) (by decide)).trans (y7_p7_1_6_6 (by omega)))))⟩
              · refine Tr.pick [0, 2] (ls2 := [(0, (2, 6)), (2, (0, p7_2))]) rfl ?_
                exact J45 _ hS ((St.kp h39 (by decide) (by decide) (by decide)).trans ((St.kp h30 (by decide) (by decide) (by decide)).trans ((St.kp h21 (by decide) (by decide) (by decide)).trans (y7_p7_1_6_6 (by omega)))))
  refine Tr.pick [2, 1, 0] (ls2 := [(0, (2, 6)), (1, (0, r1)), (2, (0, 0))]) rfl ?_
  exact J7 _ _ _ _ hS (by omega) (by omega) (fun hq => (x1_6_6 (by omega))) (Nat.lt_succ_self _)

def ws_X5_sum_6_w9 : List (Int × Int) := [(6, 0), (6, 1), (6, 5), (6, 6), (15, 11)]
def as_X5_sum_6_w9 : List Int := [24, 25]
def q_X5_sum_6_w9 (M0 M' : Mem) (r : Option PV) : Prop := St Tru ws_X5_sum_6_w9 as_X5_sum_6_w9 M0 M' ∧ ∃ v : Int, r = some (0, v) ∧ 0 ≤ v ∧ v ≤ 1 ∧ ((1 ≤ v ∧ v ≤ 1) → rd M' 6 6 = 0)
set_option maxRecDepth 100000 in
set_option maxHeartbeats 4000000 in
theorem sp_X5_sum_6_w9 {l : Launch} {K : EC} {M0 : Mem} {xq : Int} (hI : In Tru M0) (hE : e_all K xq) (en_6_2 : rd M0 6 2 = 2) (en_6_3 : rd M0 6 3 = 7) (en_6_4 : rd M0 6 4 = 15) (en_6_6 : rd M0 6 6 = 0)   : Tr l K 37 mX5_sum 0 [(0, (2, 6))] [] M0 (q_X5_sum_6_w9 M0) := by
  have hS : St Tru ws_X5_sum_6_w9 as_X5_sum_6_w9 M0 M0 := St.rf hI
  refine Tr.aload_n (pc := 0) (i := 0) d_X5_sum_0 rfl rfl ?_
  refine Tr.callV (pc := 1) (as := []) d_X5_sum_1 s_5_224 ok_X5_product rfl rfl (Nat.le_of_ble_eq_true rfl) (Nat.le_of_ble_eq_true rfl) (by decide) (ty_6 hS.1.1) ?_
  refine Tr.imp (Tr.deep (by decide) (sp_X5_product_6_w9 hS.1 hE ((St.kp hS (by decide) (by decide) (by decide)).trans en_6_2) ((St.kp hS (by decide) (by decide) (by decide)).trans en_6_3) ((St.kp hS (by decide) (by decide) (by decide)).trans en_6_4) en_6_6)) ?_
  rintro M1 _ ⟨h1, r1, rfl, lr1, ur1, x1_6_6⟩
  have hS := St.tr hS h1 (by decide) (by decide)
  refine Tr.sc [(0, r1)] rfl ?_
  refine Tr.istore_n (pc := 4) (i := 1) (ls2 := [(1, (0, r1)), (0, (2, 6))]) d_X5_sum_4 rfl (by decide) rfl ?_
  refine Tr.iconst (pc := 5) d_X5_sum_5 (by decide) ?_
  refine Tr.istore_n (pc := 6) (i := 2) (ls2 := [(2, (0, 0)), (1, (0, r1)), (0, (2, 6))]) d_X5_sum_6 rfl (by decide) rfl ?_
  have J7 : ∀ (n7 : Nat) (M : Mem) (p7_1 p7_2 : Int), St Tru ws_X5_sum_6_w9 as_X5_sum_6_w9 M0 M → (0 ≤ p7_1 ∧ p7_1 ≤ 1) → (0 ≤ p7_2 ∧ p7_2 ≤ 900) → (p7_1 = 1 → rd M 6 6 = 0) → (900 - p7_2).toNat < n7 → Tr l K 37 mX5_sum 7 [(0, (2, 6)), (1, (0, p7_1)), (2, (0, p7_2))] [] M (q_X5_sum_6_w9 M0) := by
    intro n7
    induction n7 with
    | zero => intro M p7_1 p7_2 hS bp7_1 bp7_2  y7_p7_1_6_60 hm7; exact absurd hm7 (Nat.not_lt_zero _)
    | succ n7 J7 =>
      intro M p7_1 p7_2 hS bp7_1 bp7_2  y7_p7_1_6_60 hm7
      have y7_p7_1_6_6 : 1 ≤ p7_1 ∧ p7_1 ≤ 1 → rd M 6 6 = 0 := fun hq => y7_p7_1_6_60 (by omega)
      refine Tr.iload_n (pc := 7) (i := 2) d_X5_sum_7 rfl rfl ?_
      refine Tr.sipush (pc := 8) d_X5_sum_8 rfl (by decide) ?_
      refine Tr.icmp_ge (pc := 11) (tgt := 78) d_X5_sum_11 rfl (fun c11 => ?_) (fun c11 => ?_)
      · refine Tr.iload_n (pc := 78) (i := 1) d_X5_sum_78 rfl rfl ?_
        exact Tr.zret (pc := 79) d_X5_sum_79 rfl (by omega) ⟨hS, _, rfl, by omega, by omega, fun hq => (y7_p7_1_6_6 (by omega))⟩
      · refine Tr.iload_n (pc := 14) (i := 1) d_X5_sum_14 rfl rfl ?_
        refine Tr.if_eq (pc := 15) (tgt := 78) d_X5_sum_15 rfl (fun c15 => ?_) (fun c15 => ?_)
        · refine Tr.iload_n (pc := 78) (i := 1) d_X5_sum_78 rfl rfl ?_
          exact Tr.zret (pc := 79) d_X5_sum_79 rfl (by omega) ⟨hS, _, rfl, by omega, by omega, fun hq => absurd hq (by omega)⟩
        · refine Tr.aload_n (pc := 18) (i := 0) d_X5_sum_18 rfl rfl ?_
          refine Tr.bipush (pc := 19) d_X5_sum_19 rfl (by decide) ?_
          refine Tr.callV (pc := 21) (as := [_]) d_X5_sum_21 s_5_77 ok_X5_isSign rfl rfl (Nat.le_of_ble_eq_true rfl) (Nat.le_of_ble_eq_true rfl) (by decide) (ty_6 hS.1.1) ?_
          refine Tr.imp (Tr.deep (by decide) (sp_X5_isSign_6_w2 hS.1 ((St.kp hS (by decide) (by decide) (by decide)).trans en_6_2) 43 (by omega))) ?_
          rintro M21 _ ⟨h21, r21, rfl, lr21, ur21⟩
          have hS := St.tr hS h21 (by decide) (by decide)
          refine Tr.sc [(0, r21)] rfl ?_
          have J36 : ∀ (M : Mem), St Tru ws_X5_sum_6_w9 as_X5_sum_6_w9 M0 M → rd M 6 6 = 0 → Tr l K 37 mX5_sum 36 [(0, (2, 6)), (2, (0, p7_2))] [] M (q_X5_sum_6_w9 M0) := by
            intro M  hS  k36_6_6
            refine Tr.aload_n (pc := 36) (i := 0) d_X5_sum_36 rfl rfl ?_
            refine Tr.bipush (pc := 37) d_X5_sum_37 rfl (by decide) ?_
            refine Tr.callV (pc := 39) (as := [_]) d_X5_sum_39 s_5_77 ok_X5_isSign rfl rfl (Nat.le_of_ble_eq_true rfl) (Nat.le_of_ble_eq_true rfl) (by decide) (ty_6 hS.1.1) ?_
            refine Tr.imp (Tr.deep (by decide) (sp_X5_isSign_6_w2 hS.1 ((St.kp hS (by decide) (by decide) (by decide)).trans en_6_2) 43 (by omega))) ?_
            rintro M39 _ ⟨h39, r39, rfl, lr39, ur39⟩
            have hS := St.tr hS h39 (by decide) (by decide)
            refine Tr.sc [(0, r39)] rfl ?_
            have J52 : ∀ (M : Mem) (q52_0 : Int), St Tru ws_X5_sum_6_w9 as_X5_sum_6_w9 M0 M → (6 ≤ q52_0 ∧ q52_0 ≤ 7) → rd M 6 6 = 0 → Tr l K 37 mX5_sum 52 [(0, (2, 6)), (2, (0, p7_2))] [(0, q52_0)] M (q_X5_sum_6_w9 M0) := by
              intro M q52_0 hS bq52_0 k52_6_6
              refine Tr.istore_n (pc := 52) (i := 3) (ls2 := [(3, (0, q52_0)), (0, (2, 6)), (2, (0, p7_2))]) d_X5_sum_52 rfl (by decide) rfl ?_
              refine Tr.aload_n (pc := 53) (i := 0) d_X5_sum_53 rfl rfl ?_
              refine Tr.callV (pc := 54) (as := []) d_X5_sum_54 s_5_74 ok_X5_goOn rfl rfl (Nat.le_of_ble_eq_true rfl) (Nat.le_of_ble_eq_true rfl) (by decide) (ty_6 hS.1.1) ?_
              refine Tr.imp (Tr.deep (by decide) (sp_X5_goOn_6 hS.1 )) ?_
              rintro M54 _ ⟨h54, r54, rfl, lr54, ur54⟩
              have hS := St.tr hS h54 (by decide) (by decide)
              refine Tr.sc [(0, r54)] rfl ?_
              refine Tr.pop (pc := 57) d_X5_sum_57 ne01 ?_
              refine Tr.aload_n (pc := 58) (i := 0) d_X5_sum_58 rfl rfl ?_
              refine Tr.callV (pc := 59) (as := []) d_X5_sum_59 s_5_224 ok_X5_product rfl rfl (Nat.le_of_ble_eq_true rfl) (Nat.le_of_ble_eq_true rfl) (by decide) (ty_6 hS.1.1) ?_
              refine Tr.imp (Tr.deep (by decide) (sp_X5_product_6_w9 hS.1 hE ((St.kp hS (by decide) (by decide) (by decide)).trans en_6_2) ((St.kp hS (by decide) (by decide) (by decide)).trans en_6_3) ((St.kp hS (by decide) (by decide) (by decide)).trans en_6_4) ((St.kp h54 (by decide) (by decide) (by decide)).trans k52_6_6))) ?_
              rintro M59 _ ⟨h59, r59, rfl, lr59, ur59, x59_6_6⟩
              have hS := St.tr hS h59 (by decide) (by decide)
              refine Tr.sc [(0, r59)] rfl ?_
              refine Tr.istore_n (pc := 62) (i := 1) (ls2 := [(1, (0, r59)), (3, (0, q52_0)), (0, (2, 6)), (2, (0, p7_2))]) d_X5_sum_62 rfl (by decide) rfl ?_
              refine Tr.aload_n (pc := 63) (i := 0) d_X5_sum_63 rfl rfl ?_
              refine Tr.getf (pc := 64) d_X5_sum_64 f_5_32 (by decide) (by decide) (ty_6 hS.1.1) ?_
              refine Tr.tp 15 ((St.kp hS (by decide) (by decide) (by decide)).trans en_6_4) ?_
              refine Tr.iload_n (pc := 67) (i := 3) d_X5_sum_67 rfl rfl ?_
              refine Tr.iconst (pc := 68) d_X5_sum_68 (by decide) ?_
              refine Tr.callV (pc := 69) (as := [_, _]) d_X5_sum_69 s_5_215 ok_X4_emit rfl rfl (Nat.le_of_ble_eq_true rfl) (Nat.le_of_ble_eq_true rfl) (by decide) (ty_15 hS.1.1) ?_
              refine Tr.imp (Tr.deep (by decide) (sp_X4_emit_15_w6 hS.1.wk q52_0 (by omega) 0 (by omega) (by omega))) ?_
              rintro M69 _ ⟨h69, rfl⟩
              have hS := St.tr hS h69 (by decide) (by decide)
              refine Tr.sc [] rfl ?_
              refine Tr.iincV (pc := 72) (n2 := (p7_2 + 1)) (ls2 := [(2, (0, (p7_2 + 1))), (1, (0, r59)), (3, (0, q52_0)), (0, (2, 6))]) d_X5_sum_72 rfl (by decide) ((w32_id (by omega)).trans (by omega)) rfl ?_
              refine Tr.goto (pc := 75) (tgt := 7) d_X5_sum_75 rfl ?_
              refine Tr.pick [3, 1, 0] (ls2 := [(0, (2, 6)), (1, (0, r59)), (2, (0, (p7_2 + 1)))]) rfl ?_
              exact J7 _ _ _ hS (by omega) (by omega) (fun hq => ((St.kp h69 (by decide) (by decide) (by decide)).trans (x59_6_6 (by omega)))) (by omega)
            refine Tr.if_eq (pc := 42) (tgt := 50) d_X5_sum_42 rfl (fun c42 => ?_) (fun c42 => ?_)
            · refine Tr.bipush (pc := 50) d_X5_sum_50 rfl (by decide) ?_
              refine Tr.pick [0, 1] (ls2 := [(0, (2, 6)), (2, (0, p7_2))]) rfl ?_
              exact J52 _ _ hS (by omega) ((St.kp h39 (by decide) (by decide) (by decide)).trans k36_6_6)
            · refine Tr.bipush (pc := 45) d_X5_sum_45 rfl (by decide) ?_
              refine Tr.goto (pc := 47) (tgt := 52) d_X5_sum_47 rfl ?_
              refine Tr.pick [0, 1] (ls2 := [(0, (2, 6)), (2, (0, p7_2))]) rfl ?_
              exact J52 _ _ hS (by omega) ((St.kp h39 (by decide) (by decide) (by decide)).trans k36_6_6)
          refine Tr.if_ne (pc := 24) (tgt := 36) d_X5_sum_24 rfl (fun c24 => ?_) (fun c24 => ?_)
          · refine Tr.pick [0, 2] (ls2 := [(0, (2, 6)), (2, (0, p7_2))]) rfl ?_
            exact J36 _ hS ((St.kp h21 (by decide) (by decide) (by decide)).trans (y7_p7_1_6_6 (by omega)))
          · refine Tr.aload_n (pc := 27) (i := 0) d_X5_sum_27 rfl rfl ?_
            refine Tr.bipush (pc := 28) d_X5_sum_28 rfl (by decide) ?_
            refine Tr.callV (pc := 30) (as := [_]) d_X5_sum_30 s_5_77 ok_X5_isSign rfl rfl (Nat.le_of_ble_eq_true rfl) (Nat.le_of_ble_eq_true rfl) (by decide) (ty_6 hS.1.1) ?_
            refine Tr.imp (Tr.deep (by decide) (sp_X5_isSign_6_w2 hS.1 ((St.kp hS (by decide) (by decide) (by decide)).trans en_6_2) 45 (by omega))) ?_
            rintro M30 _ ⟨h30, r30, rfl, lr30, ur30⟩
            have hS := St.tr hS h30 (by decide) (by decide)
            refine Tr.sc [(0, r30)] rfl ?_
            refine Tr.if_eq (pc := 33) (tgt := 78) d_X5_sum_33 rfl (fun c33 => ?_) (fun c33 => ?_)
            · refine Tr.iload_n (pc := 78) (i := 1) d_X5_sum_78 rfl rfl ?_
              exact Tr.zret (pc := 79) d_X5_sum_79 rfl (by omega) ⟨hS, _, rfl, by omega, by omega, fun _ => ((St.kp h30 (by decide) (by decide) (by decide)).trans ((St.kp h21 (by decide) (by decide) (by decide)).trans (y7_p7_1_6_6 (by omega))))⟩
            · refine Tr.pick [0, 2] (ls2 := [(0, (2, 6)), (2, (0, p7_2))]) rfl ?_
              exact J36 _ hS ((St.kp h30 (by decide) (by decide) (by decide)).trans ((St.kp h21 (by decide) (by decide) (by decide)).trans (y7_p7_1_6_6 (by omega))))
  refine Tr.pick [2, 1, 0] (ls2 := [(0, (2, 6)), (1, (0, r1)), (2, (0, 0))]) rfl ?_
  exact J7 _ _ _ _ hS (by omega) (by omega) (fun hq => (x1_6_6 (by omega))) (Nat.lt_succ_self _)

def ws_X3_which_7_v0 : List (Int × Int) := []
def as_X3_which_7_v0 : List Int := []
def q_X3_which_7_v0 (a2 : Int) (M0 M' : Mem) (r : Option PV) : Prop := St Tru ws_X3_which_7_v0 as_X3_which_7_v0 M0 M' ∧ ∃ v : Int, r = some (0, v) ∧ (-1) ≤ v ∧ v ≤ 5 ∧ ((v = a2 - 0 ∧ 0 ≤ v ∧ v < rd M' 8 0) ∨ (v = -1 ∧ (a2 < 0 ∨ rd M' 8 0 ≤ a2 - 0)))
set_option maxRecDepth 100000 in
set_option maxHeartbeats 4000000 in
theorem sp_X3_which_7_v0 {l : Launch} {K : EC} {M0 : Mem} {xq : Int} (hI : In Tru M0) (hE : e_all K xq)  (a2 : Int) (ha2 : 0 ≤ a2 ∧ a2 ≤ 15)  : Tr l K 0 mX3_which 0 [(0, (2, 7)), (1, (0, 0)), (2, (0, a2))] [] M0 (q_X3_which_7_v0 a2 M0) := by
  have hS : St Tru ws_X3_which_7_v0 as_X3_which_7_v0 M0 M0 := St.rf hI
  obtain ⟨g8_0, eg8_0⟩ : ∃ v, rd M0 8 0 = v := ⟨_, rfl⟩
  have bg8_0 : 0 ≤ g8_0 ∧ g8_0 ≤ 6 := by rw [← eg8_0]; exact ir_8_0 hI.2.1
  refine Tr.iload_n (pc := 0) (i := 2) d_X3_which_0 rfl rfl ?_
  refine Tr.gets (pc := 1) d_X3_which_1 sl_3_65 hE.2.2.2.2.1 ?_
  refine Tr.iload_n (pc := 4) (i := 1) d_X3_which_4 rfl rfl ?_
  refine Tr.xld (pc := 5) (i := 2) d_X3_which_5 rfl hE.2.1 (by omega) (by omega) ?_
  refine Tr.tp 0 (by decide) ?_
  refine Tr.isub (pc := 6) d_X3_which_6 ?_
  refine Tr.tp a2 ((w32_id (by omega)).trans (by omega)) ?_
  refine Tr.istore_n (pc := 7) (i := 3) (ls2 := [(3, (0, a2)), (0, (2, 7)), (1, (0, 0)), (2, (0, a2))]) d_X3_which_7 rfl (by decide) rfl ?_
  refine Tr.iload_n (pc := 8) (i := 3) d_X3_which_8 rfl rfl ?_
  refine Tr.if_lt (pc := 9) (tgt := 26) d_X3_which_9 rfl (fun hc => absurd hc (by omega)) (fun _ => ?_)
  refine Tr.iload_n (pc := 12) (i := 3) d_X3_which_12 rfl rfl ?_
  refine Tr.aload_n (pc := 13) (i := 0) d_X3_which_13 rfl rfl ?_
  refine Tr.getf (pc := 14) d_X3_which_14 f_3_11 (by decide) (by decide) (ty_7 hS.1.1) ?_
  refine Tr.tp 8 (fx_7_4 hS.1.1) ?_
  refine Tr.iload_n (pc := 17) (i := 1) d_X3_which_17 rfl rfl ?_
  refine Tr.iald (pc := 18) d_X3_which_18 (ty_8 hS.1.1) (by omega) (by omega) ?_
  refine Tr.tp g8_0 eg8_0 ?_
  refine Tr.icmp_ge (pc := 19) (tgt := 26) d_X3_which_19 rfl (fun c19 => ?_) (fun c19 => ?_)
  · refine Tr.iconst (pc := 26) d_X3_which_26 (by decide) ?_
    have kr_8_0 : rd M0 8 0 = g8_0 := eg8_0
    exact Tr.iret (pc := 27) d_X3_which_27 rfl ⟨hS, _, rfl, by omega, by omega, by omega⟩
  · refine Tr.iload_n (pc := 22) (i := 3) d_X3_which_22 rfl rfl ?_
    refine Tr.goto (pc := 23) (tgt := 27) d_X3_which_23 rfl ?_
    have kr_8_0 : rd M0 8 0 = g8_0 := eg8_0
    exact Tr.iret (pc := 27) d_X3_which_27 rfl ⟨hS, _, rfl, by omega, by omega, by omega⟩

def ws_X5_takeName_6_v0_w1 : List (Int × Int) := [(6, 0), (6, 1), (6, 5)]
def as_X5_takeName_6_v0_w1 : List Int := []
def q_X5_takeName_6_v0_w1 (M0 M' : Mem) (r : Option PV) : Prop := St Tru ws_X5_takeName_6_v0_w1 as_X5_takeName_6_v0_w1 M0 M' ∧ ∃ v : Int, r = some (0, v) ∧ (-1) ≤ v ∧ v ≤ 5
set_option maxRecDepth 100000 in
set_option maxHeartbeats 4000000 in
theorem sp_X5_takeName_6_v0_w1 {l : Launch} {K : EC} {M0 : Mem} {xq : Int} (hI : In Tru M0) (hE : e_all K xq) (en_6_2 : rd M0 6 2 = 2) (en_6_3 : rd M0 6 3 = 7)   : Tr l K 1 mX5_takeName 0 [(0, (2, 6)), (1, (0, 0))] [] M0 (q_X5_takeName_6_v0_w1 M0) := by
  have hS : St Tru ws_X5_takeName_6_v0_w1 as_X5_takeName_6_v0_w1 M0 M0 := St.rf hI
  refine Tr.aload_n (pc := 0) (i := 0) d_X5_takeName_0 rfl rfl ?_
  refine Tr.getf (pc := 1) d_X5_takeName_1 f_5_18 (by decide) (by decide) (ty_6 hS.1.1) ?_
  refine Tr.tp 2 ((St.kp hS (by decide) (by decide) (by decide)).trans en_6_2) ?_
  refine Tr.getf (pc := 4) d_X5_takeName_4 f_5_50 (by decide) (by decide) (ty_2 hS.1.1) ?_
  refine Tr.tp 3 (fx_2_0 hS.1.1) ?_
  refine Tr.aload_n (pc := 7) (i := 0) d_X5_takeName_7 rfl rfl ?_
  refine Tr.getf (pc := 8) d_X5_takeName_8 f_5_36 (by decide) (by decide) (ty_6 hS.1.1) ?_
  refine Tr.gen (P := fun v => 0 ≤ v ∧ v ≤ 900) (ir_6_5 hS.1.2.1) (fun r8 er8 br8 => ?_)
  refine Tr.iald (pc := 11) d_X5_takeName_11 (ty_3 hS.1.1) (by omega) (by omega) ?_
  refine Tr.gen (P := fun v => (-2147483648) ≤ v ∧ v ≤ 2147483647) (ar_3 hS.1.2.1 _) (fun r11 er11 br11 => ?_)
  refine Tr.iconst (pc := 12) d_X5_takeName_12 (by decide) ?_
  refine Tr.icmp_eq (pc := 13) (tgt := 24) d_X5_takeName_13 rfl (fun c13 => ?_) (fun c13 => ?_)
  · refine Tr.aload_n (pc := 24) (i := 0) d_X5_takeName_24 rfl rfl ?_
    refine Tr.getf (pc := 25) d_X5_takeName_25 f_5_22 (by decide) (by decide) (ty_6 hS.1.1) ?_
    refine Tr.tp 7 ((St.kp hS (by decide) (by decide) (by decide)).trans en_6_3) ?_
    refine Tr.aload_n (pc := 28) (i := 0) d_X5_takeName_28 rfl rfl ?_
    refine Tr.getf (pc := 29) d_X5_takeName_29 f_5_18 (by decide) (by decide) (ty_6 hS.1.1) ?_
    refine Tr.tp 2 ((St.kp hS (by decide) (by decide) (by decide)).trans en_6_2) ?_
    refine Tr.getf (pc := 32) d_X5_takeName_32 f_5_68 (by decide) (by decide) (ty_2 hS.1.1) ?_
    refine Tr.tp 5 (fx_2_2 hS.1.1) ?_
    refine Tr.aload_n (pc := 35) (i := 0) d_X5_takeName_35 rfl rfl ?_
    refine Tr.getf (pc := 36) d_X5_takeName_36 f_5_36 (by decide) (by decide) (ty_6 hS.1.1) ?_
    refine Tr.tp r8 er8 ?_
    refine Tr.iald (pc := 39) d_X5_takeName_39 (ty_5 hS.1.1) (by omega) (by omega) ?_
    refine Tr.gen (P := fun v => (-2147483648) ≤ v ∧ v ≤ 2147483647) (ar_5 hS.1.2.1 _) (fun r39 er39 br39 => ?_)
    refine Tr.callV (pc := 40) (as := [_]) d_X5_takeName_40 s_5_91 ok_X3_find rfl rfl (Nat.le_of_ble_eq_true rfl) (Nat.le_of_ble_eq_true rfl) (by decide) (ty_7 hS.1.1) ?_
    refine Tr.imp (Tr.deep (by decide) (sp_X3_find_7 hS.1 r39 (by omega))) ?_
    rintro M40 _ ⟨h40, r40, rfl, lr40, ur40⟩
    have hS := St.tr hS h40 (by decide) (by decide)
    refine Tr.sc [(0, r40)] rfl ?_
    refine Tr.istore_n (pc := 43) (i := 2) (ls2 := [(2, (0, r40)), (0, (2, 6)), (1, (0, 0))]) d_X5_takeName_43 rfl (by decide) rfl ?_
    refine Tr.iload_n (pc := 44) (i := 2) d_X5_takeName_44 rfl rfl ?_
    have J61 : ∀ (M : Mem) (q61_0 : Int), St Tru ws_X5_takeName_6_v0_w1 as_X5_takeName_6_v0_w1 M0 M → ((-1) ≤ q61_0 ∧ q61_0 ≤ 5) → rd M 3 r8 = r11 → rd M 5 r8 = r39 → rd M 6 5 = r8 → Tr l K 1 mX5_takeName 61 [(0, (2, 6))] [(0, q61_0)] M (q_X5_takeName_6_v0_w1 M0) := by
      intro M q61_0 hS bq61_0 k61_3_r810 k61_5_r810 k61_6_5
      refine Tr.istore_n (pc := 61) (i := 3) (ls2 := [(3, (0, q61_0)), (0, (2, 6))]) d_X5_takeName_61 rfl (by decide) rfl ?_
      refine Tr.iload_n (pc := 62) (i := 3) d_X5_takeName_62 rfl rfl ?_
      refine Tr.if_ge (pc := 63) (tgt := 74) d_X5_takeName_63 rfl (fun c63 => ?_) (fun c63 => ?_)
      · refine Tr.aload_n (pc := 74) (i := 0) d_X5_takeName_74 rfl rfl ?_
        refine Tr.callV (pc := 75) (as := []) d_X5_takeName_75 s_5_74 ok_X5_goOn rfl rfl (Nat.le_of_ble_eq_true rfl) (Nat.le_of_ble_eq_true rfl) (by decide) (ty_6 hS.1.1) ?_
        refine Tr.imp (Tr.deep (by decide) (sp_X5_goOn_6 hS.1 )) ?_
        rintro M75 _ ⟨h75, r75, rfl, lr75, ur75⟩
        have hS := St.tr hS h75 (by decide) (by decide)
        refine Tr.sc [(0, r75)] rfl ?_
        refine Tr.pop (pc := 78) d_X5_takeName_78 ne01 ?_
        refine Tr.iload_n (pc := 79) (i := 3) d_X5_takeName_79 rfl rfl ?_
        exact Tr.iret (pc := 80) d_X5_takeName_80 rfl ⟨hS, _, rfl, by omega, by omega⟩
      · refine Tr.aload_n (pc := 66) (i := 0) d_X5_takeName_66 rfl rfl ?_
        refine Tr.iconst (pc := 67) d_X5_takeName_67 (by decide) ?_
        refine Tr.callV (pc := 68) (as := [_]) d_X5_takeName_68 s_5_56 ok_X5_refuse rfl rfl (Nat.le_of_ble_eq_true rfl) (Nat.le_of_ble_eq_true rfl) (by decide) (ty_6 hS.1.1) ?_
        refine Tr.imp (Tr.deep (by decide) (sp_X5_refuse_6_w3 hS.1 ((St.kp hS (by decide) (by decide) (by decide)).trans en_6_2) 3 (by omega))) ?_
        rintro M68 _ ⟨h68, r68, rfl, lr68, ur68⟩
        have hS := St.tr hS h68 (by decide) (by decide)
        refine Tr.sc [(0, r68)] rfl ?_
        refine Tr.pop (pc := 71) d_X5_takeName_71 ne01 ?_
        refine Tr.iconst (pc := 72) d_X5_takeName_72 (by decide) ?_
        exact Tr.iret (pc := 73) d_X5_takeName_73 rfl ⟨hS, _, rfl, by omega, by omega⟩
    refine Tr.if_ge (pc := 45) (tgt := 52) d_X5_takeName_45 rfl (fun c45 => ?_) (fun c45 => ?_)
    · refine Tr.aload_n (pc := 52) (i := 0) d_X5_takeName_52 rfl rfl ?_
      refine Tr.getf (pc := 53) d_X5_takeName_53 f_5_22 (by decide) (by decide) (ty_6 hS.1.1) ?_
      refine Tr.tp 7 ((St.kp hS (by decide) (by decide) (by decide)).trans en_6_3) ?_
      refine Tr.iload_n (pc := 56) (i := 1) d_X5_takeName_56 rfl rfl ?_
      refine Tr.iload_n (pc := 57) (i := 2) d_X5_takeName_57 rfl rfl ?_
      refine Tr.callV (pc := 58) (as := [_, _]) d_X5_takeName_58 s_5_94 ok_X3_which rfl rfl (Nat.le_of_ble_eq_true rfl) (Nat.le_of_ble_eq_true rfl) (by decide) (ty_7 hS.1.1) ?_
      refine Tr.imp (Tr.deep (by decide) (sp_X3_which_7_v0 hS.1 hE r40 (by omega))) ?_
      rintro M58 _ ⟨h58, r58, rfl, lr58, ur58, z58_0⟩
      have hS := St.tr hS h58 (by decide) (by decide)
      obtain ⟨w58_8_0, ew58_8_0⟩ : ∃ v, rd M58 8 0 = v := ⟨_, rfl⟩
      have bw58_8_0 : 0 ≤ w58_8_0 ∧ w58_8_0 ≤ 6 := by rw [← ew58_8_0]; exact ir_8_0 hS.1.2.1
      have ka58_8_0 : rd M58 8 0 = w58_8_0 := ew58_8_0
      refine Tr.sc [(0, r58)] rfl ?_
      refine Tr.pick [1] (ls2 := [(0, (2, 6))]) rfl ?_
      exact J61 _ _ hS (by omega) ((St.ka h58 (by decide) (by decide) (by decide)).trans ((St.ka h40 (by decide) (by decide) (by decide)).trans er11)) ((St.ka h58 (by decide) (by decide) (by decide)).trans ((St.ka h40 (by decide) (by decide) (by decide)).trans er39)) ((St.kp h58 (by decide) (by decide) (by decide)).trans ((St.kp h40 (by decide) (by decide) (by decide)).trans er8))
    · refine Tr.iconst (pc := 48) d_X5_takeName_48 (by decide) ?_
      refine Tr.goto (pc := 49) (tgt := 61) d_X5_takeName_49 rfl ?_
      refine Tr.pick [1] (ls2 := [(0, (2, 6))]) rfl ?_
      exact J61 _ _ hS (by omega) ((St.ka h40 (by decide) (by decide) (by decide)).trans er11) ((St.ka h40 (by decide) (by decide) (by decide)).trans er39) ((St.kp h40 (by decide) (by decide) (by decide)).trans er8)
  · refine Tr.aload_n (pc := 16) (i := 0) d_X5_takeName_16 rfl rfl ?_
    refine Tr.iconst (pc := 17) d_X5_takeName_17 (by decide) ?_
    refine Tr.callV (pc := 18) (as := [_]) d_X5_takeName_18 s_5_56 ok_X5_refuse rfl rfl (Nat.le_of_ble_eq_true rfl) (Nat.le_of_ble_eq_true rfl) (by decide) (ty_6 hS.1.1) ?_
    refine Tr.imp (Tr.deep (by decide) (sp_X5_refuse_6_w1 hS.1 ((St.kp hS (by decide) (by decide) (by decide)).trans en_6_2) 1 (by omega))) ?_
    rintro M18 _ ⟨h18, r18, rfl, lr18, ur18⟩
    have hS := St.tr hS h18 (by decide) (by decide)
    refine Tr.sc [(0, r18)] rfl ?_
    refine Tr.pop (pc := 21) d_X5_takeName_21 ne01 ?_
    refine Tr.iconst (pc := 22) d_X5_takeName_22 (by decide) ?_
    exact Tr.iret (pc := 23) d_X5_takeName_23 rfl ⟨hS, _, rfl, by omega, by omega⟩

def ws_X4_emit_15_w7 : List (Int × Int) := [(15, 11)]
def as_X4_emit_15_w7 : List Int := [24, 25]
def q_X4_emit_15_w7 (M0 M' : Mem) (r : Option PV) : Prop := St Tru ws_X4_emit_15_w7 as_X4_emit_15_w7 M0 M' ∧ r = none
set_option maxRecDepth 100000 in
set_option maxHeartbeats 4000000 in
theorem sp_X4_emit_15_w7 {l : Launch} {K : EC} {M0 : Mem} (hI : In Tru M0)  (a1 : Int) (ha1 : 3 ≤ a1 ∧ a1 ≤ 5) (a2 : Int) (ha2 : 0 ≤ a2 ∧ a2 ≤ 5) (hp0 : (a1 = 1 → 0 ≤ a2 ∧ a2 ≤ 2) ∧ (a1 = 2 ∨ a1 = 4 → 0 ≤ a2 ∧ a2 ≤ 5)) : Tr l K 0 mX4_emit 0 [(0, (2, 15)), (1, (0, a1)), (2, (0, a2))] [] M0 (q_X4_emit_15_w7 M0) := by
  have hS : St Tru ws_X4_emit_15_w7 as_X4_emit_15_w7 M0 M0 := St.rf hI
  refine Tr.aload_n (pc := 0) (i := 0) d_X4_emit_0 rfl rfl ?_
  refine Tr.getf (pc := 1) d_X4_emit_1 f_4_49 (by decide) (by decide) (ty_15 hS.1.1) ?_
  refine Tr.gen (P := fun v => 0 ≤ v ∧ v ≤ 900) (ir_15_11 hS.1.2.1) (fun r1 er1 br1 => ?_)
  refine Tr.sipush (pc := 4) d_X4_emit_4 rfl (by decide) ?_
  refine Tr.icmp_ge (pc := 7) (tgt := 40) d_X4_emit_7 rfl (fun c7 => ?_) (fun c7 => ?_)
  · exact Tr.vret (pc := 40) d_X4_emit_40 rfl ⟨hS, rfl⟩
  · refine Tr.aload_n (pc := 10) (i := 0) d_X4_emit_10 rfl rfl ?_
    refine Tr.getf (pc := 11) d_X4_emit_11 f_4_36 (by decide) (by decide) (ty_15 hS.1.1) ?_
    refine Tr.tp 24 (fx_15_9 hS.1.1) ?_
    refine Tr.aload_n (pc := 14) (i := 0) d_X4_emit_14 rfl rfl ?_
    refine Tr.getf (pc := 15) d_X4_emit_15 f_4_49 (by decide) (by decide) (ty_15 hS.1.1) ?_
    refine Tr.tp r1 er1 ?_
    refine Tr.iload_n (pc := 18) (i := 1) d_X4_emit_18 rfl rfl ?_
    refine Tr.iast (pc := 19) d_X4_emit_19 (ty_24 hS.1.1) (by omega) (by omega) ?_
    refine Tr.aload_n (pc := 20) (i := 0) d_X4_emit_20 rfl rfl ?_
    refine Tr.getf (pc := 21) d_X4_emit_21 f_4_39 (by decide) (by decide) (show mT (wr M0 24 r1 a1) 15 = (4, 13) from ty_15 (M := M0) hS.1.1) ?_
    refine Tr.tp 25 ((rd_wb _ rfl).trans (fx_15_10 (M := M0) hS.1.1)) ?_
    refine Tr.aload_n (pc := 24) (i := 0) d_X4_emit_24 rfl rfl ?_
    refine Tr.getf (pc := 25) d_X4_emit_25 f_4_49 (by decide) (by decide) (show mT (wr M0 24 r1 a1) 15 = (4, 13) from ty_15 (M := M0) hS.1.1) ?_
    refine Tr.tp r1 ((rd_wb _ rfl).trans er1) ?_
    refine Tr.iload_n (pc := 28) (i := 2) d_X4_emit_28 rfl rfl ?_
    refine Tr.iastS (pc := 29) (P := St Tru ws_X4_emit_15_w7 as_X4_emit_15_w7 M0) d_X4_emit_29 (show mT (wr M0 24 r1 a1) 25 = (20, 900) from ty_25 (M := M0) hS.1.1) (by omega) (by omega) (St.two (x := 24) (y := 25) 18 19 hS (by decide) hp0 (by decide) (by decide) rfl (by decide +kernel) (by decide +kernel) (by decide +kernel) (by omega) rfl (by decide +kernel) (by decide +kernel) (by decide +kernel) (by omega) trivial) (fun M29 hS w29 => ?_)
    refine Tr.aload_n (pc := 30) (i := 0) d_X4_emit_30 rfl rfl ?_
    refine Tr.dup (pc := 31) d_X4_emit_31 ne21 ?_
    refine Tr.getf (pc := 32) d_X4_emit_32 f_4_49 (by decide) (by decide) (ty_15 hS.1.1) ?_
    refine Tr.tp r1 ((Wr.b w29 rfl).trans ((rd_wb _ rfl).trans er1)) ?_
    refine Tr.iconst (pc := 35) d_X4_emit_35 (by decide) ?_
    refine Tr.iadd (pc := 36) d_X4_emit_36 ?_
    refine Tr.tp (r1 + 1) ((w32_id (by omega)).trans (by omega)) ?_
    refine Tr.putfS (pc := 37) (P := St Tru ws_X4_emit_15_w7 as_X4_emit_15_w7 M0) d_X4_emit_37 f_4_49 (by decide) (by decide) (ty_15 hS.1.1) (st_15_11 hS (by decide) (by omega) trivial) (fun M37 hS w37 => ?_)
    exact Tr.vret (pc := 40) d_X4_emit_40 rfl ⟨hS, rfl⟩

def ws_X4_emit_15_w8 : List (Int × Int) := [(15, 11)]
def as_X4_emit_15_w8 : List Int := [24, 25]
def q_X4_emit_15_w8 (M0 M' : Mem) (r : Option PV) : Prop := St Tru ws_X4_emit_15_w8 as_X4_emit_15_w8 M0 M' ∧ r = none
set_option maxRecDepth 100000 in
set_option maxHeartbeats 4000000 in
theorem sp_X4_emit_15_w8 {l : Launch} {K : EC} {M0 : Mem} (hI : In Tru M0)  (a1 : Int) (ha1 : 0 ≤ a1 ∧ a1 ≤ 15) (a2 : Int) (ha2 : 0 ≤ a2 ∧ a2 ≤ 0) (hp0 : (a1 = 1 → 0 ≤ a2 ∧ a2 ≤ 2) ∧ (a1 = 2 ∨ a1 = 4 → 0 ≤ a2 ∧ a2 ≤ 5)) : Tr l K 0 mX4_emit 0 [(0, (2, 15)), (1, (0, a1)), (2, (0, a2))] [] M0 (q_X4_emit_15_w8 M0) := by
  have hS : St Tru ws_X4_emit_15_w8 as_X4_emit_15_w8 M0 M0 := St.rf hI
  refine Tr.aload_n (pc := 0) (i := 0) d_X4_emit_0 rfl rfl ?_
  refine Tr.getf (pc := 1) d_X4_emit_1 f_4_49 (by decide) (by decide) (ty_15 hS.1.1) ?_
  refine Tr.gen (P := fun v => 0 ≤ v ∧ v ≤ 900) (ir_15_11 hS.1.2.1) (fun r1 er1 br1 => ?_)
  refine Tr.sipush (pc := 4) d_X4_emit_4 rfl (by decide) ?_
  refine Tr.icmp_ge (pc := 7) (tgt := 40) d_X4_emit_7 rfl (fun c7 => ?_) (fun c7 => ?_)
  · exact Tr.vret (pc := 40) d_X4_emit_40 rfl ⟨hS, rfl⟩
  · refine Tr.aload_n (pc := 10) (i := 0) d_X4_emit_10 rfl rfl ?_
    refine Tr.getf (pc := 11) d_X4_emit_11 f_4_36 (by decide) (by decide) (ty_15 hS.1.1) ?_
    refine Tr.tp 24 (fx_15_9 hS.1.1) ?_
    refine Tr.aload_n (pc := 14) (i := 0) d_X4_emit_14 rfl rfl ?_
    refine Tr.getf (pc := 15) d_X4_emit_15 f_4_49 (by decide) (by decide) (ty_15 hS.1.1) ?_
    refine Tr.tp r1 er1 ?_
    refine Tr.iload_n (pc := 18) (i := 1) d_X4_emit_18 rfl rfl ?_
    refine Tr.iast (pc := 19) d_X4_emit_19 (ty_24 hS.1.1) (by omega) (by omega) ?_
    refine Tr.aload_n (pc := 20) (i := 0) d_X4_emit_20 rfl rfl ?_
    refine Tr.getf (pc := 21) d_X4_emit_21 f_4_39 (by decide) (by decide) (show mT (wr M0 24 r1 a1) 15 = (4, 13) from ty_15 (M := M0) hS.1.1) ?_
    refine Tr.tp 25 ((rd_wb _ rfl).trans (fx_15_10 (M := M0) hS.1.1)) ?_
    refine Tr.aload_n (pc := 24) (i := 0) d_X4_emit_24 rfl rfl ?_
    refine Tr.getf (pc := 25) d_X4_emit_25 f_4_49 (by decide) (by decide) (show mT (wr M0 24 r1 a1) 15 = (4, 13) from ty_15 (M := M0) hS.1.1) ?_
    refine Tr.tp r1 ((rd_wb _ rfl).trans er1) ?_
    refine Tr.iload_n (pc := 28) (i := 2) d_X4_emit_28 rfl rfl ?_
    refine Tr.iastS (pc := 29) (P := St Tru ws_X4_emit_15_w8 as_X4_emit_15_w8 M0) d_X4_emit_29 (show mT (wr M0 24 r1 a1) 25 = (20, 900) from ty_25 (M := M0) hS.1.1) (by omega) (by omega) (St.two (x := 24) (y := 25) 18 19 hS (by decide) hp0 (by decide) (by decide) rfl (by decide +kernel) (by decide +kernel) (by decide +kernel) (by omega) rfl (by decide +kernel) (by decide +kernel) (by decide +kernel) (by omega) trivial) (fun M29 hS w29 => ?_)
    refine Tr.aload_n (pc := 30) (i := 0) d_X4_emit_30 rfl rfl ?_
    refine Tr.dup (pc := 31) d_X4_emit_31 ne21 ?_
    refine Tr.getf (pc := 32) d_X4_emit_32 f_4_49 (by decide) (by decide) (ty_15 hS.1.1) ?_
    refine Tr.tp r1 ((Wr.b w29 rfl).trans ((rd_wb _ rfl).trans er1)) ?_
    refine Tr.iconst (pc := 35) d_X4_emit_35 (by decide) ?_
    refine Tr.iadd (pc := 36) d_X4_emit_36 ?_
    refine Tr.tp (r1 + 1) ((w32_id (by omega)).trans (by omega)) ?_
    refine Tr.putfS (pc := 37) (P := St Tru ws_X4_emit_15_w8 as_X4_emit_15_w8 M0) d_X4_emit_37 f_4_49 (by decide) (by decide) (ty_15 hS.1.1) (st_15_11 hS (by decide) (by omega) trivial) (fun M37 hS w37 => ?_)
    exact Tr.vret (pc := 40) d_X4_emit_40 rfl ⟨hS, rfl⟩

def ws_X5_plainFact_6_w17 : List (Int × Int) := [(6, 0), (6, 1), (6, 5), (15, 11)]
def as_X5_plainFact_6_w17 : List Int := [24, 25]
def q_X5_plainFact_6_w17 (M0 M' : Mem) (r : Option PV) : Prop := St Tru ws_X5_plainFact_6_w17 as_X5_plainFact_6_w17 M0 M' ∧ ∃ v : Int, r = some (0, v) ∧ 0 ≤ v ∧ v ≤ 1
set_option maxRecDepth 100000 in
set_option maxHeartbeats 4000000 in
theorem sp_X5_plainFact_6_w17 {l : Launch} {K : EC} {M0 : Mem} {xq : Int} (hI : In Tru M0) (hE : e_all K xq) (en_6_2 : rd M0 6 2 = 2) (en_6_3 : rd M0 6 3 = 7) (en_6_4 : rd M0 6 4 = 15) (en_6_6 : rd M0 6 6 = 8)   : Tr l K 6 mX5_plainFact 0 [(0, (2, 6))] [] M0 (q_X5_plainFact_6_w17 M0) := by
  have hS : St Tru ws_X5_plainFact_6_w17 as_X5_plainFact_6_w17 M0 M0 := St.rf hI
  refine Tr.aload_n (pc := 0) (i := 0) d_X5_plainFact_0 rfl rfl ?_
  refine Tr.bipush (pc := 1) d_X5_plainFact_1 rfl (by decide) ?_
  refine Tr.callV (pc := 3) (as := [_]) d_X5_plainFact_3 s_5_77 ok_X5_isSign rfl rfl (Nat.le_of_ble_eq_true rfl) (Nat.le_of_ble_eq_true rfl) (by decide) (ty_6 hS.1.1) ?_
  refine Tr.imp (Tr.deep (by decide) (sp_X5_isSign_6_w1 hS.1 ((St.kp hS (by decide) (by decide) (by decide)).trans en_6_2) 91 (by omega))) ?_
  rintro M3 _ ⟨h3, r3, rfl, lr3, ur3⟩
  have hS := St.tr hS h3 (by decide) (by decide)
  refine Tr.sc [(0, r3)] rfl ?_
  refine Tr.if_eq (pc := 6) (tgt := 40) d_X5_plainFact_6 rfl (fun c6 => ?_) (fun c6 => ?_)
  · refine Tr.aload_n (pc := 40) (i := 0) d_X5_plainFact_40 rfl rfl ?_
    refine Tr.bipush (pc := 41) d_X5_plainFact_41 rfl (by decide) ?_
    refine Tr.callV (pc := 43) (as := [_]) d_X5_plainFact_43 s_5_71 ok_X5_isOwn rfl rfl (Nat.le_of_ble_eq_true rfl) (Nat.le_of_ble_eq_true rfl) (by decide) (ty_6 hS.1.1) ?_
    refine Tr.imp (Tr.deep (by decide) (sp_X5_isOwn_6_w4 hS.1 ((St.kp hS (by decide) (by decide) (by decide)).trans en_6_2) 22 (by omega))) ?_
    rintro M43 _ ⟨h43, r43, rfl, lr43, ur43⟩
    have hS := St.tr hS h43 (by decide) (by decide)
    refine Tr.sc [(0, r43)] rfl ?_
    refine Tr.if_eq (pc := 46) (tgt := 63) d_X5_plainFact_46 rfl (fun c46 => ?_) (fun c46 => ?_)
    · refine Tr.aload_n (pc := 63) (i := 0) d_X5_plainFact_63 rfl rfl ?_
      refine Tr.bipush (pc := 64) d_X5_plainFact_64 rfl (by decide) ?_
      refine Tr.callV (pc := 66) (as := [_]) d_X5_plainFact_66 s_5_71 ok_X5_isOwn rfl rfl (Nat.le_of_ble_eq_true rfl) (Nat.le_of_ble_eq_true rfl) (by decide) (ty_6 hS.1.1) ?_
      refine Tr.imp (Tr.deep (by decide) (sp_X5_isOwn_6_w4 hS.1 ((St.kp hS (by decide) (by decide) (by decide)).trans en_6_2) 23 (by omega))) ?_
      rintro M66 _ ⟨h66, r66, rfl, lr66, ur66⟩
      have hS := St.tr hS h66 (by decide) (by decide)
      refine Tr.sc [(0, r66)] rfl ?_
      refine Tr.if_eq (pc := 69) (tgt := 106) d_X5_plainFact_69 rfl (fun c69 => ?_) (fun c69 => ?_)
      · refine Tr.aload_n (pc := 106) (i := 0) d_X5_plainFact_106 rfl rfl ?_
        refine Tr.callV (pc := 107) (as := []) d_X5_plainFact_107 s_5_174 ok_X5_sum rfl rfl (Nat.le_of_ble_eq_true rfl) (Nat.le_of_ble_eq_true rfl) (by decide) (ty_6 hS.1.1) ?_
        refine Tr.imp (Tr.deep (by decide) (sp_X5_sum_6_w17 hS.1 hE ((St.kp hS (by decide) (by decide) (by decide)).trans en_6_2) ((St.kp hS (by decide) (by decide) (by decide)).trans en_6_3) ((St.kp hS (by decide) (by decide) (by decide)).trans en_6_4) ((St.kp h66 (by decide) (by decide) (by decide)).trans ((St.kp h43 (by decide) (by decide) (by decide)).trans ((St.kp h3 (by decide) (by decide) (by decide)).trans en_6_6))))) ?_
        rintro M107 _ ⟨h107, r107, rfl, lr107, ur107⟩
        have hS := St.tr hS h107 (by decide) (by decide)
        refine Tr.sc [(0, r107)] rfl ?_
        refine Tr.if_ne (pc := 110) (tgt := 115) d_X5_plainFact_110 rfl (fun c110 => ?_) (fun c110 => ?_)
        · refine Tr.aload_n (pc := 115) (i := 0) d_X5_plainFact_115 rfl rfl ?_
          refine Tr.bipush (pc := 116) d_X5_plainFact_116 rfl (by decide) ?_
          refine Tr.callV (pc := 118) (as := [_]) d_X5_plainFact_118 s_5_77 ok_X5_isSign rfl rfl (Nat.le_of_ble_eq_true rfl) (Nat.le_of_ble_eq_true rfl) (by decide) (ty_6 hS.1.1) ?_
          refine Tr.imp (Tr.deep (by decide) (sp_X5_isSign_6_w3 hS.1 ((St.kp hS (by decide) (by decide) (by decide)).trans en_6_2) 60 (by omega))) ?_
          rintro M118 _ ⟨h118, r118, rfl, lr118, ur118⟩
          have hS := St.tr hS h118 (by decide) (by decide)
          refine Tr.sc [(0, r118)] rfl ?_
          have J158 : ∀ (M : Mem) (q158_0 : Int), St Tru ws_X5_plainFact_6_w17 as_X5_plainFact_6_w17 M0 M → ((-1) ≤ q158_0 ∧ q158_0 ≤ 15) → rd M 6 6 = 8 → Tr l K 6 mX5_plainFact 158 [(0, (2, 6))] [(0, q158_0)] M (q_X5_plainFact_6_w17 M0) := by
            intro M q158_0 hS bq158_0 k158_6_6
            refine Tr.istore_n (pc := 158) (i := 1) (ls2 := [(1, (0, q158_0)), (0, (2, 6))]) d_X5_plainFact_158 rfl (by decide) rfl ?_
            refine Tr.iload_n (pc := 159) (i := 1) d_X5_plainFact_159 rfl rfl ?_
            refine Tr.if_ge (pc := 160) (tgt := 169) d_X5_plainFact_160 rfl (fun c160 => ?_) (fun c160 => ?_)
            · refine Tr.aload_n (pc := 169) (i := 0) d_X5_plainFact_169 rfl rfl ?_
              refine Tr.callV (pc := 170) (as := []) d_X5_plainFact_170 s_5_74 ok_X5_goOn rfl rfl (Nat.le_of_ble_eq_true rfl) (Nat.le_of_ble_eq_true rfl) (by decide) (ty_6 hS.1.1) ?_
              refine Tr.imp (Tr.deep (by decide) (sp_X5_goOn_6 hS.1 )) ?_
              rintro M170 _ ⟨h170, r170, rfl, lr170, ur170⟩
              have hS := St.tr hS h170 (by decide) (by decide)
              refine Tr.sc [(0, r170)] rfl ?_
              refine Tr.pop (pc := 173) d_X5_plainFact_173 ne01 ?_
              refine Tr.aload_n (pc := 174) (i := 0) d_X5_plainFact_174 rfl rfl ?_
              refine Tr.callV (pc := 175) (as := []) d_X5_plainFact_175 s_5_174 ok_X5_sum rfl rfl (Nat.le_of_ble_eq_true rfl) (Nat.le_of_ble_eq_true rfl) (by decide) (ty_6 hS.1.1) ?_
              refine Tr.imp (Tr.deep (by decide) (sp_X5_sum_6_w17 hS.1 hE ((St.kp hS (by decide) (by decide) (by decide)).trans en_6_2) ((St.kp hS (by decide) (by decide) (by decide)).trans en_6_3) ((St.kp hS (by decide) (by decide) (by decide)).trans en_6_4) ((St.kp h170 (by decide) (by decide) (by decide)).trans k158_6_6))) ?_
              rintro M175 _ ⟨h175, r175, rfl, lr175, ur175⟩
              have hS := St.tr hS h175 (by decide) (by decide)
              refine Tr.sc [(0, r175)] rfl ?_
              refine Tr.istore_n (pc := 178) (i := 2) (ls2 := [(2, (0, r175)), (1, (0, q158_0)), (0, (2, 6))]) d_X5_plainFact_178 rfl (by decide) rfl ?_
              refine Tr.aload_n (pc := 179) (i := 0) d_X5_plainFact_179 rfl rfl ?_
              refine Tr.getf (pc := 180) d_X5_plainFact_180 f_5_32 (by decide) (by decide) (ty_6 hS.1.1) ?_
              refine Tr.tp 15 ((St.kp hS (by decide) (by decide) (by decide)).trans en_6_4) ?_
              refine Tr.iload_n (pc := 183) (i := 1) d_X5_plainFact_183 rfl rfl ?_
              refine Tr.iconst (pc := 184) d_X5_plainFact_184 (by decide) ?_
              refine Tr.callV (pc := 185) (as := [_, _]) d_X5_plainFact_185 s_5_215 ok_X4_emit rfl rfl (Nat.le_of_ble_eq_true rfl) (Nat.le_of_ble_eq_true rfl) (by decide) (ty_15 hS.1.1) ?_
              refine Tr.imp (Tr.deep (by decide) (sp_X4_emit_15_w8 hS.1.wk q158_0 (by omega) 0 (by omega) (by omega))) ?_
              rintro M185 _ ⟨h185, rfl⟩
              have hS := St.tr hS h185 (by decide) (by decide)
              refine Tr.sc [] rfl ?_
              refine Tr.iload_n (pc := 188) (i := 2) d_X5_plainFact_188 rfl rfl ?_
              exact Tr.zret (pc := 189) d_X5_plainFact_189 rfl (by omega) ⟨hS, _, rfl, by omega, by omega⟩
            · refine Tr.aload_n (pc := 163) (i := 0) d_X5_plainFact_163 rfl rfl ?_
              refine Tr.iconst (pc := 164) d_X5_plainFact_164 (by decide) ?_
              refine Tr.callV (pc := 165) (as := [_]) d_X5_plainFact_165 s_5_56 ok_X5_refuse rfl rfl (Nat.le_of_ble_eq_true rfl) (Nat.le_of_ble_eq_true rfl) (by decide) (ty_6 hS.1.1) ?_
              refine Tr.imp (Tr.deep (by decide) (sp_X5_refuse_6_w1 hS.1 ((St.kp hS (by decide) (by decide) (by decide)).trans en_6_2) 1 (by omega))) ?_
              rintro M165 _ ⟨h165, r165, rfl, lr165, ur165⟩
              have hS := St.tr hS h165 (by decide) (by decide)
              refine Tr.sc [(0, r165)] rfl ?_
              exact Tr.zret (pc := 168) d_X5_plainFact_168 rfl (by omega) ⟨hS, _, rfl, by omega, by omega⟩
          refine Tr.if_eq (pc := 121) (tgt := 129) d_X5_plainFact_121 rfl (fun c121 => ?_) (fun c121 => ?_)
          · refine Tr.aload_n (pc := 129) (i := 0) d_X5_plainFact_129 rfl rfl ?_
            refine Tr.bipush (pc := 130) d_X5_plainFact_130 rfl (by decide) ?_
            refine Tr.callV (pc := 132) (as := [_]) d_X5_plainFact_132 s_5_77 ok_X5_isSign rfl rfl (Nat.le_of_ble_eq_true rfl) (Nat.le_of_ble_eq_true rfl) (by decide) (ty_6 hS.1.1) ?_
            refine Tr.imp (Tr.deep (by decide) (sp_X5_isSign_6_w4 hS.1 ((St.kp hS (by decide) (by decide) (by decide)).trans en_6_2) 62 (by omega))) ?_
            rintro M132 _ ⟨h132, r132, rfl, lr132, ur132⟩
            have hS := St.tr hS h132 (by decide) (by decide)
            refine Tr.sc [(0, r132)] rfl ?_
            refine Tr.if_eq (pc := 135) (tgt := 143) d_X5_plainFact_135 rfl (fun c135 => ?_) (fun c135 => ?_)
            · refine Tr.aload_n (pc := 143) (i := 0) d_X5_plainFact_143 rfl rfl ?_
              refine Tr.bipush (pc := 144) d_X5_plainFact_144 rfl (by decide) ?_
              refine Tr.callV (pc := 146) (as := [_]) d_X5_plainFact_146 s_5_77 ok_X5_isSign rfl rfl (Nat.le_of_ble_eq_true rfl) (Nat.le_of_ble_eq_true rfl) (by decide) (ty_6 hS.1.1) ?_
              refine Tr.imp (Tr.deep (by decide) (sp_X5_isSign_6_w4 hS.1 ((St.kp hS (by decide) (by decide) (by decide)).trans en_6_2) 61 (by omega))) ?_
              rintro M146 _ ⟨h146, r146, rfl, lr146, ur146⟩
              have hS := St.tr hS h146 (by decide) (by decide)
              refine Tr.sc [(0, r146)] rfl ?_
              refine Tr.if_eq (pc := 149) (tgt := 157) d_X5_plainFact_149 rfl (fun c149 => ?_) (fun c149 => ?_)
              · refine Tr.iconst (pc := 157) d_X5_plainFact_157 (by decide) ?_
                refine Tr.pick [0] (ls2 := [(0, (2, 6))]) rfl ?_
                exact J158 _ _ hS (by omega) ((St.kp h146 (by decide) (by decide) (by decide)).trans ((St.kp h132 (by decide) (by decide) (by decide)).trans ((St.kp h118 (by decide) (by decide) (by decide)).trans ((St.kp h107 (by decide) (by decide) (by decide)).trans ((St.kp h66 (by decide) (by decide) (by decide)).trans ((St.kp h43 (by decide) (by decide) (by decide)).trans ((St.kp h3 (by decide) (by decide) (by decide)).trans en_6_6)))))))
              · refine Tr.bipush (pc := 152) d_X5_plainFact_152 rfl (by decide) ?_
                refine Tr.goto (pc := 154) (tgt := 158) d_X5_plainFact_154 rfl ?_
                refine Tr.pick [0] (ls2 := [(0, (2, 6))]) rfl ?_
                exact J158 _ _ hS (by omega) ((St.kp h146 (by decide) (by decide) (by decide)).trans ((St.kp h132 (by decide) (by decide) (by decide)).trans ((St.kp h118 (by decide) (by decide) (by decide)).trans ((St.kp h107 (by decide) (by decide) (by decide)).trans ((St.kp h66 (by decide) (by decide) (by decide)).trans ((St.kp h43 (by decide) (by decide) (by decide)).trans ((St.kp h3 (by decide) (by decide) (by decide)).trans en_6_6)))))))
            · refine Tr.bipush (pc := 138) d_X5_plainFact_138 rfl (by decide) ?_
              refine Tr.goto (pc := 140) (tgt := 158) d_X5_plainFact_140 rfl ?_
              refine Tr.pick [0] (ls2 := [(0, (2, 6))]) rfl ?_
              exact J158 _ _ hS (by omega) ((St.kp h132 (by decide) (by decide) (by decide)).trans ((St.kp h118 (by decide) (by decide) (by decide)).trans ((St.kp h107 (by decide) (by decide) (by decide)).trans ((St.kp h66 (by decide) (by decide) (by decide)).trans ((St.kp h43 (by decide) (by decide) (by decide)).trans ((St.kp h3 (by decide) (by decide) (by decide)).trans en_6_6))))))
          · refine Tr.bipush (pc := 124) d_X5_plainFact_124 rfl (by decide) ?_
            refine Tr.goto (pc := 126) (tgt := 158) d_X5_plainFact_126 rfl ?_
            refine Tr.pick [0] (ls2 := [(0, (2, 6))]) rfl ?_
            exact J158 _ _ hS (by omega) ((St.kp h118 (by decide) (by decide) (by decide)).trans ((St.kp h107 (by decide) (by decide) (by decide)).trans ((St.kp h66 (by decide) (by decide) (by decide)).trans ((St.kp h43 (by decide) (by decide) (by decide)).trans ((St.kp h3 (by decide) (by decide) (by decide)).trans en_6_6)))))
        · refine Tr.iconst (pc := 113) d_X5_plainFact_113 (by decide) ?_
          exact Tr.zret (pc := 114) d_X5_plainFact_114 rfl (by omega) ⟨hS, _, rfl, by omega, by omega⟩
      · refine Tr.aload_n (pc := 72) (i := 0) d_X5_plainFact_72 rfl rfl ?_
        refine Tr.callV (pc := 73) (as := []) d_X5_plainFact_73 s_5_74 ok_X5_goOn rfl rfl (Nat.le_of_ble_eq_true rfl) (Nat.le_of_ble_eq_true rfl) (by decide) (ty_6 hS.1.1) ?_
        refine Tr.imp (Tr.deep (by decide) (sp_X5_goOn_6 hS.1 )) ?_
        rintro M73 _ ⟨h73, r73, rfl, lr73, ur73⟩
        have hS := St.tr hS h73 (by decide) (by decide)
        refine Tr.sc [(0, r73)] rfl ?_
        refine Tr.pop (pc := 76) d_X5_plainFact_76 ne01 ?_
        refine Tr.aload_n (pc := 77) (i := 0) d_X5_plainFact_77 rfl rfl ?_
        refine Tr.iconst (pc := 78) d_X5_plainFact_78 (by decide) ?_
        refine Tr.callV (pc := 79) (as := [_]) d_X5_plainFact_79 s_5_186 ok_X5_takeName rfl rfl (Nat.le_of_ble_eq_true rfl) (Nat.le_of_ble_eq_true rfl) (by decide) (ty_6 hS.1.1) ?_
        refine Tr.imp (Tr.deep (by decide) (sp_X5_takeName_6_v0_w1 hS.1 hE ((St.kp hS (by decide) (by decide) (by decide)).trans en_6_2) ((St.kp hS (by decide) (by decide) (by decide)).trans en_6_3))) ?_
        rintro M79 _ ⟨h79, r79, rfl, lr79, ur79⟩
        have hS := St.tr hS h79 (by decide) (by decide)
        refine Tr.sc [(0, r79)] rfl ?_
        refine Tr.istore_n (pc := 82) (i := 1) (ls2 := [(1, (0, r79)), (0, (2, 6))]) d_X5_plainFact_82 rfl (by decide) rfl ?_
        refine Tr.aload_n (pc := 83) (i := 0) d_X5_plainFact_83 rfl rfl ?_
        refine Tr.getf (pc := 84) d_X5_plainFact_84 f_5_32 (by decide) (by decide) (ty_6 hS.1.1) ?_
        refine Tr.tp 15 ((St.kp hS (by decide) (by decide) (by decide)).trans en_6_4) ?_
        refine Tr.iconst (pc := 87) d_X5_plainFact_87 (by decide) ?_
        refine Tr.iload_n (pc := 88) (i := 1) d_X5_plainFact_88 rfl rfl ?_
        refine Tr.iconst (pc := 89) d_X5_plainFact_89 (by decide) ?_
        refine Tr.mmax (pc := 90) d_X5_plainFact_90 ml_5_192 mw_mmax (Nat.le_of_ble_eq_true rfl) ?_
        refine Tr.gen (P := fun v => (v = r79 ∧ 0 ≤ r79) ∨ (v = 0 ∧ r79 ≤ 0)) (f_max_p _ _) (fun r90 er90 br90 => ?_)
        refine Tr.callV (pc := 93) (as := [_, _]) d_X5_plainFact_93 s_5_215 ok_X4_emit rfl rfl (Nat.le_of_ble_eq_true rfl) (Nat.le_of_ble_eq_true rfl) (by decide) (ty_15 hS.1.1) ?_
        refine Tr.imp (Tr.deep (by decide) (sp_X4_emit_15_w7 hS.1.wk 4 (by omega) r90 (by omega) (by omega))) ?_
        rintro M93 _ ⟨h93, rfl⟩
        have hS := St.tr hS h93 (by decide) (by decide)
        refine Tr.sc [] rfl ?_
        refine Tr.iload_n (pc := 96) (i := 1) d_X5_plainFact_96 rfl rfl ?_
        refine Tr.if_lt (pc := 97) (tgt := 104) d_X5_plainFact_97 rfl (fun c97 => ?_) (fun c97 => ?_)
        · refine Tr.iconst (pc := 104) d_X5_plainFact_104 (by decide) ?_
          exact Tr.zret (pc := 105) d_X5_plainFact_105 rfl (by omega) ⟨hS, _, rfl, by omega, by omega⟩
        · refine Tr.iconst (pc := 100) d_X5_plainFact_100 (by decide) ?_
          refine Tr.goto (pc := 101) (tgt := 105) d_X5_plainFact_101 rfl ?_
          exact Tr.zret (pc := 105) d_X5_plainFact_105 rfl (by omega) ⟨hS, _, rfl, by omega, by omega⟩
    · refine Tr.aload_n (pc := 49) (i := 0) d_X5_plainFact_49 rfl rfl ?_
      refine Tr.getf (pc := 50) d_X5_plainFact_50 f_5_32 (by decide) (by decide) (ty_6 hS.1.1) ?_
      refine Tr.tp 15 ((St.kp hS (by decide) (by decide) (by decide)).trans en_6_4) ?_
      refine Tr.iconst (pc := 53) d_X5_plainFact_53 (by decide) ?_
      refine Tr.iconst (pc := 54) d_X5_plainFact_54 (by decide) ?_
      refine Tr.callV (pc := 55) (as := [_, _]) d_X5_plainFact_55 s_5_215 ok_X4_emit rfl rfl (Nat.le_of_ble_eq_true rfl) (Nat.le_of_ble_eq_true rfl) (by decide) (ty_15 hS.1.1) ?_
      refine Tr.imp (Tr.deep (by decide) (sp_X4_emit_15_w3 hS.1.wk 0 (by omega) 1 (by omega) (by omega))) ?_
      rintro M55 _ ⟨h55, rfl⟩
      have hS := St.tr hS h55 (by decide) (by decide)
      refine Tr.sc [] rfl ?_
      refine Tr.aload_n (pc := 58) (i := 0) d_X5_plainFact_58 rfl rfl ?_
      refine Tr.callV (pc := 59) (as := []) d_X5_plainFact_59 s_5_74 ok_X5_goOn rfl rfl (Nat.le_of_ble_eq_true rfl) (Nat.le_of_ble_eq_true rfl) (by decide) (ty_6 hS.1.1) ?_
      refine Tr.imp (Tr.deep (by decide) (sp_X5_goOn_6 hS.1 )) ?_
      rintro M59 _ ⟨h59, r59, rfl, lr59, ur59⟩
      have hS := St.tr hS h59 (by decide) (by decide)
      refine Tr.sc [(0, r59)] rfl ?_
      exact Tr.zret (pc := 62) d_X5_plainFact_62 rfl (by omega) ⟨hS, _, rfl, by omega, by omega⟩
  · refine Tr.aload_n (pc := 9) (i := 0) d_X5_plainFact_9 rfl rfl ?_
    refine Tr.bipush (pc := 10) d_X5_plainFact_10 rfl (by decide) ?_
    refine Tr.callV (pc := 12) (as := [_]) d_X5_plainFact_12 s_5_206 ok_X5_takeOpening rfl rfl (Nat.le_of_ble_eq_true rfl) (Nat.le_of_ble_eq_true rfl) (by decide) (ty_6 hS.1.1) ?_
    refine Tr.imp (Tr.deep (by decide) (sp_X5_takeOpening_6_w17 hS.1 ((St.kp hS (by decide) (by decide) (by decide)).trans en_6_2) ((St.kp h3 (by decide) (by decide) (by decide)).trans en_6_6) 91 (by omega))) ?_
    rintro M12 _ ⟨h12, r12, rfl, lr12, ur12⟩
    have hS := St.tr hS h12 (by decide) (by decide)
    refine Tr.sc [(0, r12)] rfl ?_
    refine Tr.if_eq (pc := 15) (tgt := 38) d_X5_plainFact_15 rfl (fun _ => ?_) (fun hc => absurd (by omega) hc)
    refine Tr.iconst (pc := 38) d_X5_plainFact_38 (by decide) ?_
    exact Tr.zret (pc := 39) d_X5_plainFact_39 rfl (by omega) ⟨hS, _, rfl, by omega, by omega⟩

def ws_X5_fact_6_w17 : List (Int × Int) := [(6, 0), (6, 1), (6, 5), (15, 11)]
def as_X5_fact_6_w17 : List Int := [24, 25]
def q_X5_fact_6_w17 (M0 M' : Mem) (r : Option PV) : Prop := St Tru ws_X5_fact_6_w17 as_X5_fact_6_w17 M0 M' ∧ ∃ v : Int, r = some (0, v) ∧ 0 ≤ v ∧ v ≤ 1
set_option maxRecDepth 100000 in
set_option maxHeartbeats 4000000 in
theorem sp_X5_fact_6_w17 {l : Launch} {K : EC} {M0 : Mem} {xq : Int} (hI : In Tru M0) (hE : e_all K xq) (en_6_2 : rd M0 6 2 = 2) (en_6_3 : rd M0 6 3 = 7) (en_6_4 : rd M0 6 4 = 15) (en_6_6 : rd M0 6 6 = 8)   : Tr l K 7 mX5_fact 0 [(0, (2, 6))] [] M0 (q_X5_fact_6_w17 M0) := by
  have hS : St Tru ws_X5_fact_6_w17 as_X5_fact_6_w17 M0 M0 := St.rf hI
  refine Tr.iconst (pc := 0) d_X5_fact_0 (by decide) ?_
  refine Tr.istore_n (pc := 1) (i := 1) (ls2 := [(1, (0, 0)), (0, (2, 6))]) d_X5_fact_1 rfl (by decide) rfl ?_
  refine Tr.iconst (pc := 2) d_X5_fact_2 (by decide) ?_
  refine Tr.istore_n (pc := 3) (i := 2) (ls2 := [(2, (0, 0)), (1, (0, 0)), (0, (2, 6))]) d_X5_fact_3 rfl (by decide) rfl ?_
  have J4 : ∀ (n4 : Nat) (M : Mem) (p4_1 p4_2 : Int), St Tru ws_X5_fact_6_w17 as_X5_fact_6_w17 M0 M → (0 ≤ p4_1 ∧ p4_1 ≤ 1) → (0 ≤ p4_2 ∧ p4_2 ≤ 900) → rd M 6 6 = 8 → (900 - p4_2).toNat < n4 → Tr l K 7 mX5_fact 4 [(0, (2, 6)), (1, (0, p4_1)), (2, (0, p4_2))] [] M (q_X5_fact_6_w17 M0) := by
    intro n4
    induction n4 with
    | zero => intro M p4_1 p4_2 hS bp4_1 bp4_2 k4_6_6 hm4; exact absurd hm4 (Nat.not_lt_zero _)
    | succ n4 J4 =>
      intro M p4_1 p4_2 hS bp4_1 bp4_2 k4_6_6 hm4
      refine Tr.iload_n (pc := 4) (i := 2) d_X5_fact_4 rfl rfl ?_
      refine Tr.sipush (pc := 5) d_X5_fact_5 rfl (by decide) ?_
      have J41 : ∀ (M : Mem), St Tru ws_X5_fact_6_w17 as_X5_fact_6_w17 M0 M → rd M 6 6 = 8 → Tr l K 7 mX5_fact 41 [(0, (2, 6)), (1, (0, p4_1))] [] M (q_X5_fact_6_w17 M0) := by
        intro M  hS  k41_6_6
        refine Tr.aload_n (pc := 41) (i := 0) d_X5_fact_41 rfl rfl ?_
        refine Tr.callV (pc := 42) (as := []) d_X5_fact_42 s_5_221 ok_X5_plainFact rfl rfl (Nat.le_of_ble_eq_true rfl) (Nat.le_of_ble_eq_true rfl) (by decide) (ty_6 hS.1.1) ?_
        refine Tr.imp (Tr.deep (by decide) (sp_X5_plainFact_6_w17 hS.1 hE ((St.kp hS (by decide) (by decide) (by decide)).trans en_6_2) ((St.kp hS (by decide) (by decide) (by decide)).trans en_6_3) ((St.kp hS (by decide) (by decide) (by decide)).trans en_6_4) k41_6_6)) ?_
        rintro M42 _ ⟨h42, r42, rfl, lr42, ur42⟩
        have hS := St.tr hS h42 (by decide) (by decide)
        refine Tr.sc [(0, r42)] rfl ?_
        refine Tr.istore_n (pc := 45) (i := 2) (ls2 := [(2, (0, r42)), (0, (2, 6)), (1, (0, p4_1))]) d_X5_fact_45 rfl (by decide) rfl ?_
        refine Tr.iload_n (pc := 46) (i := 1) d_X5_fact_46 rfl rfl ?_
        refine Tr.if_eq (pc := 47) (tgt := 59) d_X5_fact_47 rfl (fun c47 => ?_) (fun c47 => ?_)
        · refine Tr.iload_n (pc := 59) (i := 2) d_X5_fact_59 rfl rfl ?_
          exact Tr.zret (pc := 60) d_X5_fact_60 rfl (by omega) ⟨hS, _, rfl, by omega, by omega⟩
        · refine Tr.aload_n (pc := 50) (i := 0) d_X5_fact_50 rfl rfl ?_
          refine Tr.getf (pc := 51) d_X5_fact_51 f_5_32 (by decide) (by decide) (ty_6 hS.1.1) ?_
          refine Tr.tp 15 ((St.kp hS (by decide) (by decide) (by decide)).trans en_6_4) ?_
          refine Tr.iconst (pc := 54) d_X5_fact_54 (by decide) ?_
          refine Tr.iconst (pc := 55) d_X5_fact_55 (by decide) ?_
          refine Tr.callV (pc := 56) (as := [_, _]) d_X5_fact_56 s_5_215 ok_X4_emit rfl rfl (Nat.le_of_ble_eq_true rfl) (Nat.le_of_ble_eq_true rfl) (by decide) (ty_15 hS.1.1) ?_
          refine Tr.imp (Tr.deep (by decide) (sp_X4_emit_15_w7 hS.1.wk 5 (by omega) 0 (by omega) (by omega))) ?_
          rintro M56 _ ⟨h56, rfl⟩
          have hS := St.tr hS h56 (by decide) (by decide)
          refine Tr.sc [] rfl ?_
          refine Tr.iload_n (pc := 59) (i := 2) d_X5_fact_59 rfl rfl ?_
          exact Tr.zret (pc := 60) d_X5_fact_60 rfl (by omega) ⟨hS, _, rfl, by omega, by omega⟩
      refine Tr.icmp_ge (pc := 8) (tgt := 41) d_X5_fact_8 rfl (fun c8 => ?_) (fun c8 => ?_)
      · refine Tr.pick [0, 1] (ls2 := [(0, (2, 6)), (1, (0, p4_1))]) rfl ?_
        exact J41 _ hS k4_6_6
      · refine Tr.aload_n (pc := 11) (i := 0) d_X5_fact_11 rfl rfl ?_
        refine Tr.bipush (pc := 12) d_X5_fact_12 rfl (by decide) ?_
        refine Tr.callV (pc := 14) (as := [_]) d_X5_fact_14 s_5_71 ok_X5_isOwn rfl rfl (Nat.le_of_ble_eq_true rfl) (Nat.le_of_ble_eq_true rfl) (by decide) (ty_6 hS.1.1) ?_
        refine Tr.imp (Tr.deep (by decide) (sp_X5_isOwn_6_w4 hS.1 ((St.kp hS (by decide) (by decide) (by decide)).trans en_6_2) 21 (by omega))) ?_
        rintro M14 _ ⟨h14, r14, rfl, lr14, ur14⟩
        have hS := St.tr hS h14 (by decide) (by decide)
        refine Tr.sc [(0, r14)] rfl ?_
        refine Tr.if_eq (pc := 17) (tgt := 41) d_X5_fact_17 rfl (fun c17 => ?_) (fun c17 => ?_)
        · refine Tr.pick [0, 1] (ls2 := [(0, (2, 6)), (1, (0, p4_1))]) rfl ?_
          exact J41 _ hS ((St.kp h14 (by decide) (by decide) (by decide)).trans k4_6_6)
        · refine Tr.aload_n (pc := 20) (i := 0) d_X5_fact_20 rfl rfl ?_
          refine Tr.callV (pc := 21) (as := []) d_X5_fact_21 s_5_74 ok_X5_goOn rfl rfl (Nat.le_of_ble_eq_true rfl) (Nat.le_of_ble_eq_true rfl) (by decide) (ty_6 hS.1.1) ?_
          refine Tr.imp (Tr.deep (by decide) (sp_X5_goOn_6 hS.1 )) ?_
          rintro M21 _ ⟨h21, r21, rfl, lr21, ur21⟩
          have hS := St.tr hS h21 (by decide) (by decide)
          refine Tr.sc [(0, r21)] rfl ?_
          refine Tr.pop (pc := 24) d_X5_fact_24 ne01 ?_
          refine Tr.iload_n (pc := 25) (i := 1) d_X5_fact_25 rfl rfl ?_
          have J34 : ∀ (M : Mem) (q34_0 : Int), St Tru ws_X5_fact_6_w17 as_X5_fact_6_w17 M0 M → (0 ≤ q34_0 ∧ q34_0 ≤ 1) → rd M 6 6 = 8 → Tr l K 7 mX5_fact 34 [(0, (2, 6)), (2, (0, p4_2))] [(0, q34_0)] M (q_X5_fact_6_w17 M0) := by
            intro M q34_0 hS bq34_0 k34_6_6
            refine Tr.istore_n (pc := 34) (i := 1) (ls2 := [(1, (0, q34_0)), (0, (2, 6)), (2, (0, p4_2))]) d_X5_fact_34 rfl (by decide) rfl ?_
            refine Tr.iincV (pc := 35) (n2 := (p4_2 + 1)) (ls2 := [(2, (0, (p4_2 + 1))), (1, (0, q34_0)), (0, (2, 6))]) d_X5_fact_35 rfl (by decide) ((w32_id (by omega)).trans (by omega)) rfl ?_
            refine Tr.goto (pc := 38) (tgt := 4) d_X5_fact_38 rfl ?_
            refine Tr.pick [2, 1, 0] (ls2 := [(0, (2, 6)), (1, (0, q34_0)), (2, (0, (p4_2 + 1)))]) rfl ?_
            exact J4 _ _ _ hS (by omega) (by omega) k34_6_6 (by omega)
          refine Tr.if_ne (pc := 26) (tgt := 33) d_X5_fact_26 rfl (fun c26 => ?_) (fun c26 => ?_)
          · refine Tr.iconst (pc := 33) d_X5_fact_33 (by decide) ?_
            refine Tr.pick [0, 2] (ls2 := [(0, (2, 6)), (2, (0, p4_2))]) rfl ?_
            exact J34 _ _ hS (by omega) ((St.kp h21 (by decide) (by decide) (by decide)).trans ((St.kp h14 (by decide) (by decide) (by decide)).trans k4_6_6))
          · refine Tr.iconst (pc := 29) d_X5_fact_29 (by decide) ?_
            refine Tr.goto (pc := 30) (tgt := 34) d_X5_fact_30 rfl ?_
            refine Tr.pick [0, 2] (ls2 := [(0, (2, 6)), (2, (0, p4_2))]) rfl ?_
            exact J34 _ _ hS (by omega) ((St.kp h21 (by decide) (by decide) (by decide)).trans ((St.kp h14 (by decide) (by decide) (by decide)).trans k4_6_6))
  refine Tr.pick [2, 1, 0] (ls2 := [(0, (2, 6)), (1, (0, 0)), (2, (0, 0))]) rfl ?_
  exact J4 _ _ _ _ hS (by omega) (by omega) en_6_6 (Nat.lt_succ_self _)

def ws_X4_emit_15_w9 : List (Int × Int) := [(15, 11)]
def as_X4_emit_15_w9 : List Int := [24, 25]
def q_X4_emit_15_w9 (M0 M' : Mem) (r : Option PV) : Prop := St Tru ws_X4_emit_15_w9 as_X4_emit_15_w9 M0 M' ∧ r = none
set_option maxRecDepth 100000 in
set_option maxHeartbeats 4000000 in
theorem sp_X4_emit_15_w9 {l : Launch} {K : EC} {M0 : Mem} (hI : In Tru M0)  (a1 : Int) (ha1 : 16 ≤ a1 ∧ a1 ≤ 16) (a2 : Int) (ha2 : 0 ≤ a2 ∧ a2 ≤ 0) (hp0 : (a1 = 1 → 0 ≤ a2 ∧ a2 ≤ 2) ∧ (a1 = 2 ∨ a1 = 4 → 0 ≤ a2 ∧ a2 ≤ 5)) : Tr l K 0 mX4_emit 0 [(0, (2, 15)), (1, (0, a1)), (2, (0, a2))] [] M0 (q_X4_emit_15_w9 M0) := by
  have hS : St Tru ws_X4_emit_15_w9 as_X4_emit_15_w9 M0 M0 := St.rf hI
  refine Tr.aload_n (pc := 0) (i := 0) d_X4_emit_0 rfl rfl ?_
  refine Tr.getf (pc := 1) d_X4_emit_1 f_4_49 (by decide) (by decide) (ty_15 hS.1.1) ?_
  refine Tr.gen (P := fun v => 0 ≤ v ∧ v ≤ 900) (ir_15_11 hS.1.2.1) (fun r1 er1 br1 => ?_)
  refine Tr.sipush (pc := 4) d_X4_emit_4 rfl (by decide) ?_
  refine Tr.icmp_ge (pc := 7) (tgt := 40) d_X4_emit_7 rfl (fun c7 => ?_) (fun c7 => ?_)
  · exact Tr.vret (pc := 40) d_X4_emit_40 rfl ⟨hS, rfl⟩
  · refine Tr.aload_n (pc := 10) (i := 0) d_X4_emit_10 rfl rfl ?_
    refine Tr.getf (pc := 11) d_X4_emit_11 f_4_36 (by decide) (by decide) (ty_15 hS.1.1) ?_
    refine Tr.tp 24 (fx_15_9 hS.1.1) ?_
    refine Tr.aload_n (pc := 14) (i := 0) d_X4_emit_14 rfl rfl ?_
    refine Tr.getf (pc := 15) d_X4_emit_15 f_4_49 (by decide) (by decide) (ty_15 hS.1.1) ?_
    refine Tr.tp r1 er1 ?_
    refine Tr.iload_n (pc := 18) (i := 1) d_X4_emit_18 rfl rfl ?_
    refine Tr.iast (pc := 19) d_X4_emit_19 (ty_24 hS.1.1) (by omega) (by omega) ?_
    refine Tr.aload_n (pc := 20) (i := 0) d_X4_emit_20 rfl rfl ?_
    refine Tr.getf (pc := 21) d_X4_emit_21 f_4_39 (by decide) (by decide) (show mT (wr M0 24 r1 a1) 15 = (4, 13) from ty_15 (M := M0) hS.1.1) ?_
    refine Tr.tp 25 ((rd_wb _ rfl).trans (fx_15_10 (M := M0) hS.1.1)) ?_
    refine Tr.aload_n (pc := 24) (i := 0) d_X4_emit_24 rfl rfl ?_
    refine Tr.getf (pc := 25) d_X4_emit_25 f_4_49 (by decide) (by decide) (show mT (wr M0 24 r1 a1) 15 = (4, 13) from ty_15 (M := M0) hS.1.1) ?_
    refine Tr.tp r1 ((rd_wb _ rfl).trans er1) ?_
    refine Tr.iload_n (pc := 28) (i := 2) d_X4_emit_28 rfl rfl ?_
    refine Tr.iastS (pc := 29) (P := St Tru ws_X4_emit_15_w9 as_X4_emit_15_w9 M0) d_X4_emit_29 (show mT (wr M0 24 r1 a1) 25 = (20, 900) from ty_25 (M := M0) hS.1.1) (by omega) (by omega) (St.two (x := 24) (y := 25) 18 19 hS (by decide) hp0 (by decide) (by decide) rfl (by decide +kernel) (by decide +kernel) (by decide +kernel) (by omega) rfl (by decide +kernel) (by decide +kernel) (by decide +kernel) (by omega) trivial) (fun M29 hS w29 => ?_)
    refine Tr.aload_n (pc := 30) (i := 0) d_X4_emit_30 rfl rfl ?_
    refine Tr.dup (pc := 31) d_X4_emit_31 ne21 ?_
    refine Tr.getf (pc := 32) d_X4_emit_32 f_4_49 (by decide) (by decide) (ty_15 hS.1.1) ?_
    refine Tr.tp r1 ((Wr.b w29 rfl).trans ((rd_wb _ rfl).trans er1)) ?_
    refine Tr.iconst (pc := 35) d_X4_emit_35 (by decide) ?_
    refine Tr.iadd (pc := 36) d_X4_emit_36 ?_
    refine Tr.tp (r1 + 1) ((w32_id (by omega)).trans (by omega)) ?_
    refine Tr.putfS (pc := 37) (P := St Tru ws_X4_emit_15_w9 as_X4_emit_15_w9 M0) d_X4_emit_37 f_4_49 (by decide) (by decide) (ty_15 hS.1.1) (st_15_11 hS (by decide) (by omega) trivial) (fun M37 hS w37 => ?_)
    exact Tr.vret (pc := 40) d_X4_emit_40 rfl ⟨hS, rfl⟩
end
/-! 43.20 -/
section
def ws_X5_both_6_w17 : List (Int × Int) := [(6, 0), (6, 1), (6, 5), (15, 11)]
def as_X5_both_6_w17 : List Int := [24, 25]
def q_X5_both_6_w17 (M0 M' : Mem) (r : Option PV) : Prop := St Tru ws_X5_both_6_w17 as_X5_both_6_w17 M0 M' ∧ ∃ v : Int, r = some (0, v) ∧ 0 ≤ v ∧ v ≤ 1
set_option maxRecDepth 100000 in
set_option maxHeartbeats 4000000 in
theorem sp_X5_both_6_w17 {l : Launch} {K : EC} {M0 : Mem} {xq : Int} (hI : In Tru M0) (hE : e_all K xq) (en_6_2 : rd M0 6 2 = 2) (en_6_3 : rd M0 6 3 = 7) (en_6_4 : rd M0 6 4 = 15) (en_6_6 : rd M0 6 6 = 8)   : Tr l K 8 mX5_both 0 [(0, (2, 6))] [] M0 (q_X5_both_6_w17 M0) := by
  have hS : St Tru ws_X5_both_6_w17 as_X5_both_6_w17 M0 M0 := St.rf hI
  refine Tr.aload_n (pc := 0) (i := 0) d_X5_both_0 rfl rfl ?_
  refine Tr.callV (pc := 1) (as := []) d_X5_both_1 s_5_218 ok_X5_fact rfl rfl (Nat.le_of_ble_eq_true rfl) (Nat.le_of_ble_eq_true rfl) (by decide) (ty_6 hS.1.1) ?_
  refine Tr.imp (Tr.deep (by decide) (sp_X5_fact_6_w17 hS.1 hE ((St.kp hS (by decide) (by decide) (by decide)).trans en_6_2) ((St.kp hS (by decide) (by decide) (by decide)).trans en_6_3) ((St.kp hS (by decide) (by decide) (by decide)).trans en_6_4) en_6_6)) ?_
  rintro M1 _ ⟨h1, r1, rfl, lr1, ur1⟩
  have hS := St.tr hS h1 (by decide) (by decide)
  refine Tr.sc [(0, r1)] rfl ?_
  refine Tr.istore_n (pc := 4) (i := 1) (ls2 := [(1, (0, r1)), (0, (2, 6))]) d_X5_both_4 rfl (by decide) rfl ?_
  refine Tr.iconst (pc := 5) d_X5_both_5 (by decide) ?_
  refine Tr.istore_n (pc := 6) (i := 2) (ls2 := [(2, (0, 0)), (1, (0, r1)), (0, (2, 6))]) d_X5_both_6 rfl (by decide) rfl ?_
  have J7 : ∀ (n7 : Nat) (M : Mem) (p7_1 p7_2 : Int), St Tru ws_X5_both_6_w17 as_X5_both_6_w17 M0 M → (0 ≤ p7_1 ∧ p7_1 ≤ 1) → (0 ≤ p7_2 ∧ p7_2 ≤ 900) → rd M 6 6 = 8 → (900 - p7_2).toNat < n7 → Tr l K 8 mX5_both 7 [(0, (2, 6)), (1, (0, p7_1)), (2, (0, p7_2))] [] M (q_X5_both_6_w17 M0) := by
    intro n7
    induction n7 with
    | zero => intro M p7_1 p7_2 hS bp7_1 bp7_2 k7_6_6 hm7; exact absurd hm7 (Nat.not_lt_zero _)
    | succ n7 J7 =>
      intro M p7_1 p7_2 hS bp7_1 bp7_2 k7_6_6 hm7
      refine Tr.iload_n (pc := 7) (i := 2) d_X5_both_7 rfl rfl ?_
      refine Tr.sipush (pc := 8) d_X5_both_8 rfl (by decide) ?_
      refine Tr.icmp_ge (pc := 11) (tgt := 53) d_X5_both_11 rfl (fun c11 => ?_) (fun c11 => ?_)
      · refine Tr.iload_n (pc := 53) (i := 1) d_X5_both_53 rfl rfl ?_
        exact Tr.zret (pc := 54) d_X5_both_54 rfl (by omega) ⟨hS, _, rfl, by omega, by omega⟩
      · refine Tr.iload_n (pc := 14) (i := 1) d_X5_both_14 rfl rfl ?_
        refine Tr.if_eq (pc := 15) (tgt := 53) d_X5_both_15 rfl (fun c15 => ?_) (fun c15 => ?_)
        · refine Tr.iload_n (pc := 53) (i := 1) d_X5_both_53 rfl rfl ?_
          exact Tr.zret (pc := 54) d_X5_both_54 rfl (by omega) ⟨hS, _, rfl, by omega, by omega⟩
        · refine Tr.aload_n (pc := 18) (i := 0) d_X5_both_18 rfl rfl ?_
          refine Tr.bipush (pc := 19) d_X5_both_19 rfl (by decide) ?_
          refine Tr.callV (pc := 21) (as := [_]) d_X5_both_21 s_5_71 ok_X5_isOwn rfl rfl (Nat.le_of_ble_eq_true rfl) (Nat.le_of_ble_eq_true rfl) (by decide) (ty_6 hS.1.1) ?_
          refine Tr.imp (Tr.deep (by decide) (sp_X5_isOwn_6_w3 hS.1 ((St.kp hS (by decide) (by decide) (by decide)).trans en_6_2) 20 (by omega))) ?_
          rintro M21 _ ⟨h21, r21, rfl, lr21, ur21⟩
          have hS := St.tr hS h21 (by decide) (by decide)
          refine Tr.sc [(0, r21)] rfl ?_
          refine Tr.if_eq (pc := 24) (tgt := 53) d_X5_both_24 rfl (fun c24 => ?_) (fun c24 => ?_)
          · refine Tr.iload_n (pc := 53) (i := 1) d_X5_both_53 rfl rfl ?_
            exact Tr.zret (pc := 54) d_X5_both_54 rfl (by omega) ⟨hS, _, rfl, by omega, by omega⟩
          · refine Tr.aload_n (pc := 27) (i := 0) d_X5_both_27 rfl rfl ?_
            refine Tr.callV (pc := 28) (as := []) d_X5_both_28 s_5_74 ok_X5_goOn rfl rfl (Nat.le_of_ble_eq_true rfl) (Nat.le_of_ble_eq_true rfl) (by decide) (ty_6 hS.1.1) ?_
            refine Tr.imp (Tr.deep (by decide) (sp_X5_goOn_6 hS.1 )) ?_
            rintro M28 _ ⟨h28, r28, rfl, lr28, ur28⟩
            have hS := St.tr hS h28 (by decide) (by decide)
            refine Tr.sc [(0, r28)] rfl ?_
            refine Tr.pop (pc := 31) d_X5_both_31 ne01 ?_
            refine Tr.aload_n (pc := 32) (i := 0) d_X5_both_32 rfl rfl ?_
            refine Tr.callV (pc := 33) (as := []) d_X5_both_33 s_5_218 ok_X5_fact rfl rfl (Nat.le_of_ble_eq_true rfl) (Nat.le_of_ble_eq_true rfl) (by decide) (ty_6 hS.1.1) ?_
            refine Tr.imp (Tr.deep (by decide) (sp_X5_fact_6_w17 hS.1 hE ((St.kp hS (by decide) (by decide) (by decide)).trans en_6_2) ((St.kp hS (by decide) (by decide) (by decide)).trans en_6_3) ((St.kp hS (by decide) (by decide) (by decide)).trans en_6_4) ((St.kp h28 (by decide) (by decide) (by decide)).trans ((St.kp h21 (by decide) (by decide) (by decide)).trans k7_6_6)))) ?_
            rintro M33 _ ⟨h33, r33, rfl, lr33, ur33⟩
            have hS := St.tr hS h33 (by decide) (by decide)
            refine Tr.sc [(0, r33)] rfl ?_
            refine Tr.istore_n (pc := 36) (i := 1) (ls2 := [(1, (0, r33)), (0, (2, 6)), (2, (0, p7_2))]) d_X5_both_36 rfl (by decide) rfl ?_
            refine Tr.aload_n (pc := 37) (i := 0) d_X5_both_37 rfl rfl ?_
            refine Tr.getf (pc := 38) d_X5_both_38 f_5_32 (by decide) (by decide) (ty_6 hS.1.1) ?_
            refine Tr.tp 15 ((St.kp hS (by decide) (by decide) (by decide)).trans en_6_4) ?_
            refine Tr.bipush (pc := 41) d_X5_both_41 rfl (by decide) ?_
            refine Tr.iconst (pc := 43) d_X5_both_43 (by decide) ?_
            refine Tr.callV (pc := 44) (as := [_, _]) d_X5_both_44 s_5_215 ok_X4_emit rfl rfl (Nat.le_of_ble_eq_true rfl) (Nat.le_of_ble_eq_true rfl) (by decide) (ty_15 hS.1.1) ?_
            refine Tr.imp (Tr.deep (by decide) (sp_X4_emit_15_w9 hS.1.wk 16 (by omega) 0 (by omega) (by omega))) ?_
            rintro M44 _ ⟨h44, rfl⟩
            have hS := St.tr hS h44 (by decide) (by decide)
            refine Tr.sc [] rfl ?_
            refine Tr.iincV (pc := 47) (n2 := (p7_2 + 1)) (ls2 := [(2, (0, (p7_2 + 1))), (1, (0, r33)), (0, (2, 6))]) d_X5_both_47 rfl (by decide) ((w32_id (by omega)).trans (by omega)) rfl ?_
            refine Tr.goto (pc := 50) (tgt := 7) d_X5_both_50 rfl ?_
            refine Tr.pick [2, 1, 0] (ls2 := [(0, (2, 6)), (1, (0, r33)), (2, (0, (p7_2 + 1)))]) rfl ?_
            exact J7 _ _ _ hS (by omega) (by omega) ((St.kp h44 (by decide) (by decide) (by decide)).trans ((St.kp h33 (by decide) (by decide) (by decide)).trans ((St.kp h28 (by decide) (by decide) (by decide)).trans ((St.kp h21 (by decide) (by decide) (by decide)).trans k7_6_6)))) (by omega)
  refine Tr.pick [2, 1, 0] (ls2 := [(0, (2, 6)), (1, (0, r1)), (2, (0, 0))]) rfl ?_
  exact J7 _ _ _ _ hS (by omega) (by omega) ((St.kp h1 (by decide) (by decide) (by decide)).trans en_6_6) (Nat.lt_succ_self _)

def ws_X4_emit_15_w10 : List (Int × Int) := [(15, 11)]
def as_X4_emit_15_w10 : List Int := [24, 25]
def q_X4_emit_15_w10 (M0 M' : Mem) (r : Option PV) : Prop := St Tru ws_X4_emit_15_w10 as_X4_emit_15_w10 M0 M' ∧ r = none
set_option maxRecDepth 100000 in
set_option maxHeartbeats 4000000 in
theorem sp_X4_emit_15_w10 {l : Launch} {K : EC} {M0 : Mem} (hI : In Tru M0)  (a1 : Int) (ha1 : 17 ≤ a1 ∧ a1 ≤ 17) (a2 : Int) (ha2 : 0 ≤ a2 ∧ a2 ≤ 0) (hp0 : (a1 = 1 → 0 ≤ a2 ∧ a2 ≤ 2) ∧ (a1 = 2 ∨ a1 = 4 → 0 ≤ a2 ∧ a2 ≤ 5)) : Tr l K 0 mX4_emit 0 [(0, (2, 15)), (1, (0, a1)), (2, (0, a2))] [] M0 (q_X4_emit_15_w10 M0) := by
  have hS : St Tru ws_X4_emit_15_w10 as_X4_emit_15_w10 M0 M0 := St.rf hI
  refine Tr.aload_n (pc := 0) (i := 0) d_X4_emit_0 rfl rfl ?_
  refine Tr.getf (pc := 1) d_X4_emit_1 f_4_49 (by decide) (by decide) (ty_15 hS.1.1) ?_
  refine Tr.gen (P := fun v => 0 ≤ v ∧ v ≤ 900) (ir_15_11 hS.1.2.1) (fun r1 er1 br1 => ?_)
  refine Tr.sipush (pc := 4) d_X4_emit_4 rfl (by decide) ?_
  refine Tr.icmp_ge (pc := 7) (tgt := 40) d_X4_emit_7 rfl (fun c7 => ?_) (fun c7 => ?_)
  · exact Tr.vret (pc := 40) d_X4_emit_40 rfl ⟨hS, rfl⟩
  · refine Tr.aload_n (pc := 10) (i := 0) d_X4_emit_10 rfl rfl ?_
    refine Tr.getf (pc := 11) d_X4_emit_11 f_4_36 (by decide) (by decide) (ty_15 hS.1.1) ?_
    refine Tr.tp 24 (fx_15_9 hS.1.1) ?_
    refine Tr.aload_n (pc := 14) (i := 0) d_X4_emit_14 rfl rfl ?_
    refine Tr.getf (pc := 15) d_X4_emit_15 f_4_49 (by decide) (by decide) (ty_15 hS.1.1) ?_
    refine Tr.tp r1 er1 ?_
    refine Tr.iload_n (pc := 18) (i := 1) d_X4_emit_18 rfl rfl ?_
    refine Tr.iast (pc := 19) d_X4_emit_19 (ty_24 hS.1.1) (by omega) (by omega) ?_
    refine Tr.aload_n (pc := 20) (i := 0) d_X4_emit_20 rfl rfl ?_
    refine Tr.getf (pc := 21) d_X4_emit_21 f_4_39 (by decide) (by decide) (show mT (wr M0 24 r1 a1) 15 = (4, 13) from ty_15 (M := M0) hS.1.1) ?_
    refine Tr.tp 25 ((rd_wb _ rfl).trans (fx_15_10 (M := M0) hS.1.1)) ?_
    refine Tr.aload_n (pc := 24) (i := 0) d_X4_emit_24 rfl rfl ?_
    refine Tr.getf (pc := 25) d_X4_emit_25 f_4_49 (by decide) (by decide) (show mT (wr M0 24 r1 a1) 15 = (4, 13) from ty_15 (M := M0) hS.1.1) ?_
    refine Tr.tp r1 ((rd_wb _ rfl).trans er1) ?_
    refine Tr.iload_n (pc := 28) (i := 2) d_X4_emit_28 rfl rfl ?_
    refine Tr.iastS (pc := 29) (P := St Tru ws_X4_emit_15_w10 as_X4_emit_15_w10 M0) d_X4_emit_29 (show mT (wr M0 24 r1 a1) 25 = (20, 900) from ty_25 (M := M0) hS.1.1) (by omega) (by omega) (St.two (x := 24) (y := 25) 18 19 hS (by decide) hp0 (by decide) (by decide) rfl (by decide +kernel) (by decide +kernel) (by decide +kernel) (by omega) rfl (by decide +kernel) (by decide +kernel) (by decide +kernel) (by omega) trivial) (fun M29 hS w29 => ?_)
    refine Tr.aload_n (pc := 30) (i := 0) d_X4_emit_30 rfl rfl ?_
    refine Tr.dup (pc := 31) d_X4_emit_31 ne21 ?_
    refine Tr.getf (pc := 32) d_X4_emit_32 f_4_49 (by decide) (by decide) (ty_15 hS.1.1) ?_
    refine Tr.tp r1 ((Wr.b w29 rfl).trans ((rd_wb _ rfl).trans er1)) ?_
    refine Tr.iconst (pc := 35) d_X4_emit_35 (by decide) ?_
    refine Tr.iadd (pc := 36) d_X4_emit_36 ?_
    refine Tr.tp (r1 + 1) ((w32_id (by omega)).trans (by omega)) ?_
    refine Tr.putfS (pc := 37) (P := St Tru ws_X4_emit_15_w10 as_X4_emit_15_w10 M0) d_X4_emit_37 f_4_49 (by decide) (by decide) (ty_15 hS.1.1) (st_15_11 hS (by decide) (by omega) trivial) (fun M37 hS w37 => ?_)
    exact Tr.vret (pc := 40) d_X4_emit_40 rfl ⟨hS, rfl⟩

def ws_X5_test_6_w17 : List (Int × Int) := [(6, 0), (6, 1), (6, 5), (15, 11)]
def as_X5_test_6_w17 : List Int := [24, 25]
def q_X5_test_6_w17 (M0 M' : Mem) (r : Option PV) : Prop := St Tru ws_X5_test_6_w17 as_X5_test_6_w17 M0 M' ∧ ∃ v : Int, r = some (0, v) ∧ 0 ≤ v ∧ v ≤ 1
set_option maxRecDepth 100000 in
set_option maxHeartbeats 4000000 in
theorem sp_X5_test_6_w17 {l : Launch} {K : EC} {M0 : Mem} {xq : Int} (hI : In Tru M0) (hE : e_all K xq) (en_6_2 : rd M0 6 2 = 2) (en_6_3 : rd M0 6 3 = 7) (en_6_4 : rd M0 6 4 = 15) (en_6_6 : rd M0 6 6 = 8)   : Tr l K 9 mX5_test 0 [(0, (2, 6))] [] M0 (q_X5_test_6_w17 M0) := by
  have hS : St Tru ws_X5_test_6_w17 as_X5_test_6_w17 M0 M0 := St.rf hI
  refine Tr.aload_n (pc := 0) (i := 0) d_X5_test_0 rfl rfl ?_
  refine Tr.callV (pc := 1) (as := []) d_X5_test_1 s_5_212 ok_X5_both rfl rfl (Nat.le_of_ble_eq_true rfl) (Nat.le_of_ble_eq_true rfl) (by decide) (ty_6 hS.1.1) ?_
  refine Tr.imp (Tr.deep (by decide) (sp_X5_both_6_w17 hS.1 hE ((St.kp hS (by decide) (by decide) (by decide)).trans en_6_2) ((St.kp hS (by decide) (by decide) (by decide)).trans en_6_3) ((St.kp hS (by decide) (by decide) (by decide)).trans en_6_4) en_6_6)) ?_
  rintro M1 _ ⟨h1, r1, rfl, lr1, ur1⟩
  have hS := St.tr hS h1 (by decide) (by decide)
  refine Tr.sc [(0, r1)] rfl ?_
  refine Tr.istore_n (pc := 4) (i := 1) (ls2 := [(1, (0, r1)), (0, (2, 6))]) d_X5_test_4 rfl (by decide) rfl ?_
  refine Tr.iconst (pc := 5) d_X5_test_5 (by decide) ?_
  refine Tr.istore_n (pc := 6) (i := 2) (ls2 := [(2, (0, 0)), (1, (0, r1)), (0, (2, 6))]) d_X5_test_6 rfl (by decide) rfl ?_
  have J7 : ∀ (n7 : Nat) (M : Mem) (p7_1 p7_2 : Int), St Tru ws_X5_test_6_w17 as_X5_test_6_w17 M0 M → (0 ≤ p7_1 ∧ p7_1 ≤ 1) → (0 ≤ p7_2 ∧ p7_2 ≤ 900) → rd M 6 6 = 8 → (900 - p7_2).toNat < n7 → Tr l K 9 mX5_test 7 [(0, (2, 6)), (1, (0, p7_1)), (2, (0, p7_2))] [] M (q_X5_test_6_w17 M0) := by
    intro n7
    induction n7 with
    | zero => intro M p7_1 p7_2 hS bp7_1 bp7_2 k7_6_6 hm7; exact absurd hm7 (Nat.not_lt_zero _)
    | succ n7 J7 =>
      intro M p7_1 p7_2 hS bp7_1 bp7_2 k7_6_6 hm7
      refine Tr.iload_n (pc := 7) (i := 2) d_X5_test_7 rfl rfl ?_
      refine Tr.sipush (pc := 8) d_X5_test_8 rfl (by decide) ?_
      refine Tr.icmp_ge (pc := 11) (tgt := 53) d_X5_test_11 rfl (fun c11 => ?_) (fun c11 => ?_)
      · refine Tr.iload_n (pc := 53) (i := 1) d_X5_test_53 rfl rfl ?_
        exact Tr.zret (pc := 54) d_X5_test_54 rfl (by omega) ⟨hS, _, rfl, by omega, by omega⟩
      · refine Tr.iload_n (pc := 14) (i := 1) d_X5_test_14 rfl rfl ?_
        refine Tr.if_eq (pc := 15) (tgt := 53) d_X5_test_15 rfl (fun c15 => ?_) (fun c15 => ?_)
        · refine Tr.iload_n (pc := 53) (i := 1) d_X5_test_53 rfl rfl ?_
          exact Tr.zret (pc := 54) d_X5_test_54 rfl (by omega) ⟨hS, _, rfl, by omega, by omega⟩
        · refine Tr.aload_n (pc := 18) (i := 0) d_X5_test_18 rfl rfl ?_
          refine Tr.bipush (pc := 19) d_X5_test_19 rfl (by decide) ?_
          refine Tr.callV (pc := 21) (as := [_]) d_X5_test_21 s_5_71 ok_X5_isOwn rfl rfl (Nat.le_of_ble_eq_true rfl) (Nat.le_of_ble_eq_true rfl) (by decide) (ty_6 hS.1.1) ?_
          refine Tr.imp (Tr.deep (by decide) (sp_X5_isOwn_6_w3 hS.1 ((St.kp hS (by decide) (by decide) (by decide)).trans en_6_2) 19 (by omega))) ?_
          rintro M21 _ ⟨h21, r21, rfl, lr21, ur21⟩
          have hS := St.tr hS h21 (by decide) (by decide)
          refine Tr.sc [(0, r21)] rfl ?_
          refine Tr.if_eq (pc := 24) (tgt := 53) d_X5_test_24 rfl (fun c24 => ?_) (fun c24 => ?_)
          · refine Tr.iload_n (pc := 53) (i := 1) d_X5_test_53 rfl rfl ?_
            exact Tr.zret (pc := 54) d_X5_test_54 rfl (by omega) ⟨hS, _, rfl, by omega, by omega⟩
          · refine Tr.aload_n (pc := 27) (i := 0) d_X5_test_27 rfl rfl ?_
            refine Tr.callV (pc := 28) (as := []) d_X5_test_28 s_5_74 ok_X5_goOn rfl rfl (Nat.le_of_ble_eq_true rfl) (Nat.le_of_ble_eq_true rfl) (by decide) (ty_6 hS.1.1) ?_
            refine Tr.imp (Tr.deep (by decide) (sp_X5_goOn_6 hS.1 )) ?_
            rintro M28 _ ⟨h28, r28, rfl, lr28, ur28⟩
            have hS := St.tr hS h28 (by decide) (by decide)
            refine Tr.sc [(0, r28)] rfl ?_
            refine Tr.pop (pc := 31) d_X5_test_31 ne01 ?_
            refine Tr.aload_n (pc := 32) (i := 0) d_X5_test_32 rfl rfl ?_
            refine Tr.callV (pc := 33) (as := []) d_X5_test_33 s_5_212 ok_X5_both rfl rfl (Nat.le_of_ble_eq_true rfl) (Nat.le_of_ble_eq_true rfl) (by decide) (ty_6 hS.1.1) ?_
            refine Tr.imp (Tr.deep (by decide) (sp_X5_both_6_w17 hS.1 hE ((St.kp hS (by decide) (by decide) (by decide)).trans en_6_2) ((St.kp hS (by decide) (by decide) (by decide)).trans en_6_3) ((St.kp hS (by decide) (by decide) (by decide)).trans en_6_4) ((St.kp h28 (by decide) (by decide) (by decide)).trans ((St.kp h21 (by decide) (by decide) (by decide)).trans k7_6_6)))) ?_
            rintro M33 _ ⟨h33, r33, rfl, lr33, ur33⟩
            have hS := St.tr hS h33 (by decide) (by decide)
            refine Tr.sc [(0, r33)] rfl ?_
            refine Tr.istore_n (pc := 36) (i := 1) (ls2 := [(1, (0, r33)), (0, (2, 6)), (2, (0, p7_2))]) d_X5_test_36 rfl (by decide) rfl ?_
            refine Tr.aload_n (pc := 37) (i := 0) d_X5_test_37 rfl rfl ?_
            refine Tr.getf (pc := 38) d_X5_test_38 f_5_32 (by decide) (by decide) (ty_6 hS.1.1) ?_
            refine Tr.tp 15 ((St.kp hS (by decide) (by decide) (by decide)).trans en_6_4) ?_
            refine Tr.bipush (pc := 41) d_X5_test_41 rfl (by decide) ?_
            refine Tr.iconst (pc := 43) d_X5_test_43 (by decide) ?_
            refine Tr.callV (pc := 44) (as := [_, _]) d_X5_test_44 s_5_215 ok_X4_emit rfl rfl (Nat.le_of_ble_eq_true rfl) (Nat.le_of_ble_eq_true rfl) (by decide) (ty_15 hS.1.1) ?_
            refine Tr.imp (Tr.deep (by decide) (sp_X4_emit_15_w10 hS.1.wk 17 (by omega) 0 (by omega) (by omega))) ?_
            rintro M44 _ ⟨h44, rfl⟩
            have hS := St.tr hS h44 (by decide) (by decide)
            refine Tr.sc [] rfl ?_
            refine Tr.iincV (pc := 47) (n2 := (p7_2 + 1)) (ls2 := [(2, (0, (p7_2 + 1))), (1, (0, r33)), (0, (2, 6))]) d_X5_test_47 rfl (by decide) ((w32_id (by omega)).trans (by omega)) rfl ?_
            refine Tr.goto (pc := 50) (tgt := 7) d_X5_test_50 rfl ?_
            refine Tr.pick [2, 1, 0] (ls2 := [(0, (2, 6)), (1, (0, r33)), (2, (0, (p7_2 + 1)))]) rfl ?_
            exact J7 _ _ _ hS (by omega) (by omega) ((St.kp h44 (by decide) (by decide) (by decide)).trans ((St.kp h33 (by decide) (by decide) (by decide)).trans ((St.kp h28 (by decide) (by decide) (by decide)).trans ((St.kp h21 (by decide) (by decide) (by decide)).trans k7_6_6)))) (by omega)
  refine Tr.pick [2, 1, 0] (ls2 := [(0, (2, 6)), (1, (0, r1)), (2, (0, 0))]) rfl ?_
  exact J7 _ _ _ _ hS (by omega) (by omega) ((St.kp h1 (by decide) (by decide) (by decide)).trans en_6_6) (Nat.lt_succ_self _)

def ws_X5_plainFact_6_w16 : List (Int × Int) := [(6, 0), (6, 1), (6, 5), (6, 6), (15, 11)]
def as_X5_plainFact_6_w16 : List Int := [24, 25]
def q_X5_plainFact_6_w16 (M0 M' : Mem) (r : Option PV) : Prop := St Tru ws_X5_plainFact_6_w16 as_X5_plainFact_6_w16 M0 M' ∧ ∃ v : Int, r = some (0, v) ∧ 0 ≤ v ∧ v ≤ 1 ∧ ((1 ≤ v ∧ v ≤ 1) → rd M' 6 6 = 7)
set_option maxRecDepth 100000 in
set_option maxHeartbeats 4000000 in
theorem sp_X5_plainFact_6_w16 {l : Launch} {K : EC} {M0 : Mem} {xq : Int} (hI : In Tru M0) (hE : e_all K xq) (en_6_2 : rd M0 6 2 = 2) (en_6_3 : rd M0 6 3 = 7) (en_6_4 : rd M0 6 4 = 15) (en_6_6 : rd M0 6 6 = 7)   : Tr l K 10 mX5_plainFact 0 [(0, (2, 6))] [] M0 (q_X5_plainFact_6_w16 M0) := by
  have hS : St Tru ws_X5_plainFact_6_w16 as_X5_plainFact_6_w16 M0 M0 := St.rf hI
  refine Tr.aload_n (pc := 0) (i := 0) d_X5_plainFact_0 rfl rfl ?_
  refine Tr.bipush (pc := 1) d_X5_plainFact_1 rfl (by decide) ?_
  refine Tr.callV (pc := 3) (as := [_]) d_X5_plainFact_3 s_5_77 ok_X5_isSign rfl rfl (Nat.le_of_ble_eq_true rfl) (Nat.le_of_ble_eq_true rfl) (by decide) (ty_6 hS.1.1) ?_
  refine Tr.imp (Tr.deep (by decide) (sp_X5_isSign_6_w1 hS.1 ((St.kp hS (by decide) (by decide) (by decide)).trans en_6_2) 91 (by omega))) ?_
  rintro M3 _ ⟨h3, r3, rfl, lr3, ur3⟩
  have hS := St.tr hS h3 (by decide) (by decide)
  refine Tr.sc [(0, r3)] rfl ?_
  refine Tr.if_eq (pc := 6) (tgt := 40) d_X5_plainFact_6 rfl (fun c6 => ?_) (fun c6 => ?_)
  · refine Tr.aload_n (pc := 40) (i := 0) d_X5_plainFact_40 rfl rfl ?_
    refine Tr.bipush (pc := 41) d_X5_plainFact_41 rfl (by decide) ?_
    refine Tr.callV (pc := 43) (as := [_]) d_X5_plainFact_43 s_5_71 ok_X5_isOwn rfl rfl (Nat.le_of_ble_eq_true rfl) (Nat.le_of_ble_eq_true rfl) (by decide) (ty_6 hS.1.1) ?_
    refine Tr.imp (Tr.deep (by decide) (sp_X5_isOwn_6_w4 hS.1 ((St.kp hS (by decide) (by decide) (by decide)).trans en_6_2) 22 (by omega))) ?_
    rintro M43 _ ⟨h43, r43, rfl, lr43, ur43⟩
    have hS := St.tr hS h43 (by decide) (by decide)
    refine Tr.sc [(0, r43)] rfl ?_
    refine Tr.if_eq (pc := 46) (tgt := 63) d_X5_plainFact_46 rfl (fun c46 => ?_) (fun c46 => ?_)
    · refine Tr.aload_n (pc := 63) (i := 0) d_X5_plainFact_63 rfl rfl ?_
      refine Tr.bipush (pc := 64) d_X5_plainFact_64 rfl (by decide) ?_
      refine Tr.callV (pc := 66) (as := [_]) d_X5_plainFact_66 s_5_71 ok_X5_isOwn rfl rfl (Nat.le_of_ble_eq_true rfl) (Nat.le_of_ble_eq_true rfl) (by decide) (ty_6 hS.1.1) ?_
      refine Tr.imp (Tr.deep (by decide) (sp_X5_isOwn_6_w4 hS.1 ((St.kp hS (by decide) (by decide) (by decide)).trans en_6_2) 23 (by omega))) ?_
      rintro M66 _ ⟨h66, r66, rfl, lr66, ur66⟩
      have hS := St.tr hS h66 (by decide) (by decide)
      refine Tr.sc [(0, r66)] rfl ?_
      refine Tr.if_eq (pc := 69) (tgt := 106) d_X5_plainFact_69 rfl (fun c69 => ?_) (fun c69 => ?_)
      · refine Tr.aload_n (pc := 106) (i := 0) d_X5_plainFact_106 rfl rfl ?_
        refine Tr.callV (pc := 107) (as := []) d_X5_plainFact_107 s_5_174 ok_X5_sum rfl rfl (Nat.le_of_ble_eq_true rfl) (Nat.le_of_ble_eq_true rfl) (by decide) (ty_6 hS.1.1) ?_
        refine Tr.imp (Tr.deep (by decide) (sp_X5_sum_6_w16 hS.1 hE ((St.kp hS (by decide) (by decide) (by decide)).trans en_6_2) ((St.kp hS (by decide) (by decide) (by decide)).trans en_6_3) ((St.kp hS (by decide) (by decide) (by decide)).trans en_6_4) ((St.kp h66 (by decide) (by decide) (by decide)).trans ((St.kp h43 (by decide) (by decide) (by decide)).trans ((St.kp h3 (by decide) (by decide) (by decide)).trans en_6_6))))) ?_
        rintro M107 _ ⟨h107, r107, rfl, lr107, ur107, x107_6_6⟩
        have hS := St.tr hS h107 (by decide) (by decide)
        refine Tr.sc [(0, r107)] rfl ?_
        refine Tr.if_ne (pc := 110) (tgt := 115) d_X5_plainFact_110 rfl (fun c110 => ?_) (fun c110 => ?_)
        · refine Tr.aload_n (pc := 115) (i := 0) d_X5_plainFact_115 rfl rfl ?_
          refine Tr.bipush (pc := 116) d_X5_plainFact_116 rfl (by decide) ?_
          refine Tr.callV (pc := 118) (as := [_]) d_X5_plainFact_118 s_5_77 ok_X5_isSign rfl rfl (Nat.le_of_ble_eq_true rfl) (Nat.le_of_ble_eq_true rfl) (by decide) (ty_6 hS.1.1) ?_
          refine Tr.imp (Tr.deep (by decide) (sp_X5_isSign_6_w3 hS.1 ((St.kp hS (by decide) (by decide) (by decide)).trans en_6_2) 60 (by omega))) ?_
          rintro M118 _ ⟨h118, r118, rfl, lr118, ur118⟩
          have hS := St.tr hS h118 (by decide) (by decide)
          refine Tr.sc [(0, r118)] rfl ?_
          have J158 : ∀ (M : Mem) (q158_0 : Int), St Tru ws_X5_plainFact_6_w16 as_X5_plainFact_6_w16 M0 M → ((-1) ≤ q158_0 ∧ q158_0 ≤ 15) → rd M 6 6 = 7 → Tr l K 10 mX5_plainFact 158 [(0, (2, 6))] [(0, q158_0)] M (q_X5_plainFact_6_w16 M0) := by
            intro M q158_0 hS bq158_0 k158_6_6
            refine Tr.istore_n (pc := 158) (i := 1) (ls2 := [(1, (0, q158_0)), (0, (2, 6))]) d_X5_plainFact_158 rfl (by decide) rfl ?_
            refine Tr.iload_n (pc := 159) (i := 1) d_X5_plainFact_159 rfl rfl ?_
            refine Tr.if_ge (pc := 160) (tgt := 169) d_X5_plainFact_160 rfl (fun c160 => ?_) (fun c160 => ?_)
            · refine Tr.aload_n (pc := 169) (i := 0) d_X5_plainFact_169 rfl rfl ?_
              refine Tr.callV (pc := 170) (as := []) d_X5_plainFact_170 s_5_74 ok_X5_goOn rfl rfl (Nat.le_of_ble_eq_true rfl) (Nat.le_of_ble_eq_true rfl) (by decide) (ty_6 hS.1.1) ?_
              refine Tr.imp (Tr.deep (by decide) (sp_X5_goOn_6 hS.1 )) ?_
              rintro M170 _ ⟨h170, r170, rfl, lr170, ur170⟩
              have hS := St.tr hS h170 (by decide) (by decide)
              refine Tr.sc [(0, r170)] rfl ?_
              refine Tr.pop (pc := 173) d_X5_plainFact_173 ne01 ?_
              refine Tr.aload_n (pc := 174) (i := 0) d_X5_plainFact_174 rfl rfl ?_
              refine Tr.callV (pc := 175) (as := []) d_X5_plainFact_175 s_5_174 ok_X5_sum rfl rfl (Nat.le_of_ble_eq_true rfl) (Nat.le_of_ble_eq_true rfl) (by decide) (ty_6 hS.1.1) ?_
              refine Tr.imp (Tr.deep (by decide) (sp_X5_sum_6_w16 hS.1 hE ((St.kp hS (by decide) (by decide) (by decide)).trans en_6_2) ((St.kp hS (by decide) (by decide) (by decide)).trans en_6_3) ((St.kp hS (by decide) (by decide) (by decide)).trans en_6_4) ((St.kp h170 (by decide) (by decide) (by decide)).trans k158_6_6))) ?_
              rintro M175 _ ⟨h175, r175, rfl, lr175, ur175, x175_6_6⟩
              have hS := St.tr hS h175 (by decide) (by decide)
              refine Tr.sc [(0, r175)] rfl ?_
              refine Tr.istore_n (pc := 178) (i := 2) (ls2 := [(2, (0, r175)), (1, (0, q158_0)), (0, (2, 6))]) d_X5_plainFact_178 rfl (by decide) rfl ?_
              refine Tr.aload_n (pc := 179) (i := 0) d_X5_plainFact_179 rfl rfl ?_
              refine Tr.getf (pc := 180) d_X5_plainFact_180 f_5_32 (by decide) (by decide) (ty_6 hS.1.1) ?_
              refine Tr.tp 15 ((St.kp hS (by decide) (by decide) (by decide)).trans en_6_4) ?_
              refine Tr.iload_n (pc := 183) (i := 1) d_X5_plainFact_183 rfl rfl ?_
              refine Tr.iconst (pc := 184) d_X5_plainFact_184 (by decide) ?_
              refine Tr.callV (pc := 185) (as := [_, _]) d_X5_plainFact_185 s_5_215 ok_X4_emit rfl rfl (Nat.le_of_ble_eq_true rfl) (Nat.le_of_ble_eq_true rfl) (by decide) (ty_15 hS.1.1) ?_
              refine Tr.imp (Tr.deep (by decide) (sp_X4_emit_15_w8 hS.1.wk q158_0 (by omega) 0 (by omega) (by omega))) ?_
              rintro M185 _ ⟨h185, rfl⟩
              have hS := St.tr hS h185 (by decide) (by decide)
              refine Tr.sc [] rfl ?_
              refine Tr.iload_n (pc := 188) (i := 2) d_X5_plainFact_188 rfl rfl ?_
              exact Tr.zret (pc := 189) d_X5_plainFact_189 rfl (by omega) ⟨hS, _, rfl, by omega, by omega, fun hq => ((St.kp h185 (by decide) (by decide) (by decide)).trans (x175_6_6 (by omega)))⟩
            · refine Tr.aload_n (pc := 163) (i := 0) d_X5_plainFact_163 rfl rfl ?_
              refine Tr.iconst (pc := 164) d_X5_plainFact_164 (by decide) ?_
              refine Tr.callV (pc := 165) (as := [_]) d_X5_plainFact_165 s_5_56 ok_X5_refuse rfl rfl (Nat.le_of_ble_eq_true rfl) (Nat.le_of_ble_eq_true rfl) (by decide) (ty_6 hS.1.1) ?_
              refine Tr.imp (Tr.deep (by decide) (sp_X5_refuse_6_w1 hS.1 ((St.kp hS (by decide) (by decide) (by decide)).trans en_6_2) 1 (by omega))) ?_
              rintro M165 _ ⟨h165, r165, rfl, lr165, ur165⟩
              have hS := St.tr hS h165 (by decide) (by decide)
              refine Tr.sc [(0, r165)] rfl ?_
              exact Tr.zret (pc := 168) d_X5_plainFact_168 rfl (by omega) ⟨hS, _, rfl, by omega, by omega, fun hq => absurd hq (by omega)⟩
          refine Tr.if_eq (pc := 121) (tgt := 129) d_X5_plainFact_121 rfl (fun c121 => ?_) (fun c121 => ?_)
          · refine Tr.aload_n (pc := 129) (i := 0) d_X5_plainFact_129 rfl rfl ?_
            refine Tr.bipush (pc := 130) d_X5_plainFact_130 rfl (by decide) ?_
            refine Tr.callV (pc := 132) (as := [_]) d_X5_plainFact_132 s_5_77 ok_X5_isSign rfl rfl (Nat.le_of_ble_eq_true rfl) (Nat.le_of_ble_eq_true rfl) (by decide) (ty_6 hS.1.1) ?_
            refine Tr.imp (Tr.deep (by decide) (sp_X5_isSign_6_w4 hS.1 ((St.kp hS (by decide) (by decide) (by decide)).trans en_6_2) 62 (by omega))) ?_
            rintro M132 _ ⟨h132, r132, rfl, lr132, ur132⟩
            have hS := St.tr hS h132 (by decide) (by decide)
            refine Tr.sc [(0, r132)] rfl ?_
            refine Tr.if_eq (pc := 135) (tgt := 143) d_X5_plainFact_135 rfl (fun c135 => ?_) (fun c135 => ?_)
            · refine Tr.aload_n (pc := 143) (i := 0) d_X5_plainFact_143 rfl rfl ?_
              refine Tr.bipush (pc := 144) d_X5_plainFact_144 rfl (by decide) ?_
              refine Tr.callV (pc := 146) (as := [_]) d_X5_plainFact_146 s_5_77 ok_X5_isSign rfl rfl (Nat.le_of_ble_eq_true rfl) (Nat.le_of_ble_eq_true rfl) (by decide) (ty_6 hS.1.1) ?_
              refine Tr.imp (Tr.deep (by decide) (sp_X5_isSign_6_w4 hS.1 ((St.kp hS (by decide) (by decide) (by decide)).trans en_6_2) 61 (by omega))) ?_
              rintro M146 _ ⟨h146, r146, rfl, lr146, ur146⟩
              have hS := St.tr hS h146 (by decide) (by decide)
              refine Tr.sc [(0, r146)] rfl ?_
              refine Tr.if_eq (pc := 149) (tgt := 157) d_X5_plainFact_149 rfl (fun c149 => ?_) (fun c149 => ?_)
              · refine Tr.iconst (pc := 157) d_X5_plainFact_157 (by decide) ?_
                refine Tr.pick [0] (ls2 := [(0, (2, 6))]) rfl ?_
                exact J158 _ _ hS (by omega) ((St.kp h146 (by decide) (by decide) (by decide)).trans ((St.kp h132 (by decide) (by decide) (by decide)).trans ((St.kp h118 (by decide) (by decide) (by decide)).trans (x107_6_6 (by omega)))))
              · refine Tr.bipush (pc := 152) d_X5_plainFact_152 rfl (by decide) ?_
                refine Tr.goto (pc := 154) (tgt := 158) d_X5_plainFact_154 rfl ?_
                refine Tr.pick [0] (ls2 := [(0, (2, 6))]) rfl ?_
                exact J158 _ _ hS (by omega) ((St.kp h146 (by decide) (by decide) (by decide)).trans ((St.kp h132 (by decide) (by decide) (by decide)).trans ((St.kp h118 (by decide) (by decide) (by decide)).trans (x107_6_6 (by omega)))))
            · refine Tr.bipush (pc := 138) d_X5_plainFact_138 rfl (by decide) ?_
              refine Tr.goto (pc := 140) (tgt := 158) d_X5_plainFact_140 rfl ?_
              refine Tr.pick [0] (ls2 := [(0, (2, 6))]) rfl ?_
              exact J158 _ _ hS (by omega) ((St.kp h132 (by decide) (by decide) (by decide)).trans ((St.kp h118 (by decide) (by decide) (by decide)).trans (x107_6_6 (by omega))))
          · refine Tr.bipush (pc := 124) d_X5_plainFact_124 rfl (by decide) ?_
            refine Tr.goto (pc := 126) (tgt := 158) d_X5_plainFact_126 rfl ?_
            refine Tr.pick [0] (ls2 := [(0, (2, 6))]) rfl ?_
            exact J158 _ _ hS (by omega) ((St.kp h118 (by decide) (by decide) (by decide)).trans (x107_6_6 (by omega)))
        · refine Tr.iconst (pc := 113) d_X5_plainFact_113 (by decide) ?_
          exact Tr.zret (pc := 114) d_X5_plainFact_114 rfl (by omega) ⟨hS, _, rfl, by omega, by omega, fun hq => absurd hq (by omega)⟩
      · refine Tr.aload_n (pc := 72) (i := 0) d_X5_plainFact_72 rfl rfl ?_
        refine Tr.callV (pc := 73) (as := []) d_X5_plainFact_73 s_5_74 ok_X5_goOn rfl rfl (Nat.le_of_ble_eq_true rfl) (Nat.le_of_ble_eq_true rfl) (by decide) (ty_6 hS.1.1) ?_
        refine Tr.imp (Tr.deep (by decide) (sp_X5_goOn_6 hS.1 )) ?_
        rintro M73 _ ⟨h73, r73, rfl, lr73, ur73⟩
        have hS := St.tr hS h73 (by decide) (by decide)
        refine Tr.sc [(0, r73)] rfl ?_
        refine Tr.pop (pc := 76) d_X5_plainFact_76 ne01 ?_
        refine Tr.aload_n (pc := 77) (i := 0) d_X5_plainFact_77 rfl rfl ?_
        refine Tr.iconst (pc := 78) d_X5_plainFact_78 (by decide) ?_
        refine Tr.callV (pc := 79) (as := [_]) d_X5_plainFact_79 s_5_186 ok_X5_takeName rfl rfl (Nat.le_of_ble_eq_true rfl) (Nat.le_of_ble_eq_true rfl) (by decide) (ty_6 hS.1.1) ?_
        refine Tr.imp (Tr.deep (by decide) (sp_X5_takeName_6_v0_w1 hS.1 hE ((St.kp hS (by decide) (by decide) (by decide)).trans en_6_2) ((St.kp hS (by decide) (by decide) (by decide)).trans en_6_3))) ?_
        rintro M79 _ ⟨h79, r79, rfl, lr79, ur79⟩
        have hS := St.tr hS h79 (by decide) (by decide)
        refine Tr.sc [(0, r79)] rfl ?_
        refine Tr.istore_n (pc := 82) (i := 1) (ls2 := [(1, (0, r79)), (0, (2, 6))]) d_X5_plainFact_82 rfl (by decide) rfl ?_
        refine Tr.aload_n (pc := 83) (i := 0) d_X5_plainFact_83 rfl rfl ?_
        refine Tr.getf (pc := 84) d_X5_plainFact_84 f_5_32 (by decide) (by decide) (ty_6 hS.1.1) ?_
        refine Tr.tp 15 ((St.kp hS (by decide) (by decide) (by decide)).trans en_6_4) ?_
        refine Tr.iconst (pc := 87) d_X5_plainFact_87 (by decide) ?_
        refine Tr.iload_n (pc := 88) (i := 1) d_X5_plainFact_88 rfl rfl ?_
        refine Tr.iconst (pc := 89) d_X5_plainFact_89 (by decide) ?_
        refine Tr.mmax (pc := 90) d_X5_plainFact_90 ml_5_192 mw_mmax (Nat.le_of_ble_eq_true rfl) ?_
        refine Tr.gen (P := fun v => (v = r79 ∧ 0 ≤ r79) ∨ (v = 0 ∧ r79 ≤ 0)) (f_max_p _ _) (fun r90 er90 br90 => ?_)
        refine Tr.callV (pc := 93) (as := [_, _]) d_X5_plainFact_93 s_5_215 ok_X4_emit rfl rfl (Nat.le_of_ble_eq_true rfl) (Nat.le_of_ble_eq_true rfl) (by decide) (ty_15 hS.1.1) ?_
        refine Tr.imp (Tr.deep (by decide) (sp_X4_emit_15_w7 hS.1.wk 4 (by omega) r90 (by omega) (by omega))) ?_
        rintro M93 _ ⟨h93, rfl⟩
        have hS := St.tr hS h93 (by decide) (by decide)
        refine Tr.sc [] rfl ?_
        refine Tr.iload_n (pc := 96) (i := 1) d_X5_plainFact_96 rfl rfl ?_
        refine Tr.if_lt (pc := 97) (tgt := 104) d_X5_plainFact_97 rfl (fun c97 => ?_) (fun c97 => ?_)
        · refine Tr.iconst (pc := 104) d_X5_plainFact_104 (by decide) ?_
          exact Tr.zret (pc := 105) d_X5_plainFact_105 rfl (by omega) ⟨hS, _, rfl, by omega, by omega, fun hq => absurd hq (by omega)⟩
        · refine Tr.iconst (pc := 100) d_X5_plainFact_100 (by decide) ?_
          refine Tr.goto (pc := 101) (tgt := 105) d_X5_plainFact_101 rfl ?_
          exact Tr.zret (pc := 105) d_X5_plainFact_105 rfl (by omega) ⟨hS, _, rfl, by omega, by omega, fun _ => ((St.kp h93 (by decide) (by decide) (by decide)).trans ((St.kp h79 (by decide) (by decide) (by decide)).trans ((St.kp h73 (by decide) (by decide) (by decide)).trans ((St.kp h66 (by decide) (by decide) (by decide)).trans ((St.kp h43 (by decide) (by decide) (by decide)).trans ((St.kp h3 (by decide) (by decide) (by decide)).trans en_6_6))))))⟩
    · refine Tr.aload_n (pc := 49) (i := 0) d_X5_plainFact_49 rfl rfl ?_
      refine Tr.getf (pc := 50) d_X5_plainFact_50 f_5_32 (by decide) (by decide) (ty_6 hS.1.1) ?_
      refine Tr.tp 15 ((St.kp hS (by decide) (by decide) (by decide)).trans en_6_4) ?_
      refine Tr.iconst (pc := 53) d_X5_plainFact_53 (by decide) ?_
      refine Tr.iconst (pc := 54) d_X5_plainFact_54 (by decide) ?_
      refine Tr.callV (pc := 55) (as := [_, _]) d_X5_plainFact_55 s_5_215 ok_X4_emit rfl rfl (Nat.le_of_ble_eq_true rfl) (Nat.le_of_ble_eq_true rfl) (by decide) (ty_15 hS.1.1) ?_
      refine Tr.imp (Tr.deep (by decide) (sp_X4_emit_15_w3 hS.1.wk 0 (by omega) 1 (by omega) (by omega))) ?_
      rintro M55 _ ⟨h55, rfl⟩
      have hS := St.tr hS h55 (by decide) (by decide)
      refine Tr.sc [] rfl ?_
      refine Tr.aload_n (pc := 58) (i := 0) d_X5_plainFact_58 rfl rfl ?_
      refine Tr.callV (pc := 59) (as := []) d_X5_plainFact_59 s_5_74 ok_X5_goOn rfl rfl (Nat.le_of_ble_eq_true rfl) (Nat.le_of_ble_eq_true rfl) (by decide) (ty_6 hS.1.1) ?_
      refine Tr.imp (Tr.deep (by decide) (sp_X5_goOn_6 hS.1 )) ?_
      rintro M59 _ ⟨h59, r59, rfl, lr59, ur59⟩
      have hS := St.tr hS h59 (by decide) (by decide)
      refine Tr.sc [(0, r59)] rfl ?_
      exact Tr.zret (pc := 62) d_X5_plainFact_62 rfl (by omega) ⟨hS, _, rfl, by omega, by omega, fun _ => ((St.kp h59 (by decide) (by decide) (by decide)).trans ((St.kp h55 (by decide) (by decide) (by decide)).trans ((St.kp h43 (by decide) (by decide) (by decide)).trans ((St.kp h3 (by decide) (by decide) (by decide)).trans en_6_6))))⟩
  · refine Tr.aload_n (pc := 9) (i := 0) d_X5_plainFact_9 rfl rfl ?_
    refine Tr.bipush (pc := 10) d_X5_plainFact_10 rfl (by decide) ?_
    refine Tr.callV (pc := 12) (as := [_]) d_X5_plainFact_12 s_5_206 ok_X5_takeOpening rfl rfl (Nat.le_of_ble_eq_true rfl) (Nat.le_of_ble_eq_true rfl) (by decide) (ty_6 hS.1.1) ?_
    refine Tr.imp (Tr.deep (by decide) (sp_X5_takeOpening_6_w16 hS.1 ((St.kp hS (by decide) (by decide) (by decide)).trans en_6_2) ((St.kp h3 (by decide) (by decide) (by decide)).trans en_6_6) 91 (by omega))) ?_
    rintro M12 _ ⟨h12, r12, rfl, lr12, ur12, x12_6_6⟩
    have hS := St.tr hS h12 (by decide) (by decide)
    refine Tr.sc [(0, r12)] rfl ?_
    refine Tr.if_eq (pc := 15) (tgt := 38) d_X5_plainFact_15 rfl (fun c15 => ?_) (fun c15 => ?_)
    · refine Tr.iconst (pc := 38) d_X5_plainFact_38 (by decide) ?_
      exact Tr.zret (pc := 39) d_X5_plainFact_39 rfl (by omega) ⟨hS, _, rfl, by omega, by omega, fun hq => absurd hq (by omega)⟩
    · refine Tr.aload_n (pc := 18) (i := 0) d_X5_plainFact_18 rfl rfl ?_
      refine Tr.callV (pc := 19) (as := []) d_X5_plainFact_19 s_5_177 ok_X5_test rfl rfl (Nat.le_of_ble_eq_true rfl) (Nat.le_of_ble_eq_true rfl) (by decide) (ty_6 hS.1.1) ?_
      refine Tr.imp (Tr.deep (by decide) (sp_X5_test_6_w17 hS.1 hE ((St.kp hS (by decide) (by decide) (by decide)).trans en_6_2) ((St.kp hS (by decide) (by decide) (by decide)).trans en_6_3) ((St.kp hS (by decide) (by decide) (by decide)).trans en_6_4) (x12_6_6 (by omega)))) ?_
      rintro M19 _ ⟨h19, r19, rfl, lr19, ur19⟩
      have hS := St.tr hS h19 (by decide) (by decide)
      refine Tr.sc [(0, r19)] rfl ?_
      refine Tr.if_eq (pc := 22) (tgt := 38) d_X5_plainFact_22 rfl (fun c22 => ?_) (fun c22 => ?_)
      · refine Tr.iconst (pc := 38) d_X5_plainFact_38 (by decide) ?_
        exact Tr.zret (pc := 39) d_X5_plainFact_39 rfl (by omega) ⟨hS, _, rfl, by omega, by omega, fun hq => absurd hq (by omega)⟩
      · refine Tr.aload_n (pc := 25) (i := 0) d_X5_plainFact_25 rfl rfl ?_
        refine Tr.bipush (pc := 26) d_X5_plainFact_26 rfl (by decide) ?_
        refine Tr.callV (pc := 28) (as := [_]) d_X5_plainFact_28 s_5_209 ok_X5_takeClosing rfl rfl (Nat.le_of_ble_eq_true rfl) (Nat.le_of_ble_eq_true rfl) (by decide) (ty_6 hS.1.1) ?_
        refine Tr.imp (Tr.deep (by decide) (sp_X5_takeClosing_6_w8 hS.1 ((St.kp hS (by decide) (by decide) (by decide)).trans en_6_2) ((St.kp h19 (by decide) (by decide) (by decide)).trans (x12_6_6 (by omega))) 93 (by omega))) ?_
        rintro M28 _ ⟨h28, r28, rfl, lr28, ur28, x28_6_6⟩
        have hS := St.tr hS h28 (by decide) (by decide)
        refine Tr.sc [(0, r28)] rfl ?_
        refine Tr.if_eq (pc := 31) (tgt := 38) d_X5_plainFact_31 rfl (fun c31 => ?_) (fun c31 => ?_)
        · refine Tr.iconst (pc := 38) d_X5_plainFact_38 (by decide) ?_
          exact Tr.zret (pc := 39) d_X5_plainFact_39 rfl (by omega) ⟨hS, _, rfl, by omega, by omega, fun hq => absurd hq (by omega)⟩
        · refine Tr.iconst (pc := 34) d_X5_plainFact_34 (by decide) ?_
          refine Tr.goto (pc := 35) (tgt := 39) d_X5_plainFact_35 rfl ?_
          exact Tr.zret (pc := 39) d_X5_plainFact_39 rfl (by omega) ⟨hS, _, rfl, by omega, by omega, fun _ => (x28_6_6 (by omega))⟩

def ws_X5_fact_6_w16 : List (Int × Int) := [(6, 0), (6, 1), (6, 5), (6, 6), (15, 11)]
def as_X5_fact_6_w16 : List Int := [24, 25]
def q_X5_fact_6_w16 (M0 M' : Mem) (r : Option PV) : Prop := St Tru ws_X5_fact_6_w16 as_X5_fact_6_w16 M0 M' ∧ ∃ v : Int, r = some (0, v) ∧ 0 ≤ v ∧ v ≤ 1 ∧ ((1 ≤ v ∧ v ≤ 1) → rd M' 6 6 = 7)
set_option maxRecDepth 100000 in
set_option maxHeartbeats 4000000 in
theorem sp_X5_fact_6_w16 {l : Launch} {K : EC} {M0 : Mem} {xq : Int} (hI : In Tru M0) (hE : e_all K xq) (en_6_2 : rd M0 6 2 = 2) (en_6_3 : rd M0 6 3 = 7) (en_6_4 : rd M0 6 4 = 15) (en_6_6 : rd M0 6 6 = 7)   : Tr l K 11 mX5_fact 0 [(0, (2, 6))] [] M0 (q_X5_fact_6_w16 M0) := by
  have hS : St Tru ws_X5_fact_6_w16 as_X5_fact_6_w16 M0 M0 := St.rf hI
  refine Tr.iconst (pc := 0) d_X5_fact_0 (by decide) ?_
  refine Tr.istore_n (pc := 1) (i := 1) (ls2 := [(1, (0, 0)), (0, (2, 6))]) d_X5_fact_1 rfl (by decide) rfl ?_
  refine Tr.iconst (pc := 2) d_X5_fact_2 (by decide) ?_
  refine Tr.istore_n (pc := 3) (i := 2) (ls2 := [(2, (0, 0)), (1, (0, 0)), (0, (2, 6))]) d_X5_fact_3 rfl (by decide) rfl ?_
  have J4 : ∀ (n4 : Nat) (M : Mem) (p4_1 p4_2 : Int), St Tru ws_X5_fact_6_w16 as_X5_fact_6_w16 M0 M → (0 ≤ p4_1 ∧ p4_1 ≤ 1) → (0 ≤ p4_2 ∧ p4_2 ≤ 900) → rd M 6 6 = 7 → (900 - p4_2).toNat < n4 → Tr l K 11 mX5_fact 4 [(0, (2, 6)), (1, (0, p4_1)), (2, (0, p4_2))] [] M (q_X5_fact_6_w16 M0) := by
    intro n4
    induction n4 with
    | zero => intro M p4_1 p4_2 hS bp4_1 bp4_2 k4_6_6 hm4; exact absurd hm4 (Nat.not_lt_zero _)
    | succ n4 J4 =>
      intro M p4_1 p4_2 hS bp4_1 bp4_2 k4_6_6 hm4
      refine Tr.iload_n (pc := 4) (i := 2) d_X5_fact_4 rfl rfl ?_
      refine Tr.sipush (pc := 5) d_X5_fact_5 rfl (by decide) ?_
      have J41 : ∀ (M : Mem), St Tru ws_X5_fact_6_w16 as_X5_fact_6_w16 M0 M → rd M 6 6 = 7 → Tr l K 11 mX5_fact 41 [(0, (2, 6)), (1, (0, p4_1))] [] M (q_X5_fact_6_w16 M0) := by
        intro M  hS  k41_6_6
        refine Tr.aload_n (pc := 41) (i := 0) d_X5_fact_41 rfl rfl ?_
        refine Tr.callV (pc := 42) (as := []) d_X5_fact_42 s_5_221 ok_X5_plainFact rfl rfl (Nat.le_of_ble_eq_true rfl) (Nat.le_of_ble_eq_true rfl) (by decide) (ty_6 hS.1.1) ?_
        refine Tr.imp (Tr.deep (by decide) (sp_X5_plainFact_6_w16 hS.1 hE ((St.kp hS (by decide) (by decide) (by decide)).trans en_6_2) ((St.kp hS (by decide) (by decide) (by decide)).trans en_6_3) ((St.kp hS (by decide) (by decide) (by decide)).trans en_6_4) k41_6_6)) ?_
        rintro M42 _ ⟨h42, r42, rfl, lr42, ur42, x42_6_6⟩
        have hS := St.tr hS h42 (by decide) (by decide)
        refine Tr.sc [(0, r42)] rfl ?_
        refine Tr.istore_n (pc := 45) (i := 2) (ls2 := [(2, (0, r42)), (0, (2, 6)), (1, (0, p4_1))]) d_X5_fact_45 rfl (by decide) rfl ?_
        refine Tr.iload_n (pc := 46) (i := 1) d_X5_fact_46 rfl rfl ?_
        refine Tr.if_eq (pc := 47) (tgt := 59) d_X5_fact_47 rfl (fun c47 => ?_) (fun c47 => ?_)
        · refine Tr.iload_n (pc := 59) (i := 2) d_X5_fact_59 rfl rfl ?_
          exact Tr.zret (pc := 60) d_X5_fact_60 rfl (by omega) ⟨hS, _, rfl, by omega, by omega, fun hq => (x42_6_6 (by omega))⟩
        · refine Tr.aload_n (pc := 50) (i := 0) d_X5_fact_50 rfl rfl ?_
          refine Tr.getf (pc := 51) d_X5_fact_51 f_5_32 (by decide) (by decide) (ty_6 hS.1.1) ?_
          refine Tr.tp 15 ((St.kp hS (by decide) (by decide) (by decide)).trans en_6_4) ?_
          refine Tr.iconst (pc := 54) d_X5_fact_54 (by decide) ?_
          refine Tr.iconst (pc := 55) d_X5_fact_55 (by decide) ?_
          refine Tr.callV (pc := 56) (as := [_, _]) d_X5_fact_56 s_5_215 ok_X4_emit rfl rfl (Nat.le_of_ble_eq_true rfl) (Nat.le_of_ble_eq_true rfl) (by decide) (ty_15 hS.1.1) ?_
          refine Tr.imp (Tr.deep (by decide) (sp_X4_emit_15_w7 hS.1.wk 5 (by omega) 0 (by omega) (by omega))) ?_
          rintro M56 _ ⟨h56, rfl⟩
          have hS := St.tr hS h56 (by decide) (by decide)
          refine Tr.sc [] rfl ?_
          refine Tr.iload_n (pc := 59) (i := 2) d_X5_fact_59 rfl rfl ?_
          exact Tr.zret (pc := 60) d_X5_fact_60 rfl (by omega) ⟨hS, _, rfl, by omega, by omega, fun hq => ((St.kp h56 (by decide) (by decide) (by decide)).trans (x42_6_6 (by omega)))⟩
      refine Tr.icmp_ge (pc := 8) (tgt := 41) d_X5_fact_8 rfl (fun c8 => ?_) (fun c8 => ?_)
      · refine Tr.pick [0, 1] (ls2 := [(0, (2, 6)), (1, (0, p4_1))]) rfl ?_
        exact J41 _ hS k4_6_6
      · refine Tr.aload_n (pc := 11) (i := 0) d_X5_fact_11 rfl rfl ?_
        refine Tr.bipush (pc := 12) d_X5_fact_12 rfl (by decide) ?_
        refine Tr.callV (pc := 14) (as := [_]) d_X5_fact_14 s_5_71 ok_X5_isOwn rfl rfl (Nat.le_of_ble_eq_true rfl) (Nat.le_of_ble_eq_true rfl) (by decide) (ty_6 hS.1.1) ?_
        refine Tr.imp (Tr.deep (by decide) (sp_X5_isOwn_6_w4 hS.1 ((St.kp hS (by decide) (by decide) (by decide)).trans en_6_2) 21 (by omega))) ?_
        rintro M14 _ ⟨h14, r14, rfl, lr14, ur14⟩
        have hS := St.tr hS h14 (by decide) (by decide)
        refine Tr.sc [(0, r14)] rfl ?_
        refine Tr.if_eq (pc := 17) (tgt := 41) d_X5_fact_17 rfl (fun c17 => ?_) (fun c17 => ?_)
        · refine Tr.pick [0, 1] (ls2 := [(0, (2, 6)), (1, (0, p4_1))]) rfl ?_
          exact J41 _ hS ((St.kp h14 (by decide) (by decide) (by decide)).trans k4_6_6)
        · refine Tr.aload_n (pc := 20) (i := 0) d_X5_fact_20 rfl rfl ?_
          refine Tr.callV (pc := 21) (as := []) d_X5_fact_21 s_5_74 ok_X5_goOn rfl rfl (Nat.le_of_ble_eq_true rfl) (Nat.le_of_ble_eq_true rfl) (by decide) (ty_6 hS.1.1) ?_
          refine Tr.imp (Tr.deep (by decide) (sp_X5_goOn_6 hS.1 )) ?_
          rintro M21 _ ⟨h21, r21, rfl, lr21, ur21⟩
          have hS := St.tr hS h21 (by decide) (by decide)
          refine Tr.sc [(0, r21)] rfl ?_
          refine Tr.pop (pc := 24) d_X5_fact_24 ne01 ?_
          refine Tr.iload_n (pc := 25) (i := 1) d_X5_fact_25 rfl rfl ?_
          have J34 : ∀ (M : Mem) (q34_0 : Int), St Tru ws_X5_fact_6_w16 as_X5_fact_6_w16 M0 M → (0 ≤ q34_0 ∧ q34_0 ≤ 1) → rd M 6 6 = 7 → Tr l K 11 mX5_fact 34 [(0, (2, 6)), (2, (0, p4_2))] [(0, q34_0)] M (q_X5_fact_6_w16 M0) := by
            intro M q34_0 hS bq34_0 k34_6_6
            refine Tr.istore_n (pc := 34) (i := 1) (ls2 := [(1, (0, q34_0)), (0, (2, 6)), (2, (0, p4_2))]) d_X5_fact_34 rfl (by decide) rfl ?_
            refine Tr.iincV (pc := 35) (n2 := (p4_2 + 1)) (ls2 := [(2, (0, (p4_2 + 1))), (1, (0, q34_0)), (0, (2, 6))]) d_X5_fact_35 rfl (by decide) ((w32_id (by omega)).trans (by omega)) rfl ?_
            refine Tr.goto (pc := 38) (tgt := 4) d_X5_fact_38 rfl ?_
            refine Tr.pick [2, 1, 0] (ls2 := [(0, (2, 6)), (1, (0, q34_0)), (2, (0, (p4_2 + 1)))]) rfl ?_
            exact J4 _ _ _ hS (by omega) (by omega) k34_6_6 (by omega)
          refine Tr.if_ne (pc := 26) (tgt := 33) d_X5_fact_26 rfl (fun c26 => ?_) (fun c26 => ?_)
          · refine Tr.iconst (pc := 33) d_X5_fact_33 (by decide) ?_
            refine Tr.pick [0, 2] (ls2 := [(0, (2, 6)), (2, (0, p4_2))]) rfl ?_
            exact J34 _ _ hS (by omega) ((St.kp h21 (by decide) (by decide) (by decide)).trans ((St.kp h14 (by decide) (by decide) (by decide)).trans k4_6_6))
          · refine Tr.iconst (pc := 29) d_X5_fact_29 (by decide) ?_
            refine Tr.goto (pc := 30) (tgt := 34) d_X5_fact_30 rfl ?_
            refine Tr.pick [0, 2] (ls2 := [(0, (2, 6)), (2, (0, p4_2))]) rfl ?_
            exact J34 _ _ hS (by omega) ((St.kp h21 (by decide) (by decide) (by decide)).trans ((St.kp h14 (by decide) (by decide) (by decide)).trans k4_6_6))
  refine Tr.pick [2, 1, 0] (ls2 := [(0, (2, 6)), (1, (0, 0)), (2, (0, 0))]) rfl ?_
  exact J4 _ _ _ _ hS (by omega) (by omega) en_6_6 (Nat.lt_succ_self _)

def ws_X5_both_6_w16 : List (Int × Int) := [(6, 0), (6, 1), (6, 5), (6, 6), (15, 11)]
def as_X5_both_6_w16 : List Int := [24, 25]
def q_X5_both_6_w16 (M0 M' : Mem) (r : Option PV) : Prop := St Tru ws_X5_both_6_w16 as_X5_both_6_w16 M0 M' ∧ ∃ v : Int, r = some (0, v) ∧ 0 ≤ v ∧ v ≤ 1 ∧ ((1 ≤ v ∧ v ≤ 1) → rd M' 6 6 = 7)
set_option maxRecDepth 100000 in
set_option maxHeartbeats 4000000 in
theorem sp_X5_both_6_w16 {l : Launch} {K : EC} {M0 : Mem} {xq : Int} (hI : In Tru M0) (hE : e_all K xq) (en_6_2 : rd M0 6 2 = 2) (en_6_3 : rd M0 6 3 = 7) (en_6_4 : rd M0 6 4 = 15) (en_6_6 : rd M0 6 6 = 7)   : Tr l K 12 mX5_both 0 [(0, (2, 6))] [] M0 (q_X5_both_6_w16 M0) := by
  have hS : St Tru ws_X5_both_6_w16 as_X5_both_6_w16 M0 M0 := St.rf hI
  refine Tr.aload_n (pc := 0) (i := 0) d_X5_both_0 rfl rfl ?_
  refine Tr.callV (pc := 1) (as := []) d_X5_both_1 s_5_218 ok_X5_fact rfl rfl (Nat.le_of_ble_eq_true rfl) (Nat.le_of_ble_eq_true rfl) (by decide) (ty_6 hS.1.1) ?_
  refine Tr.imp (Tr.deep (by decide) (sp_X5_fact_6_w16 hS.1 hE ((St.kp hS (by decide) (by decide) (by decide)).trans en_6_2) ((St.kp hS (by decide) (by decide) (by decide)).trans en_6_3) ((St.kp hS (by decide) (by decide) (by decide)).trans en_6_4) en_6_6)) ?_
  rintro M1 _ ⟨h1, r1, rfl, lr1, ur1, x1_6_6⟩
  have hS := St.tr hS h1 (by decide) (by decide)
  refine Tr.sc [(0, r1)] rfl ?_
  refine Tr.istore_n (pc := 4) (i := 1) (ls2 := [(1, (0, r1)), (0, (2, 6))]) d_X5_both_4 rfl (by decide) rfl ?_
  refine Tr.iconst (pc := 5) d_X5_both_5 (by decide) ?_
  refine Tr.istore_n (pc := 6) (i := 2) (ls2 := [(2, (0, 0)), (1, (0, r1)), (0, (2, 6))]) d_X5_both_6 rfl (by decide) rfl ?_
  have J7 : ∀ (n7 : Nat) (M : Mem) (p7_1 p7_2 : Int), St Tru ws_X5_both_6_w16 as_X5_both_6_w16 M0 M → (0 ≤ p7_1 ∧ p7_1 ≤ 1) → (0 ≤ p7_2 ∧ p7_2 ≤ 900) → (p7_1 = 1 → rd M 6 6 = 7) → (900 - p7_2).toNat < n7 → Tr l K 12 mX5_both 7 [(0, (2, 6)), (1, (0, p7_1)), (2, (0, p7_2))] [] M (q_X5_both_6_w16 M0) := by
    intro n7
    induction n7 with
    | zero => intro M p7_1 p7_2 hS bp7_1 bp7_2  y7_p7_1_6_60 hm7; exact absurd hm7 (Nat.not_lt_zero _)
    | succ n7 J7 =>
      intro M p7_1 p7_2 hS bp7_1 bp7_2  y7_p7_1_6_60 hm7
      have y7_p7_1_6_6 : 1 ≤ p7_1 ∧ p7_1 ≤ 1 → rd M 6 6 = 7 := fun hq => y7_p7_1_6_60 (by omega)
      refine Tr.iload_n (pc := 7) (i := 2) d_X5_both_7 rfl rfl ?_
      refine Tr.sipush (pc := 8) d_X5_both_8 rfl (by decide) ?_
      refine Tr.icmp_ge (pc := 11) (tgt := 53) d_X5_both_11 rfl (fun c11 => ?_) (fun c11 => ?_)
      · refine Tr.iload_n (pc := 53) (i := 1) d_X5_both_53 rfl rfl ?_
        exact Tr.zret (pc := 54) d_X5_both_54 rfl (by omega) ⟨hS, _, rfl, by omega, by omega, fun hq => (y7_p7_1_6_6 (by omega))⟩
      · refine Tr.iload_n (pc := 14) (i := 1) d_X5_both_14 rfl rfl ?_
        refine Tr.if_eq (pc := 15) (tgt := 53) d_X5_both_15 rfl (fun c15 => ?_) (fun c15 => ?_)
        · refine Tr.iload_n (pc := 53) (i := 1) d_X5_both_53 rfl rfl ?_
          exact Tr.zret (pc := 54) d_X5_both_54 rfl (by omega) ⟨hS, _, rfl, by omega, by omega, fun hq => absurd hq (by omega)⟩
        · refine Tr.aload_n (pc := 18) (i := 0) d_X5_both_18 rfl rfl ?_
          refine Tr.bipush (pc := 19) d_X5_both_19 rfl (by decide) ?_
          refine Tr.callV (pc := 21) (as := [_]) d_X5_both_21 s_5_71 ok_X5_isOwn rfl rfl (Nat.le_of_ble_eq_true rfl) (Nat.le_of_ble_eq_true rfl) (by decide) (ty_6 hS.1.1) ?_
          refine Tr.imp (Tr.deep (by decide) (sp_X5_isOwn_6_w3 hS.1 ((St.kp hS (by decide) (by decide) (by decide)).trans en_6_2) 20 (by omega))) ?_
          rintro M21 _ ⟨h21, r21, rfl, lr21, ur21⟩
          have hS := St.tr hS h21 (by decide) (by decide)
          refine Tr.sc [(0, r21)] rfl ?_
          refine Tr.if_eq (pc := 24) (tgt := 53) d_X5_both_24 rfl (fun c24 => ?_) (fun c24 => ?_)
          · refine Tr.iload_n (pc := 53) (i := 1) d_X5_both_53 rfl rfl ?_
            exact Tr.zret (pc := 54) d_X5_both_54 rfl (by omega) ⟨hS, _, rfl, by omega, by omega, fun _ => ((St.kp h21 (by decide) (by decide) (by decide)).trans (y7_p7_1_6_6 (by omega)))⟩
          · refine Tr.aload_n (pc := 27) (i := 0) d_X5_both_27 rfl rfl ?_
            refine Tr.callV (pc := 28) (as := []) d_X5_both_28 s_5_74 ok_X5_goOn rfl rfl (Nat.le_of_ble_eq_true rfl) (Nat.le_of_ble_eq_true rfl) (by decide) (ty_6 hS.1.1) ?_
            refine Tr.imp (Tr.deep (by decide) (sp_X5_goOn_6 hS.1 )) ?_
            rintro M28 _ ⟨h28, r28, rfl, lr28, ur28⟩
            have hS := St.tr hS h28 (by decide) (by decide)
            refine Tr.sc [(0, r28)] rfl ?_
            refine Tr.pop (pc := 31) d_X5_both_31 ne01 ?_
            refine Tr.aload_n (pc := 32) (i := 0) d_X5_both_32 rfl rfl ?_
            refine Tr.callV (pc := 33) (as := []) d_X5_both_33 s_5_218 ok_X5_fact rfl rfl (Nat.le_of_ble_eq_true rfl) (Nat.le_of_ble_eq_true rfl) (by decide) (ty_6 hS.1.1) ?_
            refine Tr.imp (Tr.deep (by decide) (sp_X5_fact_6_w16 hS.1 hE ((St.kp hS (by decide) (by decide) (by decide)).trans en_6_2) ((St.kp hS (by decide) (by decide) (by decide)).trans en_6_3) ((St.kp hS (by decide) (by decide) (by decide)).trans en_6_4) ((St.kp h28 (by decide) (by decide) (by decide)).trans ((St.kp h21 (by decide) (by decide) (by decide)).trans (y7_p7_1_6_6 (by omega)))))) ?_
            rintro M33 _ ⟨h33, r33, rfl, lr33, ur33, x33_6_6⟩
            have hS := St.tr hS h33 (by decide) (by decide)
            refine Tr.sc [(0, r33)] rfl ?_
            refine Tr.istore_n (pc := 36) (i := 1) (ls2 := [(1, (0, r33)), (0, (2, 6)), (2, (0, p7_2))]) d_X5_both_36 rfl (by decide) rfl ?_
            refine Tr.aload_n (pc := 37) (i := 0) d_X5_both_37 rfl rfl ?_
            refine Tr.getf (pc := 38) d_X5_both_38 f_5_32 (by decide) (by decide) (ty_6 hS.1.1) ?_
            refine Tr.tp 15 ((St.kp hS (by decide) (by decide) (by decide)).trans en_6_4) ?_
            refine Tr.bipush (pc := 41) d_X5_both_41 rfl (by decide) ?_
            refine Tr.iconst (pc := 43) d_X5_both_43 (by decide) ?_
            refine Tr.callV (pc := 44) (as := [_, _]) d_X5_both_44 s_5_215 ok_X4_emit rfl rfl (Nat.le_of_ble_eq_true rfl) (Nat.le_of_ble_eq_true rfl) (by decide) (ty_15 hS.1.1) ?_
            refine Tr.imp (Tr.deep (by decide) (sp_X4_emit_15_w9 hS.1.wk 16 (by omega) 0 (by omega) (by omega))) ?_
            rintro M44 _ ⟨h44, rfl⟩
            have hS := St.tr hS h44 (by decide) (by decide)
            refine Tr.sc [] rfl ?_
            refine Tr.iincV (pc := 47) (n2 := (p7_2 + 1)) (ls2 := [(2, (0, (p7_2 + 1))), (1, (0, r33)), (0, (2, 6))]) d_X5_both_47 rfl (by decide) ((w32_id (by omega)).trans (by omega)) rfl ?_
            refine Tr.goto (pc := 50) (tgt := 7) d_X5_both_50 rfl ?_
            refine Tr.pick [2, 1, 0] (ls2 := [(0, (2, 6)), (1, (0, r33)), (2, (0, (p7_2 + 1)))]) rfl ?_
            exact J7 _ _ _ hS (by omega) (by omega) (fun hq => ((St.kp h44 (by decide) (by decide) (by decide)).trans (x33_6_6 (by omega)))) (by omega)
  refine Tr.pick [2, 1, 0] (ls2 := [(0, (2, 6)), (1, (0, r1)), (2, (0, 0))]) rfl ?_
  exact J7 _ _ _ _ hS (by omega) (by omega) (fun hq => (x1_6_6 (by omega))) (Nat.lt_succ_self _)

def ws_X5_test_6_w16 : List (Int × Int) := [(6, 0), (6, 1), (6, 5), (6, 6), (15, 11)]
def as_X5_test_6_w16 : List Int := [24, 25]
def q_X5_test_6_w16 (M0 M' : Mem) (r : Option PV) : Prop := St Tru ws_X5_test_6_w16 as_X5_test_6_w16 M0 M' ∧ ∃ v : Int, r = some (0, v) ∧ 0 ≤ v ∧ v ≤ 1 ∧ ((1 ≤ v ∧ v ≤ 1) → rd M' 6 6 = 7)
set_option maxRecDepth 100000 in
set_option maxHeartbeats 4000000 in
theorem sp_X5_test_6_w16 {l : Launch} {K : EC} {M0 : Mem} {xq : Int} (hI : In Tru M0) (hE : e_all K xq) (en_6_2 : rd M0 6 2 = 2) (en_6_3 : rd M0 6 3 = 7) (en_6_4 : rd M0 6 4 = 15) (en_6_6 : rd M0 6 6 = 7)   : Tr l K 13 mX5_test 0 [(0, (2, 6))] [] M0 (q_X5_test_6_w16 M0) := by
  have hS : St Tru ws_X5_test_6_w16 as_X5_test_6_w16 M0 M0 := St.rf hI
  refine Tr.aload_n (pc := 0) (i := 0) d_X5_test_0 rfl rfl ?_
  refine Tr.callV (pc := 1) (as := []) d_X5_test_1 s_5_212 ok_X5_both rfl rfl (Nat.le_of_ble_eq_true rfl) (Nat.le_of_ble_eq_true rfl) (by decide) (ty_6 hS.1.1) ?_
  refine Tr.imp (Tr.deep (by decide) (sp_X5_both_6_w16 hS.1 hE ((St.kp hS (by decide) (by decide) (by decide)).trans en_6_2) ((St.kp hS (by decide) (by decide) (by decide)).trans en_6_3) ((St.kp hS (by decide) (by decide) (by decide)).trans en_6_4) en_6_6)) ?_
  rintro M1 _ ⟨h1, r1, rfl, lr1, ur1, x1_6_6⟩
  have hS := St.tr hS h1 (by decide) (by decide)
  refine Tr.sc [(0, r1)] rfl ?_
  refine Tr.istore_n (pc := 4) (i := 1) (ls2 := [(1, (0, r1)), (0, (2, 6))]) d_X5_test_4 rfl (by decide) rfl ?_
  refine Tr.iconst (pc := 5) d_X5_test_5 (by decide) ?_
  refine Tr.istore_n (pc := 6) (i := 2) (ls2 := [(2, (0, 0)), (1, (0, r1)), (0, (2, 6))]) d_X5_test_6 rfl (by decide) rfl ?_
  have J7 : ∀ (n7 : Nat) (M : Mem) (p7_1 p7_2 : Int), St Tru ws_X5_test_6_w16 as_X5_test_6_w16 M0 M → (0 ≤ p7_1 ∧ p7_1 ≤ 1) → (0 ≤ p7_2 ∧ p7_2 ≤ 900) → (p7_1 = 1 → rd M 6 6 = 7) → (900 - p7_2).toNat < n7 → Tr l K 13 mX5_test 7 [(0, (2, 6)), (1, (0, p7_1)), (2, (0, p7_2))] [] M (q_X5_test_6_w16 M0) := by
    intro n7
    induction n7 with
    | zero => intro M p7_1 p7_2 hS bp7_1 bp7_2  y7_p7_1_6_60 hm7; exact absurd hm7 (Nat.not_lt_zero _)
    | succ n7 J7 =>
      intro M p7_1 p7_2 hS bp7_1 bp7_2  y7_p7_1_6_60 hm7
      have y7_p7_1_6_6 : 1 ≤ p7_1 ∧ p7_1 ≤ 1 → rd M 6 6 = 7 := fun hq => y7_p7_1_6_60 (by omega)
      refine Tr.iload_n (pc := 7) (i := 2) d_X5_test_7 rfl rfl ?_
      refine Tr.sipush (pc := 8) d_X5_test_8 rfl (by decide) ?_
      refine Tr.icmp_ge (pc := 11) (tgt := 53) d_X5_test_11 rfl (fun c11 => ?_) (fun c11 => ?_)
      · refine Tr.iload_n (pc := 53) (i := 1) d_X5_test_53 rfl rfl ?_
        exact Tr.zret (pc := 54) d_X5_test_54 rfl (by omega) ⟨hS, _, rfl, by omega, by omega, fun hq => (y7_p7_1_6_6 (by omega))⟩
      · refine Tr.iload_n (pc := 14) (i := 1) d_X5_test_14 rfl rfl ?_
        refine Tr.if_eq (pc := 15) (tgt := 53) d_X5_test_15 rfl (fun c15 => ?_) (fun c15 => ?_)
        · refine Tr.iload_n (pc := 53) (i := 1) d_X5_test_53 rfl rfl ?_
          exact Tr.zret (pc := 54) d_X5_test_54 rfl (by omega) ⟨hS, _, rfl, by omega, by omega, fun hq => absurd hq (by omega)⟩
        · refine Tr.aload_n (pc := 18) (i := 0) d_X5_test_18 rfl rfl ?_
          refine Tr.bipush (pc := 19) d_X5_test_19 rfl (by decide) ?_
          refine Tr.callV (pc := 21) (as := [_]) d_X5_test_21 s_5_71 ok_X5_isOwn rfl rfl (Nat.le_of_ble_eq_true rfl) (Nat.le_of_ble_eq_true rfl) (by decide) (ty_6 hS.1.1) ?_
          refine Tr.imp (Tr.deep (by decide) (sp_X5_isOwn_6_w3 hS.1 ((St.kp hS (by decide) (by decide) (by decide)).trans en_6_2) 19 (by omega))) ?_
          rintro M21 _ ⟨h21, r21, rfl, lr21, ur21⟩
          have hS := St.tr hS h21 (by decide) (by decide)
          refine Tr.sc [(0, r21)] rfl ?_
          refine Tr.if_eq (pc := 24) (tgt := 53) d_X5_test_24 rfl (fun c24 => ?_) (fun c24 => ?_)
          · refine Tr.iload_n (pc := 53) (i := 1) d_X5_test_53 rfl rfl ?_
            exact Tr.zret (pc := 54) d_X5_test_54 rfl (by omega) ⟨hS, _, rfl, by omega, by omega, fun _ => ((St.kp h21 (by decide) (by decide) (by decide)).trans (y7_p7_1_6_6 (by omega)))⟩
          · refine Tr.aload_n (pc := 27) (i := 0) d_X5_test_27 rfl rfl ?_
            refine Tr.callV (pc := 28) (as := []) d_X5_test_28 s_5_74 ok_X5_goOn rfl rfl (Nat.le_of_ble_eq_true rfl) (Nat.le_of_ble_eq_true rfl) (by decide) (ty_6 hS.1.1) ?_
            refine Tr.imp (Tr.deep (by decide) (sp_X5_goOn_6 hS.1 )) ?_
            rintro M28 _ ⟨h28, r28, rfl, lr28, ur28⟩
            have hS := St.tr hS h28 (by decide) (by decide)
            refine Tr.sc [(0, r28)] rfl ?_
            refine Tr.pop (pc := 31) d_X5_test_31 ne01 ?_
            refine Tr.aload_n (pc := 32) (i := 0) d_X5_test_32 rfl rfl ?_
            refine Tr.callV (pc := 33) (as := []) d_X5_test_33 s_5_212 ok_X5_both rfl rfl (Nat.le_of_ble_eq_true rfl) (Nat.le_of_ble_eq_true rfl) (by decide) (ty_6 hS.1.1) ?_
            refine Tr.imp (Tr.deep (by decide) (sp_X5_both_6_w16 hS.1 hE ((St.kp hS (by decide) (by decide) (by decide)).trans en_6_2) ((St.kp hS (by decide) (by decide) (by decide)).trans en_6_3) ((St.kp hS (by decide) (by decide) (by decide)).trans en_6_4) ((St.kp h28 (by decide) (by decide) (by decide)).trans ((St.kp h21 (by decide) (by decide) (by decide)).trans (y7_p7_1_6_6 (by omega)))))) ?_
            rintro M33 _ ⟨h33, r33, rfl, lr33, ur33, x33_6_6⟩
            have hS := St.tr hS h33 (by decide) (by decide)
            refine Tr.sc [(0, r33)] rfl ?_
            refine Tr.istore_n (pc := 36) (i := 1) (ls2 := [(1, (0, r33)), (0, (2, 6)), (2, (0, p7_2))]) d_X5_test_36 rfl (by decide) rfl ?_
            refine Tr.aload_n (pc := 37) (i := 0) d_X5_test_37 rfl rfl ?_
            refine Tr.getf (pc := 38) d_X5_test_38 f_5_32 (by decide) (by decide) (ty_6 hS.1.1) ?_
            refine Tr.tp 15 ((St.kp hS (by decide) (by decide) (by decide)).trans en_6_4) ?_
            refine Tr.bipush (pc := 41) d_X5_test_41 rfl (by decide) ?_
            refine Tr.iconst (pc := 43) d_X5_test_43 (by decide) ?_
            refine Tr.callV (pc := 44) (as := [_, _]) d_X5_test_44 s_5_215 ok_X4_emit rfl rfl (Nat.le_of_ble_eq_true rfl) (Nat.le_of_ble_eq_true rfl) (by decide) (ty_15 hS.1.1) ?_
            refine Tr.imp (Tr.deep (by decide) (sp_X4_emit_15_w10 hS.1.wk 17 (by omega) 0 (by omega) (by omega))) ?_
            rintro M44 _ ⟨h44, rfl⟩
            have hS := St.tr hS h44 (by decide) (by decide)
            refine Tr.sc [] rfl ?_
            refine Tr.iincV (pc := 47) (n2 := (p7_2 + 1)) (ls2 := [(2, (0, (p7_2 + 1))), (1, (0, r33)), (0, (2, 6))]) d_X5_test_47 rfl (by decide) ((w32_id (by omega)).trans (by omega)) rfl ?_
            refine Tr.goto (pc := 50) (tgt := 7) d_X5_test_50 rfl ?_
            refine Tr.pick [2, 1, 0] (ls2 := [(0, (2, 6)), (1, (0, r33)), (2, (0, (p7_2 + 1)))]) rfl ?_
            exact J7 _ _ _ hS (by omega) (by omega) (fun hq => ((St.kp h44 (by decide) (by decide) (by decide)).trans (x33_6_6 (by omega)))) (by omega)
  refine Tr.pick [2, 1, 0] (ls2 := [(0, (2, 6)), (1, (0, r1)), (2, (0, 0))]) rfl ?_
  exact J7 _ _ _ _ hS (by omega) (by omega) (fun hq => (x1_6_6 (by omega))) (Nat.lt_succ_self _)

def ws_X5_plainFact_6_w15 : List (Int × Int) := [(6, 0), (6, 1), (6, 5), (6, 6), (15, 11)]
def as_X5_plainFact_6_w15 : List Int := [24, 25]
def q_X5_plainFact_6_w15 (M0 M' : Mem) (r : Option PV) : Prop := St Tru ws_X5_plainFact_6_w15 as_X5_plainFact_6_w15 M0 M' ∧ ∃ v : Int, r = some (0, v) ∧ 0 ≤ v ∧ v ≤ 1 ∧ ((1 ≤ v ∧ v ≤ 1) → rd M' 6 6 = 6)
set_option maxRecDepth 100000 in
set_option maxHeartbeats 4000000 in
theorem sp_X5_plainFact_6_w15 {l : Launch} {K : EC} {M0 : Mem} {xq : Int} (hI : In Tru M0) (hE : e_all K xq) (en_6_2 : rd M0 6 2 = 2) (en_6_3 : rd M0 6 3 = 7) (en_6_4 : rd M0 6 4 = 15) (en_6_6 : rd M0 6 6 = 6)   : Tr l K 14 mX5_plainFact 0 [(0, (2, 6))] [] M0 (q_X5_plainFact_6_w15 M0) := by
  have hS : St Tru ws_X5_plainFact_6_w15 as_X5_plainFact_6_w15 M0 M0 := St.rf hI
  refine Tr.aload_n (pc := 0) (i := 0) d_X5_plainFact_0 rfl rfl ?_
  refine Tr.bipush (pc := 1) d_X5_plainFact_1 rfl (by decide) ?_
  refine Tr.callV (pc := 3) (as := [_]) d_X5_plainFact_3 s_5_77 ok_X5_isSign rfl rfl (Nat.le_of_ble_eq_true rfl) (Nat.le_of_ble_eq_true rfl) (by decide) (ty_6 hS.1.1) ?_
  refine Tr.imp (Tr.deep (by decide) (sp_X5_isSign_6_w1 hS.1 ((St.kp hS (by decide) (by decide) (by decide)).trans en_6_2) 91 (by omega))) ?_
  rintro M3 _ ⟨h3, r3, rfl, lr3, ur3⟩
  have hS := St.tr hS h3 (by decide) (by decide)
  refine Tr.sc [(0, r3)] rfl ?_
  refine Tr.if_eq (pc := 6) (tgt := 40) d_X5_plainFact_6 rfl (fun c6 => ?_) (fun c6 => ?_)
  · refine Tr.aload_n (pc := 40) (i := 0) d_X5_plainFact_40 rfl rfl ?_
    refine Tr.bipush (pc := 41) d_X5_plainFact_41 rfl (by decide) ?_
    refine Tr.callV (pc := 43) (as := [_]) d_X5_plainFact_43 s_5_71 ok_X5_isOwn rfl rfl (Nat.le_of_ble_eq_true rfl) (Nat.le_of_ble_eq_true rfl) (by decide) (ty_6 hS.1.1) ?_
    refine Tr.imp (Tr.deep (by decide) (sp_X5_isOwn_6_w4 hS.1 ((St.kp hS (by decide) (by decide) (by decide)).trans en_6_2) 22 (by omega))) ?_
    rintro M43 _ ⟨h43, r43, rfl, lr43, ur43⟩
    have hS := St.tr hS h43 (by decide) (by decide)
    refine Tr.sc [(0, r43)] rfl ?_
    refine Tr.if_eq (pc := 46) (tgt := 63) d_X5_plainFact_46 rfl (fun c46 => ?_) (fun c46 => ?_)
    · refine Tr.aload_n (pc := 63) (i := 0) d_X5_plainFact_63 rfl rfl ?_
      refine Tr.bipush (pc := 64) d_X5_plainFact_64 rfl (by decide) ?_
      refine Tr.callV (pc := 66) (as := [_]) d_X5_plainFact_66 s_5_71 ok_X5_isOwn rfl rfl (Nat.le_of_ble_eq_true rfl) (Nat.le_of_ble_eq_true rfl) (by decide) (ty_6 hS.1.1) ?_
      refine Tr.imp (Tr.deep (by decide) (sp_X5_isOwn_6_w4 hS.1 ((St.kp hS (by decide) (by decide) (by decide)).trans en_6_2) 23 (by omega))) ?_
      rintro M66 _ ⟨h66, r66, rfl, lr66, ur66⟩
      have hS := St.tr hS h66 (by decide) (by decide)
      refine Tr.sc [(0, r66)] rfl ?_
      refine Tr.if_eq (pc := 69) (tgt := 106) d_X5_plainFact_69 rfl (fun c69 => ?_) (fun c69 => ?_)
      · refine Tr.aload_n (pc := 106) (i := 0) d_X5_plainFact_106 rfl rfl ?_
        refine Tr.callV (pc := 107) (as := []) d_X5_plainFact_107 s_5_174 ok_X5_sum rfl rfl (Nat.le_of_ble_eq_true rfl) (Nat.le_of_ble_eq_true rfl) (by decide) (ty_6 hS.1.1) ?_
        refine Tr.imp (Tr.deep (by decide) (sp_X5_sum_6_w15 hS.1 hE ((St.kp hS (by decide) (by decide) (by decide)).trans en_6_2) ((St.kp hS (by decide) (by decide) (by decide)).trans en_6_3) ((St.kp hS (by decide) (by decide) (by decide)).trans en_6_4) ((St.kp h66 (by decide) (by decide) (by decide)).trans ((St.kp h43 (by decide) (by decide) (by decide)).trans ((St.kp h3 (by decide) (by decide) (by decide)).trans en_6_6))))) ?_
        rintro M107 _ ⟨h107, r107, rfl, lr107, ur107, x107_6_6⟩
        have hS := St.tr hS h107 (by decide) (by decide)
        refine Tr.sc [(0, r107)] rfl ?_
        refine Tr.if_ne (pc := 110) (tgt := 115) d_X5_plainFact_110 rfl (fun c110 => ?_) (fun c110 => ?_)
        · refine Tr.aload_n (pc := 115) (i := 0) d_X5_plainFact_115 rfl rfl ?_
          refine Tr.bipush (pc := 116) d_X5_plainFact_116 rfl (by decide) ?_
          refine Tr.callV (pc := 118) (as := [_]) d_X5_plainFact_118 s_5_77 ok_X5_isSign rfl rfl (Nat.le_of_ble_eq_true rfl) (Nat.le_of_ble_eq_true rfl) (by decide) (ty_6 hS.1.1) ?_
          refine Tr.imp (Tr.deep (by decide) (sp_X5_isSign_6_w3 hS.1 ((St.kp hS (by decide) (by decide) (by decide)).trans en_6_2) 60 (by omega))) ?_
          rintro M118 _ ⟨h118, r118, rfl, lr118, ur118⟩
          have hS := St.tr hS h118 (by decide) (by decide)
          refine Tr.sc [(0, r118)] rfl ?_
          have J158 : ∀ (M : Mem) (q158_0 : Int), St Tru ws_X5_plainFact_6_w15 as_X5_plainFact_6_w15 M0 M → ((-1) ≤ q158_0 ∧ q158_0 ≤ 15) → rd M 6 6 = 6 → Tr l K 14 mX5_plainFact 158 [(0, (2, 6))] [(0, q158_0)] M (q_X5_plainFact_6_w15 M0) := by
            intro M q158_0 hS bq158_0 k158_6_6
            refine Tr.istore_n (pc := 158) (i := 1) (ls2 := [(1, (0, q158_0)), (0, (2, 6))]) d_X5_plainFact_158 rfl (by decide) rfl ?_
            refine Tr.iload_n (pc := 159) (i := 1) d_X5_plainFact_159 rfl rfl ?_
            refine Tr.if_ge (pc := 160) (tgt := 169) d_X5_plainFact_160 rfl (fun c160 => ?_) (fun c160 => ?_)
            · refine Tr.aload_n (pc := 169) (i := 0) d_X5_plainFact_169 rfl rfl ?_
              refine Tr.callV (pc := 170) (as := []) d_X5_plainFact_170 s_5_74 ok_X5_goOn rfl rfl (Nat.le_of_ble_eq_true rfl) (Nat.le_of_ble_eq_true rfl) (by decide) (ty_6 hS.1.1) ?_
              refine Tr.imp (Tr.deep (by decide) (sp_X5_goOn_6 hS.1 )) ?_
              rintro M170 _ ⟨h170, r170, rfl, lr170, ur170⟩
              have hS := St.tr hS h170 (by decide) (by decide)
              refine Tr.sc [(0, r170)] rfl ?_
              refine Tr.pop (pc := 173) d_X5_plainFact_173 ne01 ?_
              refine Tr.aload_n (pc := 174) (i := 0) d_X5_plainFact_174 rfl rfl ?_
              refine Tr.callV (pc := 175) (as := []) d_X5_plainFact_175 s_5_174 ok_X5_sum rfl rfl (Nat.le_of_ble_eq_true rfl) (Nat.le_of_ble_eq_true rfl) (by decide) (ty_6 hS.1.1) ?_
              refine Tr.imp (Tr.deep (by decide) (sp_X5_sum_6_w15 hS.1 hE ((St.kp hS (by decide) (by decide) (by decide)).trans en_6_2) ((St.kp hS (by decide) (by decide) (by decide)).trans en_6_3) ((St.kp hS (by decide) (by decide) (by decide)).trans en_6_4) ((St.kp h170 (by decide) (by decide) (by decide)).trans k158_6_6))) ?_
              rintro M175 _ ⟨h175, r175, rfl, lr175, ur175, x175_6_6⟩
              have hS := St.tr hS h175 (by decide) (by decide)
              refine Tr.sc [(0, r175)] rfl ?_
              refine Tr.istore_n (pc := 178) (i := 2) (ls2 := [(2, (0, r175)), (1, (0, q158_0)), (0, (2, 6))]) d_X5_plainFact_178 rfl (by decide) rfl ?_
              refine Tr.aload_n (pc := 179) (i := 0) d_X5_plainFact_179 rfl rfl ?_
              refine Tr.getf (pc := 180) d_X5_plainFact_180 f_5_32 (by decide) (by decide) (ty_6 hS.1.1) ?_
              refine Tr.tp 15 ((St.kp hS (by decide) (by decide) (by decide)).trans en_6_4) ?_
              refine Tr.iload_n (pc := 183) (i := 1) d_X5_plainFact_183 rfl rfl ?_
              refine Tr.iconst (pc := 184) d_X5_plainFact_184 (by decide) ?_
              refine Tr.callV (pc := 185) (as := [_, _]) d_X5_plainFact_185 s_5_215 ok_X4_emit rfl rfl (Nat.le_of_ble_eq_true rfl) (Nat.le_of_ble_eq_true rfl) (by decide) (ty_15 hS.1.1) ?_
              refine Tr.imp (Tr.deep (by decide) (sp_X4_emit_15_w8 hS.1.wk q158_0 (by omega) 0 (by omega) (by omega))) ?_
              rintro M185 _ ⟨h185, rfl⟩
              have hS := St.tr hS h185 (by decide) (by decide)
              refine Tr.sc [] rfl ?_
              refine Tr.iload_n (pc := 188) (i := 2) d_X5_plainFact_188 rfl rfl ?_
              exact Tr.zret (pc := 189) d_X5_plainFact_189 rfl (by omega) ⟨hS, _, rfl, by omega, by omega, fun hq => ((St.kp h185 (by decide) (by decide) (by decide)).trans (x175_6_6 (by omega)))⟩
            · refine Tr.aload_n (pc := 163) (i := 0) d_X5_plainFact_163 rfl rfl ?_
              refine Tr.iconst (pc := 164) d_X5_plainFact_164 (by decide) ?_
              refine Tr.callV (pc := 165) (as := [_]) d_X5_plainFact_165 s_5_56 ok_X5_refuse rfl rfl (Nat.le_of_ble_eq_true rfl) (Nat.le_of_ble_eq_true rfl) (by decide) (ty_6 hS.1.1) ?_
              refine Tr.imp (Tr.deep (by decide) (sp_X5_refuse_6_w1 hS.1 ((St.kp hS (by decide) (by decide) (by decide)).trans en_6_2) 1 (by omega))) ?_
              rintro M165 _ ⟨h165, r165, rfl, lr165, ur165⟩
              have hS := St.tr hS h165 (by decide) (by decide)
              refine Tr.sc [(0, r165)] rfl ?_
              exact Tr.zret (pc := 168) d_X5_plainFact_168 rfl (by omega) ⟨hS, _, rfl, by omega, by omega, fun hq => absurd hq (by omega)⟩
          refine Tr.if_eq (pc := 121) (tgt := 129) d_X5_plainFact_121 rfl (fun c121 => ?_) (fun c121 => ?_)
          · refine Tr.aload_n (pc := 129) (i := 0) d_X5_plainFact_129 rfl rfl ?_
            refine Tr.bipush (pc := 130) d_X5_plainFact_130 rfl (by decide) ?_
            refine Tr.callV (pc := 132) (as := [_]) d_X5_plainFact_132 s_5_77 ok_X5_isSign rfl rfl (Nat.le_of_ble_eq_true rfl) (Nat.le_of_ble_eq_true rfl) (by decide) (ty_6 hS.1.1) ?_
            refine Tr.imp (Tr.deep (by decide) (sp_X5_isSign_6_w4 hS.1 ((St.kp hS (by decide) (by decide) (by decide)).trans en_6_2) 62 (by omega))) ?_
            rintro M132 _ ⟨h132, r132, rfl, lr132, ur132⟩
            have hS := St.tr hS h132 (by decide) (by decide)
            refine Tr.sc [(0, r132)] rfl ?_
            refine Tr.if_eq (pc := 135) (tgt := 143) d_X5_plainFact_135 rfl (fun c135 => ?_) (fun c135 => ?_)
            · refine Tr.aload_n (pc := 143) (i := 0) d_X5_plainFact_143 rfl rfl ?_
              refine Tr.bipush (pc := 144) d_X5_plainFact_144 rfl (by decide) ?_
              refine Tr.callV (pc := 146) (as := [_]) d_X5_plainFact_146 s_5_77 ok_X5_isSign rfl rfl (Nat.le_of_ble_eq_true rfl) (Nat.le_of_ble_eq_true rfl) (by decide) (ty_6 hS.1.1) ?_
              refine Tr.imp (Tr.deep (by decide) (sp_X5_isSign_6_w4 hS.1 ((St.kp hS (by decide) (by decide) (by decide)).trans en_6_2) 61 (by omega))) ?_
              rintro M146 _ ⟨h146, r146, rfl, lr146, ur146⟩
              have hS := St.tr hS h146 (by decide) (by decide)
              refine Tr.sc [(0, r146)] rfl ?_
              refine Tr.if_eq (pc := 149) (tgt := 157) d_X5_plainFact_149 rfl (fun c149 => ?_) (fun c149 => ?_)
              · refine Tr.iconst (pc := 157) d_X5_plainFact_157 (by decide) ?_
                refine Tr.pick [0] (ls2 := [(0, (2, 6))]) rfl ?_
                exact J158 _ _ hS (by omega) ((St.kp h146 (by decide) (by decide) (by decide)).trans ((St.kp h132 (by decide) (by decide) (by decide)).trans ((St.kp h118 (by decide) (by decide) (by decide)).trans (x107_6_6 (by omega)))))
              · refine Tr.bipush (pc := 152) d_X5_plainFact_152 rfl (by decide) ?_
                refine Tr.goto (pc := 154) (tgt := 158) d_X5_plainFact_154 rfl ?_
                refine Tr.pick [0] (ls2 := [(0, (2, 6))]) rfl ?_
                exact J158 _ _ hS (by omega) ((St.kp h146 (by decide) (by decide) (by decide)).trans ((St.kp h132 (by decide) (by decide) (by decide)).trans ((St.kp h118 (by decide) (by decide) (by decide)).trans (x107_6_6 (by omega)))))
            · refine Tr.bipush (pc := 138) d_X5_plainFact_138 rfl (by decide) ?_
              refine Tr.goto (pc := 140) (tgt := 158) d_X5_plainFact_140 rfl ?_
              refine Tr.pick [0] (ls2 := [(0, (2, 6))]) rfl ?_
              exact J158 _ _ hS (by omega) ((St.kp h132 (by decide) (by decide) (by decide)).trans ((St.kp h118 (by decide) (by decide) (by decide)).trans (x107_6_6 (by omega))))
          · refine Tr.bipush (pc := 124) d_X5_plainFact_124 rfl (by decide) ?_
            refine Tr.goto (pc := 126) (tgt := 158) d_X5_plainFact_126 rfl ?_
            refine Tr.pick [0] (ls2 := [(0, (2, 6))]) rfl ?_
            exact J158 _ _ hS (by omega) ((St.kp h118 (by decide) (by decide) (by decide)).trans (x107_6_6 (by omega)))
        · refine Tr.iconst (pc := 113) d_X5_plainFact_113 (by decide) ?_
          exact Tr.zret (pc := 114) d_X5_plainFact_114 rfl (by omega) ⟨hS, _, rfl, by omega, by omega, fun hq => absurd hq (by omega)⟩
      · refine Tr.aload_n (pc := 72) (i := 0) d_X5_plainFact_72 rfl rfl ?_
        refine Tr.callV (pc := 73) (as := []) d_X5_plainFact_73 s_5_74 ok_X5_goOn rfl rfl (Nat.le_of_ble_eq_true rfl) (Nat.le_of_ble_eq_true rfl) (by decide) (ty_6 hS.1.1) ?_
        refine Tr.imp (Tr.deep (by decide) (sp_X5_goOn_6 hS.1 )) ?_
        rintro M73 _ ⟨h73, r73, rfl, lr73, ur73⟩
        have hS := St.tr hS h73 (by decide) (by decide)
        refine Tr.sc [(0, r73)] rfl ?_
        refine Tr.pop (pc := 76) d_X5_plainFact_76 ne01 ?_
        refine Tr.aload_n (pc := 77) (i := 0) d_X5_plainFact_77 rfl rfl ?_
        refine Tr.iconst (pc := 78) d_X5_plainFact_78 (by decide) ?_
        refine Tr.callV (pc := 79) (as := [_]) d_X5_plainFact_79 s_5_186 ok_X5_takeName rfl rfl (Nat.le_of_ble_eq_true rfl) (Nat.le_of_ble_eq_true rfl) (by decide) (ty_6 hS.1.1) ?_
        refine Tr.imp (Tr.deep (by decide) (sp_X5_takeName_6_v0_w1 hS.1 hE ((St.kp hS (by decide) (by decide) (by decide)).trans en_6_2) ((St.kp hS (by decide) (by decide) (by decide)).trans en_6_3))) ?_
        rintro M79 _ ⟨h79, r79, rfl, lr79, ur79⟩
        have hS := St.tr hS h79 (by decide) (by decide)
        refine Tr.sc [(0, r79)] rfl ?_
        refine Tr.istore_n (pc := 82) (i := 1) (ls2 := [(1, (0, r79)), (0, (2, 6))]) d_X5_plainFact_82 rfl (by decide) rfl ?_
        refine Tr.aload_n (pc := 83) (i := 0) d_X5_plainFact_83 rfl rfl ?_
        refine Tr.getf (pc := 84) d_X5_plainFact_84 f_5_32 (by decide) (by decide) (ty_6 hS.1.1) ?_
        refine Tr.tp 15 ((St.kp hS (by decide) (by decide) (by decide)).trans en_6_4) ?_
        refine Tr.iconst (pc := 87) d_X5_plainFact_87 (by decide) ?_
        refine Tr.iload_n (pc := 88) (i := 1) d_X5_plainFact_88 rfl rfl ?_
        refine Tr.iconst (pc := 89) d_X5_plainFact_89 (by decide) ?_
        refine Tr.mmax (pc := 90) d_X5_plainFact_90 ml_5_192 mw_mmax (Nat.le_of_ble_eq_true rfl) ?_
        refine Tr.gen (P := fun v => (v = r79 ∧ 0 ≤ r79) ∨ (v = 0 ∧ r79 ≤ 0)) (f_max_p _ _) (fun r90 er90 br90 => ?_)
        refine Tr.callV (pc := 93) (as := [_, _]) d_X5_plainFact_93 s_5_215 ok_X4_emit rfl rfl (Nat.le_of_ble_eq_true rfl) (Nat.le_of_ble_eq_true rfl) (by decide) (ty_15 hS.1.1) ?_
        refine Tr.imp (Tr.deep (by decide) (sp_X4_emit_15_w7 hS.1.wk 4 (by omega) r90 (by omega) (by omega))) ?_
        rintro M93 _ ⟨h93, rfl⟩
        have hS := St.tr hS h93 (by decide) (by decide)
        refine Tr.sc [] rfl ?_
        refine Tr.iload_n (pc := 96) (i := 1) d_X5_plainFact_96 rfl rfl ?_
        refine Tr.if_lt (pc := 97) (tgt := 104) d_X5_plainFact_97 rfl (fun c97 => ?_) (fun c97 => ?_)
        · refine Tr.iconst (pc := 104) d_X5_plainFact_104 (by decide) ?_
          exact Tr.zret (pc := 105) d_X5_plainFact_105 rfl (by omega) ⟨hS, _, rfl, by omega, by omega, fun hq => absurd hq (by omega)⟩
        · refine Tr.iconst (pc := 100) d_X5_plainFact_100 (by decide) ?_
          refine Tr.goto (pc := 101) (tgt := 105) d_X5_plainFact_101 rfl ?_
          exact Tr.zret (pc := 105) d_X5_plainFact_105 rfl (by omega) ⟨hS, _, rfl, by omega, by omega, fun _ => ((St.kp h93 (by decide) (by decide) (by decide)).trans ((St.kp h79 (by decide) (by decide) (by decide)).trans ((St.kp h73 (by decide) (by decide) (by decide)).trans ((St.kp h66 (by decide) (by decide) (by decide)).trans ((St.kp h43 (by decide) (by decide) (by decide)).trans ((St.kp h3 (by decide) (by decide) (by decide)).trans en_6_6))))))⟩
    · refine Tr.aload_n (pc := 49) (i := 0) d_X5_plainFact_49 rfl rfl ?_
      refine Tr.getf (pc := 50) d_X5_plainFact_50 f_5_32 (by decide) (by decide) (ty_6 hS.1.1) ?_
      refine Tr.tp 15 ((St.kp hS (by decide) (by decide) (by decide)).trans en_6_4) ?_
      refine Tr.iconst (pc := 53) d_X5_plainFact_53 (by decide) ?_
      refine Tr.iconst (pc := 54) d_X5_plainFact_54 (by decide) ?_
      refine Tr.callV (pc := 55) (as := [_, _]) d_X5_plainFact_55 s_5_215 ok_X4_emit rfl rfl (Nat.le_of_ble_eq_true rfl) (Nat.le_of_ble_eq_true rfl) (by decide) (ty_15 hS.1.1) ?_
      refine Tr.imp (Tr.deep (by decide) (sp_X4_emit_15_w3 hS.1.wk 0 (by omega) 1 (by omega) (by omega))) ?_
      rintro M55 _ ⟨h55, rfl⟩
      have hS := St.tr hS h55 (by decide) (by decide)
      refine Tr.sc [] rfl ?_
      refine Tr.aload_n (pc := 58) (i := 0) d_X5_plainFact_58 rfl rfl ?_
      refine Tr.callV (pc := 59) (as := []) d_X5_plainFact_59 s_5_74 ok_X5_goOn rfl rfl (Nat.le_of_ble_eq_true rfl) (Nat.le_of_ble_eq_true rfl) (by decide) (ty_6 hS.1.1) ?_
      refine Tr.imp (Tr.deep (by decide) (sp_X5_goOn_6 hS.1 )) ?_
      rintro M59 _ ⟨h59, r59, rfl, lr59, ur59⟩
      have hS := St.tr hS h59 (by decide) (by decide)
      refine Tr.sc [(0, r59)] rfl ?_
      exact Tr.zret (pc := 62) d_X5_plainFact_62 rfl (by omega) ⟨hS, _, rfl, by omega, by omega, fun _ => ((St.kp h59 (by decide) (by decide) (by decide)).trans ((St.kp h55 (by decide) (by decide) (by decide)).trans ((St.kp h43 (by decide) (by decide) (by decide)).trans ((St.kp h3 (by decide) (by decide) (by decide)).trans en_6_6))))⟩
  · refine Tr.aload_n (pc := 9) (i := 0) d_X5_plainFact_9 rfl rfl ?_
    refine Tr.bipush (pc := 10) d_X5_plainFact_10 rfl (by decide) ?_
    refine Tr.callV (pc := 12) (as := [_]) d_X5_plainFact_12 s_5_206 ok_X5_takeOpening rfl rfl (Nat.le_of_ble_eq_true rfl) (Nat.le_of_ble_eq_true rfl) (by decide) (ty_6 hS.1.1) ?_
    refine Tr.imp (Tr.deep (by decide) (sp_X5_takeOpening_6_w15 hS.1 ((St.kp hS (by decide) (by decide) (by decide)).trans en_6_2) ((St.kp h3 (by decide) (by decide) (by decide)).trans en_6_6) 91 (by omega))) ?_
    rintro M12 _ ⟨h12, r12, rfl, lr12, ur12, x12_6_6⟩
    have hS := St.tr hS h12 (by decide) (by decide)
    refine Tr.sc [(0, r12)] rfl ?_
    refine Tr.if_eq (pc := 15) (tgt := 38) d_X5_plainFact_15 rfl (fun c15 => ?_) (fun c15 => ?_)
    · refine Tr.iconst (pc := 38) d_X5_plainFact_38 (by decide) ?_
      exact Tr.zret (pc := 39) d_X5_plainFact_39 rfl (by omega) ⟨hS, _, rfl, by omega, by omega, fun hq => absurd hq (by omega)⟩
    · refine Tr.aload_n (pc := 18) (i := 0) d_X5_plainFact_18 rfl rfl ?_
      refine Tr.callV (pc := 19) (as := []) d_X5_plainFact_19 s_5_177 ok_X5_test rfl rfl (Nat.le_of_ble_eq_true rfl) (Nat.le_of_ble_eq_true rfl) (by decide) (ty_6 hS.1.1) ?_
      refine Tr.imp (Tr.deep (by decide) (sp_X5_test_6_w16 hS.1 hE ((St.kp hS (by decide) (by decide) (by decide)).trans en_6_2) ((St.kp hS (by decide) (by decide) (by decide)).trans en_6_3) ((St.kp hS (by decide) (by decide) (by decide)).trans en_6_4) (x12_6_6 (by omega)))) ?_
      rintro M19 _ ⟨h19, r19, rfl, lr19, ur19, x19_6_6⟩
      have hS := St.tr hS h19 (by decide) (by decide)
      refine Tr.sc [(0, r19)] rfl ?_
      refine Tr.if_eq (pc := 22) (tgt := 38) d_X5_plainFact_22 rfl (fun c22 => ?_) (fun c22 => ?_)
      · refine Tr.iconst (pc := 38) d_X5_plainFact_38 (by decide) ?_
        exact Tr.zret (pc := 39) d_X5_plainFact_39 rfl (by omega) ⟨hS, _, rfl, by omega, by omega, fun hq => absurd hq (by omega)⟩
      · refine Tr.aload_n (pc := 25) (i := 0) d_X5_plainFact_25 rfl rfl ?_
        refine Tr.bipush (pc := 26) d_X5_plainFact_26 rfl (by decide) ?_
        refine Tr.callV (pc := 28) (as := [_]) d_X5_plainFact_28 s_5_209 ok_X5_takeClosing rfl rfl (Nat.le_of_ble_eq_true rfl) (Nat.le_of_ble_eq_true rfl) (by decide) (ty_6 hS.1.1) ?_
        refine Tr.imp (Tr.deep (by decide) (sp_X5_takeClosing_6_w9 hS.1 ((St.kp hS (by decide) (by decide) (by decide)).trans en_6_2) (x19_6_6 (by omega)) 93 (by omega))) ?_
        rintro M28 _ ⟨h28, r28, rfl, lr28, ur28, x28_6_6⟩
        have hS := St.tr hS h28 (by decide) (by decide)
        refine Tr.sc [(0, r28)] rfl ?_
        refine Tr.if_eq (pc := 31) (tgt := 38) d_X5_plainFact_31 rfl (fun c31 => ?_) (fun c31 => ?_)
        · refine Tr.iconst (pc := 38) d_X5_plainFact_38 (by decide) ?_
          exact Tr.zret (pc := 39) d_X5_plainFact_39 rfl (by omega) ⟨hS, _, rfl, by omega, by omega, fun hq => absurd hq (by omega)⟩
        · refine Tr.iconst (pc := 34) d_X5_plainFact_34 (by decide) ?_
          refine Tr.goto (pc := 35) (tgt := 39) d_X5_plainFact_35 rfl ?_
          exact Tr.zret (pc := 39) d_X5_plainFact_39 rfl (by omega) ⟨hS, _, rfl, by omega, by omega, fun _ => (x28_6_6 (by omega))⟩
end
