/-! 43.27 -/
section
def ws_X5_order_6_w13 : List (Int × Int) := [(6, 0), (6, 1), (6, 5), (6, 6), (15, 0), (15, 11)]
def as_X5_order_6_w13 : List Int := [16, 17, 18, 19, 20, 21, 22, 24, 25]
def q_X5_order_6_w13 (M0 M' : Mem) (r : Option PV) : Prop := St Tru ws_X5_order_6_w13 as_X5_order_6_w13 M0 M' ∧ ∃ v : Int, r = some (0, v) ∧ 0 ≤ v ∧ v ≤ 1 ∧ ((1 ≤ v ∧ v ≤ 1) → rd M' 6 6 = 4)
set_option maxRecDepth 100000 in
set_option maxHeartbeats 4000000 in
theorem sp_X5_order_6_w13 {l : Launch} {K : EC} {M0 : Mem} {xq : Int} (hI : In Tru M0) (hE : e_all K xq) (en_6_2 : rd M0 6 2 = 2) (en_6_3 : rd M0 6 3 = 7) (en_6_4 : rd M0 6 4 = 15) (en_6_6 : rd M0 6 6 = 4) (a1 : Int) (ha1 : 0 ≤ a1 ∧ a1 ≤ 59)  : Tr l K 26 mX5_order 0 [(0, (2, 6)), (1, (0, a1))] [] M0 (q_X5_order_6_w13 M0) := by
  have hS : St Tru ws_X5_order_6_w13 as_X5_order_6_w13 M0 M0 := St.rf hI
  refine Tr.aload_n (pc := 0) (i := 0) d_X5_order_0 rfl rfl ?_
  refine Tr.getf (pc := 1) d_X5_order_1 f_5_32 (by decide) (by decide) (ty_6 hS.1.1) ?_
  refine Tr.tp 15 ((St.kp hS (by decide) (by decide) (by decide)).trans en_6_4) ?_
  refine Tr.getf (pc := 4) d_X5_order_4 f_5_169 (by decide) (by decide) (ty_15 hS.1.1) ?_
  refine Tr.tp 16 (fx_15_1 hS.1.1) ?_
  refine Tr.iload_n (pc := 7) (i := 1) d_X5_order_7 rfl rfl ?_
  refine Tr.iald (pc := 8) d_X5_order_8 (ty_16 hS.1.1) (by omega) (by omega) ?_
  refine Tr.gen (P := fun v => (-2147483648) ≤ v ∧ v ≤ 2147483647) (ar_16 hS.1.2.1 _) (fun r8 er8 br8 => ?_)
  rcases (show (r8 < 5 ∨ 11 < r8) ∨ r8 = 5 ∨ r8 = 6 ∨ r8 = 7 ∨ r8 = 8 ∨ r8 = 9 ∨ r8 = 10 ∨ r8 = 11 by omega) with c9 | c9 | c9 | c9 | c9 | c9 | c9 | c9
  · refine Tr.tswOut (pc := 9) (tgt := 198) d_X5_order_9 c9 rfl ?_
    refine Tr.aload_n (pc := 198) (i := 0) d_X5_order_198 rfl rfl ?_
    refine Tr.callV (pc := 199) (as := []) d_X5_order_199 s_5_177 ok_X5_test rfl rfl (Nat.le_of_ble_eq_true rfl) (Nat.le_of_ble_eq_true rfl) (by decide) (ty_6 hS.1.1) ?_
    refine Tr.imp (Tr.deep (by decide) (sp_X5_test_6_w13 hS.1 hE ((St.kp hS (by decide) (by decide) (by decide)).trans en_6_2) ((St.kp hS (by decide) (by decide) (by decide)).trans en_6_3) ((St.kp hS (by decide) (by decide) (by decide)).trans en_6_4) en_6_6)) ?_
    rintro M199 _ ⟨h199, r199, rfl, lr199, ur199, x199_6_6⟩
    have hS := St.tr hS h199 (by decide) (by decide)
    refine Tr.sc [(0, r199)] rfl ?_
    refine Tr.if_eq (pc := 202) (tgt := 217) d_X5_order_202 rfl (fun c202 => ?_) (fun c202 => ?_)
    · refine Tr.iconst (pc := 217) d_X5_order_217 (by decide) ?_
      exact Tr.zret (pc := 218) d_X5_order_218 rfl (by omega) ⟨hS, _, rfl, by omega, by omega, fun hq => absurd hq (by omega)⟩
    · refine Tr.aload_n (pc := 205) (i := 0) d_X5_order_205 rfl rfl ?_
      refine Tr.iload_n (pc := 206) (i := 1) d_X5_order_206 rfl rfl ?_
      refine Tr.callV (pc := 207) (as := [_]) d_X5_order_207 s_5_180 ok_X5_yesBlock rfl rfl (Nat.le_of_ble_eq_true rfl) (Nat.le_of_ble_eq_true rfl) (by decide) (ty_6 hS.1.1) ?_
      refine Tr.imp (Tr.deep (by decide) (sp_X5_yesBlock_6_w13 hS.1 hE ((St.kp hS (by decide) (by decide) (by decide)).trans en_6_2) ((St.kp hS (by decide) (by decide) (by decide)).trans en_6_3) ((St.kp hS (by decide) (by decide) (by decide)).trans en_6_4) (x199_6_6 (by omega)) a1 (by omega))) ?_
      rintro M207 _ ⟨h207, r207, rfl, lr207, ur207, x207_6_6⟩
      have hS := St.tr hS h207 (by decide) (by decide)
      refine Tr.sc [(0, r207)] rfl ?_
      refine Tr.if_eq (pc := 210) (tgt := 217) d_X5_order_210 rfl (fun c210 => ?_) (fun c210 => ?_)
      · refine Tr.iconst (pc := 217) d_X5_order_217 (by decide) ?_
        exact Tr.zret (pc := 218) d_X5_order_218 rfl (by omega) ⟨hS, _, rfl, by omega, by omega, fun hq => absurd hq (by omega)⟩
      · refine Tr.iconst (pc := 213) d_X5_order_213 (by decide) ?_
        refine Tr.goto (pc := 214) (tgt := 218) d_X5_order_214 rfl ?_
        exact Tr.zret (pc := 218) d_X5_order_218 rfl (by omega) ⟨hS, _, rfl, by omega, by omega, fun _ => (x207_6_6 (by omega))⟩
  · refine Tr.tp 5 c9 ?_
    refine Tr.tswIn (pc := 9) (off := 43) (tgt := 52) d_X5_order_9 (by decide) (by decide) rfl rfl ?_
    refine Tr.aload_n (pc := 52) (i := 0) d_X5_order_52 rfl rfl ?_
    refine Tr.iload_n (pc := 53) (i := 1) d_X5_order_53 rfl rfl ?_
    refine Tr.iconst (pc := 54) d_X5_order_54 (by decide) ?_
    refine Tr.callV (pc := 55) (as := [_, _]) d_X5_order_55 s_5_170 ok_X5_about rfl rfl (Nat.le_of_ble_eq_true rfl) (Nat.le_of_ble_eq_true rfl) (by decide) (ty_6 hS.1.1) ?_
    refine Tr.imp (Tr.deep (by decide) (sp_X5_about_6_v2_w1 hS.1 hE ((St.kp hS (by decide) (by decide) (by decide)).trans en_6_2) ((St.kp hS (by decide) (by decide) (by decide)).trans en_6_3) ((St.kp hS (by decide) (by decide) (by decide)).trans en_6_4) a1 (by omega))) ?_
    rintro M55 _ ⟨h55, r55, rfl, lr55, ur55⟩
    have hS := St.tr hS h55 (by decide) (by decide)
    refine Tr.sc [(0, r55)] rfl ?_
    refine Tr.if_eq (pc := 58) (tgt := 90) d_X5_order_58 rfl (fun c58 => ?_) (fun c58 => ?_)
    · refine Tr.iconst (pc := 90) d_X5_order_90 (by decide) ?_
      exact Tr.zret (pc := 91) d_X5_order_91 rfl (by omega) ⟨hS, _, rfl, by omega, by omega, fun hq => absurd hq (by omega)⟩
    · refine Tr.aload_n (pc := 61) (i := 0) d_X5_order_61 rfl rfl ?_
      refine Tr.bipush (pc := 62) d_X5_order_62 rfl (by decide) ?_
      refine Tr.callV (pc := 64) (as := [_]) d_X5_order_64 s_5_81 ok_X5_takeSign rfl rfl (Nat.le_of_ble_eq_true rfl) (Nat.le_of_ble_eq_true rfl) (by decide) (ty_6 hS.1.1) ?_
      refine Tr.imp (Tr.deep (by decide) (sp_X5_takeSign_6_w3 hS.1 ((St.kp hS (by decide) (by decide) (by decide)).trans en_6_2) 61 (by omega))) ?_
      rintro M64 _ ⟨h64, r64, rfl, lr64, ur64⟩
      have hS := St.tr hS h64 (by decide) (by decide)
      refine Tr.sc [(0, r64)] rfl ?_
      refine Tr.if_eq (pc := 67) (tgt := 90) d_X5_order_67 rfl (fun c67 => ?_) (fun c67 => ?_)
      · refine Tr.iconst (pc := 90) d_X5_order_90 (by decide) ?_
        exact Tr.zret (pc := 91) d_X5_order_91 rfl (by omega) ⟨hS, _, rfl, by omega, by omega, fun hq => absurd hq (by omega)⟩
      · refine Tr.aload_n (pc := 70) (i := 0) d_X5_order_70 rfl rfl ?_
        refine Tr.callV (pc := 71) (as := []) d_X5_order_71 s_5_174 ok_X5_sum rfl rfl (Nat.le_of_ble_eq_true rfl) (Nat.le_of_ble_eq_true rfl) (by decide) (ty_6 hS.1.1) ?_
        refine Tr.imp (Tr.deep (by decide) (sp_X5_sum_6_w13 hS.1 hE ((St.kp hS (by decide) (by decide) (by decide)).trans en_6_2) ((St.kp hS (by decide) (by decide) (by decide)).trans en_6_3) ((St.kp hS (by decide) (by decide) (by decide)).trans en_6_4) ((St.kp h64 (by decide) (by decide) (by decide)).trans ((St.kp h55 (by decide) (by decide) (by decide)).trans en_6_6)))) ?_
        rintro M71 _ ⟨h71, r71, rfl, lr71, ur71, x71_6_6⟩
        have hS := St.tr hS h71 (by decide) (by decide)
        refine Tr.sc [(0, r71)] rfl ?_
        refine Tr.if_eq (pc := 74) (tgt := 90) d_X5_order_74 rfl (fun c74 => ?_) (fun c74 => ?_)
        · refine Tr.iconst (pc := 90) d_X5_order_90 (by decide) ?_
          exact Tr.zret (pc := 91) d_X5_order_91 rfl (by omega) ⟨hS, _, rfl, by omega, by omega, fun hq => absurd hq (by omega)⟩
        · refine Tr.aload_n (pc := 77) (i := 0) d_X5_order_77 rfl rfl ?_
          refine Tr.bipush (pc := 78) d_X5_order_78 rfl (by decide) ?_
          refine Tr.callV (pc := 80) (as := [_]) d_X5_order_80 s_5_81 ok_X5_takeSign rfl rfl (Nat.le_of_ble_eq_true rfl) (Nat.le_of_ble_eq_true rfl) (by decide) (ty_6 hS.1.1) ?_
          refine Tr.imp (Tr.deep (by decide) (sp_X5_takeSign_6 hS.1 ((St.kp hS (by decide) (by decide) (by decide)).trans en_6_2) 59 (by omega))) ?_
          rintro M80 _ ⟨h80, r80, rfl, lr80, ur80⟩
          have hS := St.tr hS h80 (by decide) (by decide)
          refine Tr.sc [(0, r80)] rfl ?_
          refine Tr.if_eq (pc := 83) (tgt := 90) d_X5_order_83 rfl (fun c83 => ?_) (fun c83 => ?_)
          · refine Tr.iconst (pc := 90) d_X5_order_90 (by decide) ?_
            exact Tr.zret (pc := 91) d_X5_order_91 rfl (by omega) ⟨hS, _, rfl, by omega, by omega, fun hq => absurd hq (by omega)⟩
          · refine Tr.iconst (pc := 86) d_X5_order_86 (by decide) ?_
            refine Tr.goto (pc := 87) (tgt := 91) d_X5_order_87 rfl ?_
            exact Tr.zret (pc := 91) d_X5_order_91 rfl (by omega) ⟨hS, _, rfl, by omega, by omega, fun _ => ((St.kp h80 (by decide) (by decide) (by decide)).trans (x71_6_6 (by omega)))⟩
  · refine Tr.tp 6 c9 ?_
    refine Tr.tswIn (pc := 9) (off := 83) (tgt := 92) d_X5_order_9 (by decide) (by decide) rfl rfl ?_
    refine Tr.aload_n (pc := 92) (i := 0) d_X5_order_92 rfl rfl ?_
    refine Tr.iload_n (pc := 93) (i := 1) d_X5_order_93 rfl rfl ?_
    refine Tr.iconst (pc := 94) d_X5_order_94 (by decide) ?_
    refine Tr.callV (pc := 95) (as := [_, _]) d_X5_order_95 s_5_170 ok_X5_about rfl rfl (Nat.le_of_ble_eq_true rfl) (Nat.le_of_ble_eq_true rfl) (by decide) (ty_6 hS.1.1) ?_
    refine Tr.imp (Tr.deep (by decide) (sp_X5_about_6_v0_w1 hS.1 hE ((St.kp hS (by decide) (by decide) (by decide)).trans en_6_2) ((St.kp hS (by decide) (by decide) (by decide)).trans en_6_3) ((St.kp hS (by decide) (by decide) (by decide)).trans en_6_4) a1 (by omega))) ?_
    rintro M95 _ ⟨h95, r95, rfl, lr95, ur95⟩
    have hS := St.tr hS h95 (by decide) (by decide)
    refine Tr.sc [(0, r95)] rfl ?_
    refine Tr.if_eq (pc := 98) (tgt := 121) d_X5_order_98 rfl (fun c98 => ?_) (fun c98 => ?_)
    · refine Tr.iconst (pc := 121) d_X5_order_121 (by decide) ?_
      exact Tr.zret (pc := 122) d_X5_order_122 rfl (by omega) ⟨hS, _, rfl, by omega, by omega, fun hq => absurd hq (by omega)⟩
    · refine Tr.aload_n (pc := 101) (i := 0) d_X5_order_101 rfl rfl ?_
      refine Tr.callV (pc := 102) (as := []) d_X5_order_102 s_5_174 ok_X5_sum rfl rfl (Nat.le_of_ble_eq_true rfl) (Nat.le_of_ble_eq_true rfl) (by decide) (ty_6 hS.1.1) ?_
      refine Tr.imp (Tr.deep (by decide) (sp_X5_sum_6_w13 hS.1 hE ((St.kp hS (by decide) (by decide) (by decide)).trans en_6_2) ((St.kp hS (by decide) (by decide) (by decide)).trans en_6_3) ((St.kp hS (by decide) (by decide) (by decide)).trans en_6_4) ((St.kp h95 (by decide) (by decide) (by decide)).trans en_6_6))) ?_
      rintro M102 _ ⟨h102, r102, rfl, lr102, ur102, x102_6_6⟩
      have hS := St.tr hS h102 (by decide) (by decide)
      refine Tr.sc [(0, r102)] rfl ?_
      refine Tr.if_eq (pc := 105) (tgt := 121) d_X5_order_105 rfl (fun c105 => ?_) (fun c105 => ?_)
      · refine Tr.iconst (pc := 121) d_X5_order_121 (by decide) ?_
        exact Tr.zret (pc := 122) d_X5_order_122 rfl (by omega) ⟨hS, _, rfl, by omega, by omega, fun hq => absurd hq (by omega)⟩
      · refine Tr.aload_n (pc := 108) (i := 0) d_X5_order_108 rfl rfl ?_
        refine Tr.bipush (pc := 109) d_X5_order_109 rfl (by decide) ?_
        refine Tr.callV (pc := 111) (as := [_]) d_X5_order_111 s_5_81 ok_X5_takeSign rfl rfl (Nat.le_of_ble_eq_true rfl) (Nat.le_of_ble_eq_true rfl) (by decide) (ty_6 hS.1.1) ?_
        refine Tr.imp (Tr.deep (by decide) (sp_X5_takeSign_6 hS.1 ((St.kp hS (by decide) (by decide) (by decide)).trans en_6_2) 59 (by omega))) ?_
        rintro M111 _ ⟨h111, r111, rfl, lr111, ur111⟩
        have hS := St.tr hS h111 (by decide) (by decide)
        refine Tr.sc [(0, r111)] rfl ?_
        refine Tr.if_eq (pc := 114) (tgt := 121) d_X5_order_114 rfl (fun c114 => ?_) (fun c114 => ?_)
        · refine Tr.iconst (pc := 121) d_X5_order_121 (by decide) ?_
          exact Tr.zret (pc := 122) d_X5_order_122 rfl (by omega) ⟨hS, _, rfl, by omega, by omega, fun hq => absurd hq (by omega)⟩
        · refine Tr.iconst (pc := 117) d_X5_order_117 (by decide) ?_
          refine Tr.goto (pc := 118) (tgt := 122) d_X5_order_118 rfl ?_
          exact Tr.zret (pc := 122) d_X5_order_122 rfl (by omega) ⟨hS, _, rfl, by omega, by omega, fun _ => ((St.kp h111 (by decide) (by decide) (by decide)).trans (x102_6_6 (by omega)))⟩
  · refine Tr.tp 7 c9 ?_
    refine Tr.tswIn (pc := 9) (off := 114) (tgt := 123) d_X5_order_9 (by decide) (by decide) rfl rfl ?_
    refine Tr.aload_n (pc := 123) (i := 0) d_X5_order_123 rfl rfl ?_
    refine Tr.iload_n (pc := 124) (i := 1) d_X5_order_124 rfl rfl ?_
    refine Tr.iconst (pc := 125) d_X5_order_125 (by decide) ?_
    refine Tr.callV (pc := 126) (as := [_, _]) d_X5_order_126 s_5_170 ok_X5_about rfl rfl (Nat.le_of_ble_eq_true rfl) (Nat.le_of_ble_eq_true rfl) (by decide) (ty_6 hS.1.1) ?_
    refine Tr.imp (Tr.deep (by decide) (sp_X5_about_6_v0_w1 hS.1 hE ((St.kp hS (by decide) (by decide) (by decide)).trans en_6_2) ((St.kp hS (by decide) (by decide) (by decide)).trans en_6_3) ((St.kp hS (by decide) (by decide) (by decide)).trans en_6_4) a1 (by omega))) ?_
    rintro M126 _ ⟨h126, r126, rfl, lr126, ur126⟩
    have hS := St.tr hS h126 (by decide) (by decide)
    refine Tr.sc [(0, r126)] rfl ?_
    refine Tr.if_eq (pc := 129) (tgt := 145) d_X5_order_129 rfl (fun c129 => ?_) (fun c129 => ?_)
    · refine Tr.iconst (pc := 145) d_X5_order_145 (by decide) ?_
      exact Tr.zret (pc := 146) d_X5_order_146 rfl (by omega) ⟨hS, _, rfl, by omega, by omega, fun hq => absurd hq (by omega)⟩
    · refine Tr.aload_n (pc := 132) (i := 0) d_X5_order_132 rfl rfl ?_
      refine Tr.bipush (pc := 133) d_X5_order_133 rfl (by decide) ?_
      refine Tr.callV (pc := 135) (as := [_]) d_X5_order_135 s_5_81 ok_X5_takeSign rfl rfl (Nat.le_of_ble_eq_true rfl) (Nat.le_of_ble_eq_true rfl) (by decide) (ty_6 hS.1.1) ?_
      refine Tr.imp (Tr.deep (by decide) (sp_X5_takeSign_6 hS.1 ((St.kp hS (by decide) (by decide) (by decide)).trans en_6_2) 59 (by omega))) ?_
      rintro M135 _ ⟨h135, r135, rfl, lr135, ur135⟩
      have hS := St.tr hS h135 (by decide) (by decide)
      refine Tr.sc [(0, r135)] rfl ?_
      refine Tr.if_eq (pc := 138) (tgt := 145) d_X5_order_138 rfl (fun c138 => ?_) (fun c138 => ?_)
      · refine Tr.iconst (pc := 145) d_X5_order_145 (by decide) ?_
        exact Tr.zret (pc := 146) d_X5_order_146 rfl (by omega) ⟨hS, _, rfl, by omega, by omega, fun hq => absurd hq (by omega)⟩
      · refine Tr.iconst (pc := 141) d_X5_order_141 (by decide) ?_
        refine Tr.goto (pc := 142) (tgt := 146) d_X5_order_142 rfl ?_
        exact Tr.zret (pc := 146) d_X5_order_146 rfl (by omega) ⟨hS, _, rfl, by omega, by omega, fun _ => ((St.kp h135 (by decide) (by decide) (by decide)).trans ((St.kp h126 (by decide) (by decide) (by decide)).trans en_6_6))⟩
  · refine Tr.tp 8 c9 ?_
    refine Tr.tswIn (pc := 9) (off := 114) (tgt := 123) d_X5_order_9 (by decide) (by decide) rfl rfl ?_
    refine Tr.aload_n (pc := 123) (i := 0) d_X5_order_123 rfl rfl ?_
    refine Tr.iload_n (pc := 124) (i := 1) d_X5_order_124 rfl rfl ?_
    refine Tr.iconst (pc := 125) d_X5_order_125 (by decide) ?_
    refine Tr.callV (pc := 126) (as := [_, _]) d_X5_order_126 s_5_170 ok_X5_about rfl rfl (Nat.le_of_ble_eq_true rfl) (Nat.le_of_ble_eq_true rfl) (by decide) (ty_6 hS.1.1) ?_
    refine Tr.imp (Tr.deep (by decide) (sp_X5_about_6_v0_w1 hS.1 hE ((St.kp hS (by decide) (by decide) (by decide)).trans en_6_2) ((St.kp hS (by decide) (by decide) (by decide)).trans en_6_3) ((St.kp hS (by decide) (by decide) (by decide)).trans en_6_4) a1 (by omega))) ?_
    rintro M126 _ ⟨h126, r126, rfl, lr126, ur126⟩
    have hS := St.tr hS h126 (by decide) (by decide)
    refine Tr.sc [(0, r126)] rfl ?_
    refine Tr.if_eq (pc := 129) (tgt := 145) d_X5_order_129 rfl (fun c129 => ?_) (fun c129 => ?_)
    · refine Tr.iconst (pc := 145) d_X5_order_145 (by decide) ?_
      exact Tr.zret (pc := 146) d_X5_order_146 rfl (by omega) ⟨hS, _, rfl, by omega, by omega, fun hq => absurd hq (by omega)⟩
    · refine Tr.aload_n (pc := 132) (i := 0) d_X5_order_132 rfl rfl ?_
      refine Tr.bipush (pc := 133) d_X5_order_133 rfl (by decide) ?_
      refine Tr.callV (pc := 135) (as := [_]) d_X5_order_135 s_5_81 ok_X5_takeSign rfl rfl (Nat.le_of_ble_eq_true rfl) (Nat.le_of_ble_eq_true rfl) (by decide) (ty_6 hS.1.1) ?_
      refine Tr.imp (Tr.deep (by decide) (sp_X5_takeSign_6 hS.1 ((St.kp hS (by decide) (by decide) (by decide)).trans en_6_2) 59 (by omega))) ?_
      rintro M135 _ ⟨h135, r135, rfl, lr135, ur135⟩
      have hS := St.tr hS h135 (by decide) (by decide)
      refine Tr.sc [(0, r135)] rfl ?_
      refine Tr.if_eq (pc := 138) (tgt := 145) d_X5_order_138 rfl (fun c138 => ?_) (fun c138 => ?_)
      · refine Tr.iconst (pc := 145) d_X5_order_145 (by decide) ?_
        exact Tr.zret (pc := 146) d_X5_order_146 rfl (by omega) ⟨hS, _, rfl, by omega, by omega, fun hq => absurd hq (by omega)⟩
      · refine Tr.iconst (pc := 141) d_X5_order_141 (by decide) ?_
        refine Tr.goto (pc := 142) (tgt := 146) d_X5_order_142 rfl ?_
        exact Tr.zret (pc := 146) d_X5_order_146 rfl (by omega) ⟨hS, _, rfl, by omega, by omega, fun _ => ((St.kp h135 (by decide) (by decide) (by decide)).trans ((St.kp h126 (by decide) (by decide) (by decide)).trans en_6_6))⟩
  · refine Tr.tp 9 c9 ?_
    refine Tr.tswIn (pc := 9) (off := 138) (tgt := 147) d_X5_order_9 (by decide) (by decide) rfl rfl ?_
    refine Tr.aload_n (pc := 147) (i := 0) d_X5_order_147 rfl rfl ?_
    refine Tr.callV (pc := 148) (as := []) d_X5_order_148 s_5_174 ok_X5_sum rfl rfl (Nat.le_of_ble_eq_true rfl) (Nat.le_of_ble_eq_true rfl) (by decide) (ty_6 hS.1.1) ?_
    refine Tr.imp (Tr.deep (by decide) (sp_X5_sum_6_w13 hS.1 hE ((St.kp hS (by decide) (by decide) (by decide)).trans en_6_2) ((St.kp hS (by decide) (by decide) (by decide)).trans en_6_3) ((St.kp hS (by decide) (by decide) (by decide)).trans en_6_4) en_6_6)) ?_
    rintro M148 _ ⟨h148, r148, rfl, lr148, ur148, x148_6_6⟩
    have hS := St.tr hS h148 (by decide) (by decide)
    refine Tr.sc [(0, r148)] rfl ?_
    refine Tr.if_eq (pc := 151) (tgt := 167) d_X5_order_151 rfl (fun c151 => ?_) (fun c151 => ?_)
    · refine Tr.iconst (pc := 167) d_X5_order_167 (by decide) ?_
      exact Tr.zret (pc := 168) d_X5_order_168 rfl (by omega) ⟨hS, _, rfl, by omega, by omega, fun hq => absurd hq (by omega)⟩
    · refine Tr.aload_n (pc := 154) (i := 0) d_X5_order_154 rfl rfl ?_
      refine Tr.bipush (pc := 155) d_X5_order_155 rfl (by decide) ?_
      refine Tr.callV (pc := 157) (as := [_]) d_X5_order_157 s_5_81 ok_X5_takeSign rfl rfl (Nat.le_of_ble_eq_true rfl) (Nat.le_of_ble_eq_true rfl) (by decide) (ty_6 hS.1.1) ?_
      refine Tr.imp (Tr.deep (by decide) (sp_X5_takeSign_6 hS.1 ((St.kp hS (by decide) (by decide) (by decide)).trans en_6_2) 59 (by omega))) ?_
      rintro M157 _ ⟨h157, r157, rfl, lr157, ur157⟩
      have hS := St.tr hS h157 (by decide) (by decide)
      refine Tr.sc [(0, r157)] rfl ?_
      refine Tr.if_eq (pc := 160) (tgt := 167) d_X5_order_160 rfl (fun c160 => ?_) (fun c160 => ?_)
      · refine Tr.iconst (pc := 167) d_X5_order_167 (by decide) ?_
        exact Tr.zret (pc := 168) d_X5_order_168 rfl (by omega) ⟨hS, _, rfl, by omega, by omega, fun hq => absurd hq (by omega)⟩
      · refine Tr.iconst (pc := 163) d_X5_order_163 (by decide) ?_
        refine Tr.goto (pc := 164) (tgt := 168) d_X5_order_164 rfl ?_
        exact Tr.zret (pc := 168) d_X5_order_168 rfl (by omega) ⟨hS, _, rfl, by omega, by omega, fun _ => ((St.kp h157 (by decide) (by decide) (by decide)).trans (x148_6_6 (by omega)))⟩
  · refine Tr.tp 10 c9 ?_
    refine Tr.tswIn (pc := 9) (off := 138) (tgt := 147) d_X5_order_9 (by decide) (by decide) rfl rfl ?_
    refine Tr.aload_n (pc := 147) (i := 0) d_X5_order_147 rfl rfl ?_
    refine Tr.callV (pc := 148) (as := []) d_X5_order_148 s_5_174 ok_X5_sum rfl rfl (Nat.le_of_ble_eq_true rfl) (Nat.le_of_ble_eq_true rfl) (by decide) (ty_6 hS.1.1) ?_
    refine Tr.imp (Tr.deep (by decide) (sp_X5_sum_6_w13 hS.1 hE ((St.kp hS (by decide) (by decide) (by decide)).trans en_6_2) ((St.kp hS (by decide) (by decide) (by decide)).trans en_6_3) ((St.kp hS (by decide) (by decide) (by decide)).trans en_6_4) en_6_6)) ?_
    rintro M148 _ ⟨h148, r148, rfl, lr148, ur148, x148_6_6⟩
    have hS := St.tr hS h148 (by decide) (by decide)
    refine Tr.sc [(0, r148)] rfl ?_
    refine Tr.if_eq (pc := 151) (tgt := 167) d_X5_order_151 rfl (fun c151 => ?_) (fun c151 => ?_)
    · refine Tr.iconst (pc := 167) d_X5_order_167 (by decide) ?_
      exact Tr.zret (pc := 168) d_X5_order_168 rfl (by omega) ⟨hS, _, rfl, by omega, by omega, fun hq => absurd hq (by omega)⟩
    · refine Tr.aload_n (pc := 154) (i := 0) d_X5_order_154 rfl rfl ?_
      refine Tr.bipush (pc := 155) d_X5_order_155 rfl (by decide) ?_
      refine Tr.callV (pc := 157) (as := [_]) d_X5_order_157 s_5_81 ok_X5_takeSign rfl rfl (Nat.le_of_ble_eq_true rfl) (Nat.le_of_ble_eq_true rfl) (by decide) (ty_6 hS.1.1) ?_
      refine Tr.imp (Tr.deep (by decide) (sp_X5_takeSign_6 hS.1 ((St.kp hS (by decide) (by decide) (by decide)).trans en_6_2) 59 (by omega))) ?_
      rintro M157 _ ⟨h157, r157, rfl, lr157, ur157⟩
      have hS := St.tr hS h157 (by decide) (by decide)
      refine Tr.sc [(0, r157)] rfl ?_
      refine Tr.if_eq (pc := 160) (tgt := 167) d_X5_order_160 rfl (fun c160 => ?_) (fun c160 => ?_)
      · refine Tr.iconst (pc := 167) d_X5_order_167 (by decide) ?_
        exact Tr.zret (pc := 168) d_X5_order_168 rfl (by omega) ⟨hS, _, rfl, by omega, by omega, fun hq => absurd hq (by omega)⟩
      · refine Tr.iconst (pc := 163) d_X5_order_163 (by decide) ?_
        refine Tr.goto (pc := 164) (tgt := 168) d_X5_order_164 rfl ?_
        exact Tr.zret (pc := 168) d_X5_order_168 rfl (by omega) ⟨hS, _, rfl, by omega, by omega, fun _ => ((St.kp h157 (by decide) (by decide) (by decide)).trans (x148_6_6 (by omega)))⟩
  · refine Tr.tp 11 c9 ?_
    refine Tr.tswIn (pc := 9) (off := 160) (tgt := 169) d_X5_order_9 (by decide) (by decide) rfl rfl ?_
    refine Tr.aload_n (pc := 169) (i := 0) d_X5_order_169 rfl rfl ?_
    refine Tr.callV (pc := 170) (as := []) d_X5_order_170 s_5_177 ok_X5_test rfl rfl (Nat.le_of_ble_eq_true rfl) (Nat.le_of_ble_eq_true rfl) (by decide) (ty_6 hS.1.1) ?_
    refine Tr.imp (Tr.deep (by decide) (sp_X5_test_6_w13 hS.1 hE ((St.kp hS (by decide) (by decide) (by decide)).trans en_6_2) ((St.kp hS (by decide) (by decide) (by decide)).trans en_6_3) ((St.kp hS (by decide) (by decide) (by decide)).trans en_6_4) en_6_6)) ?_
    rintro M170 _ ⟨h170, r170, rfl, lr170, ur170, x170_6_6⟩
    have hS := St.tr hS h170 (by decide) (by decide)
    refine Tr.sc [(0, r170)] rfl ?_
    refine Tr.if_eq (pc := 173) (tgt := 196) d_X5_order_173 rfl (fun c173 => ?_) (fun c173 => ?_)
    · refine Tr.iconst (pc := 196) d_X5_order_196 (by decide) ?_
      exact Tr.zret (pc := 197) d_X5_order_197 rfl (by omega) ⟨hS, _, rfl, by omega, by omega, fun hq => absurd hq (by omega)⟩
    · refine Tr.aload_n (pc := 176) (i := 0) d_X5_order_176 rfl rfl ?_
      refine Tr.iload_n (pc := 177) (i := 1) d_X5_order_177 rfl rfl ?_
      refine Tr.callV (pc := 178) (as := [_]) d_X5_order_178 s_5_180 ok_X5_yesBlock rfl rfl (Nat.le_of_ble_eq_true rfl) (Nat.le_of_ble_eq_true rfl) (by decide) (ty_6 hS.1.1) ?_
      refine Tr.imp (Tr.deep (by decide) (sp_X5_yesBlock_6_w13 hS.1 hE ((St.kp hS (by decide) (by decide) (by decide)).trans en_6_2) ((St.kp hS (by decide) (by decide) (by decide)).trans en_6_3) ((St.kp hS (by decide) (by decide) (by decide)).trans en_6_4) (x170_6_6 (by omega)) a1 (by omega))) ?_
      rintro M178 _ ⟨h178, r178, rfl, lr178, ur178, x178_6_6⟩
      have hS := St.tr hS h178 (by decide) (by decide)
      refine Tr.sc [(0, r178)] rfl ?_
      refine Tr.if_eq (pc := 181) (tgt := 196) d_X5_order_181 rfl (fun c181 => ?_) (fun c181 => ?_)
      · refine Tr.iconst (pc := 196) d_X5_order_196 (by decide) ?_
        exact Tr.zret (pc := 197) d_X5_order_197 rfl (by omega) ⟨hS, _, rfl, by omega, by omega, fun hq => absurd hq (by omega)⟩
      · refine Tr.aload_n (pc := 184) (i := 0) d_X5_order_184 rfl rfl ?_
        refine Tr.iload_n (pc := 185) (i := 1) d_X5_order_185 rfl rfl ?_
        refine Tr.callV (pc := 186) (as := [_]) d_X5_order_186 s_5_183 ok_X5_noBlock rfl rfl (Nat.le_of_ble_eq_true rfl) (Nat.le_of_ble_eq_true rfl) (by decide) (ty_6 hS.1.1) ?_
        refine Tr.imp (Tr.deep (by decide) (sp_X5_noBlock_6_w11 hS.1 hE ((St.kp hS (by decide) (by decide) (by decide)).trans en_6_2) ((St.kp hS (by decide) (by decide) (by decide)).trans en_6_3) ((St.kp hS (by decide) (by decide) (by decide)).trans en_6_4) (x178_6_6 (by omega)) a1 (by omega))) ?_
        rintro M186 _ ⟨h186, r186, rfl, lr186, ur186, x186_6_6⟩
        have hS := St.tr hS h186 (by decide) (by decide)
        refine Tr.sc [(0, r186)] rfl ?_
        refine Tr.if_eq (pc := 189) (tgt := 196) d_X5_order_189 rfl (fun c189 => ?_) (fun c189 => ?_)
        · refine Tr.iconst (pc := 196) d_X5_order_196 (by decide) ?_
          exact Tr.zret (pc := 197) d_X5_order_197 rfl (by omega) ⟨hS, _, rfl, by omega, by omega, fun hq => absurd hq (by omega)⟩
        · refine Tr.iconst (pc := 192) d_X5_order_192 (by decide) ?_
          refine Tr.goto (pc := 193) (tgt := 197) d_X5_order_193 rfl ?_
          exact Tr.zret (pc := 197) d_X5_order_197 rfl (by omega) ⟨hS, _, rfl, by omega, by omega, fun _ => (x186_6_6 (by omega))⟩

def ws_X5_orders_6_w13 : List (Int × Int) := [(6, 0), (6, 1), (6, 5), (6, 6), (15, 0), (15, 11)]
def as_X5_orders_6_w13 : List Int := [16, 17, 18, 19, 20, 21, 22, 24, 25]
def q_X5_orders_6_w13 (M0 M' : Mem) (r : Option PV) : Prop := St Tru ws_X5_orders_6_w13 as_X5_orders_6_w13 M0 M' ∧ ∃ v : Int, r = some (0, v) ∧ (-2) ≤ v ∧ v ≤ 59 ∧ (((-1) ≤ v ∧ v ≤ 1000000) → rd M' 6 6 = 4)
set_option maxRecDepth 100000 in
set_option maxHeartbeats 4000000 in
theorem sp_X5_orders_6_w13 {l : Launch} {K : EC} {M0 : Mem} {xq : Int} (hI : In Tru M0) (hE : e_all K xq) (en_6_2 : rd M0 6 2 = 2) (en_6_3 : rd M0 6 3 = 7) (en_6_4 : rd M0 6 4 = 15) (en_6_6 : rd M0 6 6 = 4) (a1 : Int) (ha1 : 0 ≤ a1 ∧ a1 ≤ 59)  : Tr l K 27 mX5_orders 0 [(0, (2, 6)), (1, (0, a1))] [] M0 (q_X5_orders_6_w13 M0) := by
  have hS : St Tru ws_X5_orders_6_w13 as_X5_orders_6_w13 M0 M0 := St.rf hI
  refine Tr.iconst (pc := 0) d_X5_orders_0 (by decide) ?_
  refine Tr.istore_n (pc := 1) (i := 2) (ls2 := [(2, (0, (-1))), (0, (2, 6)), (1, (0, a1))]) d_X5_orders_1 rfl (by decide) rfl ?_
  refine Tr.iconst (pc := 2) d_X5_orders_2 (by decide) ?_
  refine Tr.istore_n (pc := 3) (i := 3) (ls2 := [(3, (0, (-1))), (2, (0, (-1))), (0, (2, 6)), (1, (0, a1))]) d_X5_orders_3 rfl (by decide) rfl ?_
  refine Tr.iconst (pc := 4) d_X5_orders_4 (by decide) ?_
  refine Tr.istore (pc := 5) (i := 4) (ls2 := [(4, (0, 0)), (3, (0, (-1))), (2, (0, (-1))), (0, (2, 6)), (1, (0, a1))]) d_X5_orders_5 (by decide) rfl ?_
  have J7 : ∀ (n7 : Nat) (M : Mem) (p7_2 p7_3 p7_4 : Int), St Tru ws_X5_orders_6_w13 as_X5_orders_6_w13 M0 M → ((-1) ≤ p7_2 ∧ p7_2 ≤ 59) → ((-1) ≤ p7_3 ∧ p7_3 ≤ 59) → (0 ≤ p7_4 ∧ p7_4 ≤ 61) → rd M 6 6 = 4 → (61 - p7_4).toNat < n7 → Tr l K 27 mX5_orders 7 [(0, (2, 6)), (1, (0, a1)), (2, (0, p7_2)), (3, (0, p7_3)), (4, (0, p7_4))] [] M (q_X5_orders_6_w13 M0) := by
    intro n7
    induction n7 with
    | zero => intro M p7_2 p7_3 p7_4 hS bp7_2 bp7_3 bp7_4 k7_6_6 hm7; exact absurd hm7 (Nat.not_lt_zero _)
    | succ n7 J7 =>
      intro M p7_2 p7_3 p7_4 hS bp7_2 bp7_3 bp7_4 k7_6_6 hm7
      refine Tr.iload (pc := 7) (i := 4) d_X5_orders_7 rfl ?_
      refine Tr.bipush (pc := 9) d_X5_orders_9 rfl (by decide) ?_
      refine Tr.icmp_gt (pc := 11) (tgt := 111) d_X5_orders_11 rfl (fun c11 => ?_) (fun c11 => ?_)
      · refine Tr.iload_n (pc := 111) (i := 2) d_X5_orders_111 rfl rfl ?_
        exact Tr.iret (pc := 112) d_X5_orders_112 rfl ⟨hS, _, rfl, by omega, by omega, fun _ => k7_6_6⟩
      · refine Tr.aload_n (pc := 14) (i := 0) d_X5_orders_14 rfl rfl ?_
        refine Tr.callV (pc := 15) (as := []) d_X5_orders_15 s_5_154 ok_X5_isOrder rfl rfl (Nat.le_of_ble_eq_true rfl) (Nat.le_of_ble_eq_true rfl) (by decide) (ty_6 hS.1.1) ?_
        refine Tr.imp (Tr.deep (by decide) (sp_X5_isOrder_6 hS.1 ((St.kp hS (by decide) (by decide) (by decide)).trans en_6_2))) ?_
        rintro M15 _ ⟨h15, r15, rfl, lr15, ur15⟩
        have hS := St.tr hS h15 (by decide) (by decide)
        refine Tr.sc [(0, r15)] rfl ?_
        refine Tr.if_eq (pc := 18) (tgt := 111) d_X5_orders_18 rfl (fun c18 => ?_) (fun c18 => ?_)
        · refine Tr.iload_n (pc := 111) (i := 2) d_X5_orders_111 rfl rfl ?_
          exact Tr.iret (pc := 112) d_X5_orders_112 rfl ⟨hS, _, rfl, by omega, by omega, fun _ => ((St.kp h15 (by decide) (by decide) (by decide)).trans k7_6_6)⟩
        · refine Tr.aload_n (pc := 21) (i := 0) d_X5_orders_21 rfl rfl ?_
          refine Tr.getf (pc := 22) d_X5_orders_22 f_5_32 (by decide) (by decide) (ty_6 hS.1.1) ?_
          refine Tr.tp 15 ((St.kp hS (by decide) (by decide) (by decide)).trans en_6_4) ?_
          refine Tr.getf (pc := 25) d_X5_orders_25 f_5_157 (by decide) (by decide) (ty_15 hS.1.1) ?_
          refine Tr.gen (P := fun v => 0 ≤ v ∧ v ≤ 60) (ir_15_0 hS.1.2.1) (fun r25 er25 br25 => ?_)
          refine Tr.bipush (pc := 28) d_X5_orders_28 rfl (by decide) ?_
          refine Tr.icmp_lt (pc := 30) (tgt := 42) d_X5_orders_30 rfl (fun c30 => ?_) (fun c30 => ?_)
          · refine Tr.aload_n (pc := 42) (i := 0) d_X5_orders_42 rfl rfl ?_
            refine Tr.getf (pc := 43) d_X5_orders_43 f_5_32 (by decide) (by decide) (ty_6 hS.1.1) ?_
            refine Tr.tp 15 ((St.kp hS (by decide) (by decide) (by decide)).trans en_6_4) ?_
            refine Tr.aload_n (pc := 46) (i := 0) d_X5_orders_46 rfl rfl ?_
            refine Tr.getf (pc := 47) d_X5_orders_47 f_5_18 (by decide) (by decide) (ty_6 hS.1.1) ?_
            refine Tr.tp 2 ((St.kp hS (by decide) (by decide) (by decide)).trans en_6_2) ?_
            refine Tr.getf (pc := 50) d_X5_orders_50 f_5_68 (by decide) (by decide) (ty_2 hS.1.1) ?_
            refine Tr.tp 5 (fx_2_2 hS.1.1) ?_
            refine Tr.aload_n (pc := 53) (i := 0) d_X5_orders_53 rfl rfl ?_
            refine Tr.getf (pc := 54) d_X5_orders_54 f_5_36 (by decide) (by decide) (ty_6 hS.1.1) ?_
            refine Tr.gen (P := fun v => 0 ≤ v ∧ v ≤ 900) (ir_6_5 hS.1.2.1) (fun r54 er54 br54 => ?_)
            refine Tr.iald (pc := 57) d_X5_orders_57 (ty_5 hS.1.1) (by omega) (by omega) ?_
            refine Tr.gen (P := fun v => (-2147483648) ≤ v ∧ v ≤ 2147483647) (ar_5 hS.1.2.1 _) (fun r57 er57 br57 => ?_)
            refine Tr.iload_n (pc := 58) (i := 1) d_X5_orders_58 rfl rfl ?_
            refine Tr.callV (pc := 59) (as := [_, _]) d_X5_orders_59 s_5_160 ok_X4_open rfl rfl (Nat.le_of_ble_eq_true rfl) (Nat.le_of_ble_eq_true rfl) (by decide) (ty_15 hS.1.1) ?_
            refine Tr.imp (Tr.deep (by decide) (sp_X4_open_15_w1 hS.1 r57 (by omega) a1 (by omega) (by have h9 := er25; omega))) ?_
            rintro M59 _ ⟨h59, r59, rfl, lr59, ur59⟩
            have hS := St.tr hS h59 (by decide) (by decide)
            refine Tr.sc [(0, r59)] rfl ?_
            refine Tr.istore (pc := 62) (i := 5) (ls2 := [(5, (0, r59)), (0, (2, 6)), (1, (0, a1)), (2, (0, p7_2)), (3, (0, p7_3)), (4, (0, p7_4))]) d_X5_orders_62 (by decide) rfl ?_
            refine Tr.iload_n (pc := 64) (i := 3) d_X5_orders_64 rfl rfl ?_
            have J85 : ∀ (M : Mem) (p85_2 : Int), St Tru ws_X5_orders_6_w13 as_X5_orders_6_w13 M0 M → ((-1) ≤ p85_2 ∧ p85_2 ≤ 59) → rd M 5 r54 = r57 → rd M 6 5 = r54 → rd M 6 6 = 4 → Tr l K 27 mX5_orders 85 [(0, (2, 6)), (1, (0, a1)), (2, (0, p85_2)), (4, (0, p7_4)), (5, (0, r59))] [] M (q_X5_orders_6_w13 M0) := by
              intro M p85_2 hS bp85_2 k85_5_r5410 k85_6_5 k85_6_6
              refine Tr.iload (pc := 85) (i := 5) d_X5_orders_85 rfl ?_
              refine Tr.istore_n (pc := 87) (i := 3) (ls2 := [(3, (0, r59)), (0, (2, 6)), (1, (0, a1)), (2, (0, p85_2)), (4, (0, p7_4)), (5, (0, r59))]) d_X5_orders_87 rfl (by decide) rfl ?_
              refine Tr.aload_n (pc := 88) (i := 0) d_X5_orders_88 rfl rfl ?_
              refine Tr.callV (pc := 89) (as := []) d_X5_orders_89 s_5_74 ok_X5_goOn rfl rfl (Nat.le_of_ble_eq_true rfl) (Nat.le_of_ble_eq_true rfl) (by decide) (ty_6 hS.1.1) ?_
              refine Tr.imp (Tr.deep (by decide) (sp_X5_goOn_6 hS.1 )) ?_
              rintro M89 _ ⟨h89, r89, rfl, lr89, ur89⟩
              have hS := St.tr hS h89 (by decide) (by decide)
              refine Tr.sc [(0, r89)] rfl ?_
              refine Tr.pop (pc := 92) d_X5_orders_92 ne01 ?_
              refine Tr.aload_n (pc := 93) (i := 0) d_X5_orders_93 rfl rfl ?_
              refine Tr.iload (pc := 94) (i := 5) d_X5_orders_94 rfl ?_
              refine Tr.callV (pc := 96) (as := [_]) d_X5_orders_96 s_5_166 ok_X5_order rfl rfl (Nat.le_of_ble_eq_true rfl) (Nat.le_of_ble_eq_true rfl) (by decide) (ty_6 hS.1.1) ?_
              refine Tr.imp (Tr.deep (by decide) (sp_X5_order_6_w13 hS.1 hE ((St.kp hS (by decide) (by decide) (by decide)).trans en_6_2) ((St.kp hS (by decide) (by decide) (by decide)).trans en_6_3) ((St.kp hS (by decide) (by decide) (by decide)).trans en_6_4) ((St.kp h89 (by decide) (by decide) (by decide)).trans k85_6_6) r59 (by omega))) ?_
              rintro M96 _ ⟨h96, r96, rfl, lr96, ur96, x96_6_6⟩
              have hS := St.tr hS h96 (by decide) (by decide)
              refine Tr.sc [(0, r96)] rfl ?_
              refine Tr.if_ne (pc := 99) (tgt := 105) d_X5_orders_99 rfl (fun c99 => ?_) (fun c99 => ?_)
              · refine Tr.iincV (pc := 105) (n2 := (p7_4 + 1)) (ls2 := [(4, (0, (p7_4 + 1))), (3, (0, r59)), (0, (2, 6)), (1, (0, a1)), (2, (0, p85_2)), (5, (0, r59))]) d_X5_orders_105 rfl (by decide) ((w32_id (by omega)).trans (by omega)) rfl ?_
                refine Tr.goto (pc := 108) (tgt := 7) d_X5_orders_108 rfl ?_
                refine Tr.pick [2, 3, 4, 1, 0] (ls2 := [(0, (2, 6)), (1, (0, a1)), (2, (0, p85_2)), (3, (0, r59)), (4, (0, (p7_4 + 1)))]) rfl ?_
                exact J7 _ _ _ _ hS (by omega) (by omega) (by omega) (x96_6_6 (by omega)) (by omega)
              · refine Tr.bipush (pc := 102) d_X5_orders_102 rfl (by decide) ?_
                exact Tr.iret (pc := 104) d_X5_orders_104 rfl ⟨hS, _, rfl, by omega, by omega, fun hq => absurd hq (by omega)⟩
            refine Tr.if_ge (pc := 65) (tgt := 74) d_X5_orders_65 rfl (fun c65 => ?_) (fun c65 => ?_)
            · refine Tr.aload_n (pc := 74) (i := 0) d_X5_orders_74 rfl rfl ?_
              refine Tr.getf (pc := 75) d_X5_orders_75 f_5_32 (by decide) (by decide) (ty_6 hS.1.1) ?_
              refine Tr.tp 15 ((St.kp hS (by decide) (by decide) (by decide)).trans en_6_4) ?_
              refine Tr.getf (pc := 78) d_X5_orders_78 f_5_163 (by decide) (by decide) (ty_15 hS.1.1) ?_
              refine Tr.tp 21 (fx_15_6 hS.1.1) ?_
              refine Tr.iload_n (pc := 81) (i := 3) d_X5_orders_81 rfl rfl ?_
              refine Tr.iload (pc := 82) (i := 5) d_X5_orders_82 rfl ?_
              refine Tr.iastS (pc := 84) (P := St Tru ws_X5_orders_6_w13 as_X5_orders_6_w13 M0) d_X5_orders_84 (ty_21 hS.1.1) (by omega) (by omega) (sa_21 hS (by decide) (by omega) trivial) (fun M84 hS w84 => ?_)
              refine Tr.pick [1, 2, 3, 5, 0] (ls2 := [(0, (2, 6)), (1, (0, a1)), (2, (0, p7_2)), (4, (0, p7_4)), (5, (0, r59))]) rfl ?_
              exact J85 _ _ hS (by omega) ((Wr.b w84 rfl).trans ((St.ka h59 (by decide) (by decide) (by decide)).trans er57)) ((Wr.b w84 rfl).trans ((St.kp h59 (by decide) (by decide) (by decide)).trans er54)) ((Wr.b w84 rfl).trans ((St.kp h59 (by decide) (by decide) (by decide)).trans ((St.kp h15 (by decide) (by decide) (by decide)).trans k7_6_6)))
            · refine Tr.iload (pc := 68) (i := 5) d_X5_orders_68 rfl ?_
              refine Tr.istore_n (pc := 70) (i := 2) (ls2 := [(2, (0, r59)), (5, (0, r59)), (0, (2, 6)), (1, (0, a1)), (3, (0, p7_3)), (4, (0, p7_4))]) d_X5_orders_70 rfl (by decide) rfl ?_
              refine Tr.goto (pc := 71) (tgt := 85) d_X5_orders_71 rfl ?_
              refine Tr.pick [2, 3, 0, 5, 1] (ls2 := [(0, (2, 6)), (1, (0, a1)), (2, (0, r59)), (4, (0, p7_4)), (5, (0, r59))]) rfl ?_
              exact J85 _ _ hS (by omega) ((St.ka h59 (by decide) (by decide) (by decide)).trans er57) ((St.kp h59 (by decide) (by decide) (by decide)).trans er54) ((St.kp h59 (by decide) (by decide) (by decide)).trans ((St.kp h15 (by decide) (by decide) (by decide)).trans k7_6_6))
          · refine Tr.aload_n (pc := 33) (i := 0) d_X5_orders_33 rfl rfl ?_
            refine Tr.iconst (pc := 34) d_X5_orders_34 (by decide) ?_
            refine Tr.callV (pc := 35) (as := [_]) d_X5_orders_35 s_5_56 ok_X5_refuse rfl rfl (Nat.le_of_ble_eq_true rfl) (Nat.le_of_ble_eq_true rfl) (by decide) (ty_6 hS.1.1) ?_
            refine Tr.imp (Tr.deep (by decide) (sp_X5_refuse_6_w2 hS.1 ((St.kp hS (by decide) (by decide) (by decide)).trans en_6_2) 5 (by omega))) ?_
            rintro M35 _ ⟨h35, r35, rfl, lr35, ur35⟩
            have hS := St.tr hS h35 (by decide) (by decide)
            refine Tr.sc [(0, r35)] rfl ?_
            refine Tr.pop (pc := 38) d_X5_orders_38 ne01 ?_
            refine Tr.bipush (pc := 39) d_X5_orders_39 rfl (by decide) ?_
            exact Tr.iret (pc := 41) d_X5_orders_41 rfl ⟨hS, _, rfl, by omega, by omega, fun hq => absurd hq (by omega)⟩
  refine Tr.pick [3, 4, 2, 1, 0] (ls2 := [(0, (2, 6)), (1, (0, a1)), (2, (0, (-1))), (3, (0, (-1))), (4, (0, 0))]) rfl ?_
  exact J7 _ _ _ _ _ hS (by omega) (by omega) (by omega) en_6_6 (Nat.lt_succ_self _)

def ws_X5_block_6_w12 : List (Int × Int) := [(6, 0), (6, 1), (6, 5), (6, 6), (15, 0), (15, 11)]
def as_X5_block_6_w12 : List Int := [16, 17, 18, 19, 20, 21, 22, 24, 25]
def q_X5_block_6_w12 (M0 M' : Mem) (r : Option PV) : Prop := St Tru ws_X5_block_6_w12 as_X5_block_6_w12 M0 M' ∧ ∃ v : Int, r = some (0, v) ∧ (-2) ≤ v ∧ v ≤ 59 ∧ (((-1) ≤ v ∧ v ≤ 1000000) → rd M' 6 6 = 3)
set_option maxRecDepth 100000 in
set_option maxHeartbeats 4000000 in
theorem sp_X5_block_6_w12 {l : Launch} {K : EC} {M0 : Mem} {xq : Int} (hI : In Tru M0) (hE : e_all K xq) (en_6_2 : rd M0 6 2 = 2) (en_6_3 : rd M0 6 3 = 7) (en_6_4 : rd M0 6 4 = 15) (en_6_6 : rd M0 6 6 = 3) (a1 : Int) (ha1 : 0 ≤ a1 ∧ a1 ≤ 59)  : Tr l K 28 mX5_block 0 [(0, (2, 6)), (1, (0, a1))] [] M0 (q_X5_block_6_w12 M0) := by
  have hS : St Tru ws_X5_block_6_w12 as_X5_block_6_w12 M0 M0 := St.rf hI
  refine Tr.aload_n (pc := 0) (i := 0) d_X5_block_0 rfl rfl ?_
  refine Tr.bipush (pc := 1) d_X5_block_1 rfl (by decide) ?_
  refine Tr.callV (pc := 3) (as := [_]) d_X5_block_3 s_5_206 ok_X5_takeOpening rfl rfl (Nat.le_of_ble_eq_true rfl) (Nat.le_of_ble_eq_true rfl) (by decide) (ty_6 hS.1.1) ?_
  refine Tr.imp (Tr.deep (by decide) (sp_X5_takeOpening_6_w21 hS.1 ((St.kp hS (by decide) (by decide) (by decide)).trans en_6_2) en_6_6 123 (by omega))) ?_
  rintro M3 _ ⟨h3, r3, rfl, lr3, ur3, x3_6_6⟩
  have hS := St.tr hS h3 (by decide) (by decide)
  refine Tr.sc [(0, r3)] rfl ?_
  refine Tr.if_ne (pc := 6) (tgt := 12) d_X5_block_6 rfl (fun c6 => ?_) (fun c6 => ?_)
  · refine Tr.aload_n (pc := 12) (i := 0) d_X5_block_12 rfl rfl ?_
    refine Tr.iload_n (pc := 13) (i := 1) d_X5_block_13 rfl rfl ?_
    refine Tr.callV (pc := 14) (as := [_]) d_X5_block_14 s_5_46 ok_X5_orders rfl rfl (Nat.le_of_ble_eq_true rfl) (Nat.le_of_ble_eq_true rfl) (by decide) (ty_6 hS.1.1) ?_
    refine Tr.imp (Tr.deep (by decide) (sp_X5_orders_6_w13 hS.1 hE ((St.kp hS (by decide) (by decide) (by decide)).trans en_6_2) ((St.kp hS (by decide) (by decide) (by decide)).trans en_6_3) ((St.kp hS (by decide) (by decide) (by decide)).trans en_6_4) (x3_6_6 (by omega)) a1 (by omega))) ?_
    rintro M14 _ ⟨h14, r14, rfl, lr14, ur14, x14_6_6⟩
    have hS := St.tr hS h14 (by decide) (by decide)
    refine Tr.sc [(0, r14)] rfl ?_
    refine Tr.istore_n (pc := 17) (i := 2) (ls2 := [(2, (0, r14)), (0, (2, 6)), (1, (0, a1))]) d_X5_block_17 rfl (by decide) rfl ?_
    refine Tr.iload_n (pc := 18) (i := 2) d_X5_block_18 rfl rfl ?_
    refine Tr.bipush (pc := 19) d_X5_block_19 rfl (by decide) ?_
    refine Tr.icmp_eq (pc := 21) (tgt := 33) d_X5_block_21 rfl (fun c21 => ?_) (fun c21 => ?_)
    · refine Tr.bipush (pc := 33) d_X5_block_33 rfl (by decide) ?_
      exact Tr.iret (pc := 35) d_X5_block_35 rfl ⟨hS, _, rfl, by omega, by omega, fun hq => absurd hq (by omega)⟩
    · refine Tr.aload_n (pc := 24) (i := 0) d_X5_block_24 rfl rfl ?_
      refine Tr.bipush (pc := 25) d_X5_block_25 rfl (by decide) ?_
      refine Tr.callV (pc := 27) (as := [_]) d_X5_block_27 s_5_209 ok_X5_takeClosing rfl rfl (Nat.le_of_ble_eq_true rfl) (Nat.le_of_ble_eq_true rfl) (by decide) (ty_6 hS.1.1) ?_
      refine Tr.imp (Tr.deep (by decide) (sp_X5_takeClosing_6_w20 hS.1 ((St.kp hS (by decide) (by decide) (by decide)).trans en_6_2) (x14_6_6 (by omega)) 125 (by omega))) ?_
      rintro M27 _ ⟨h27, r27, rfl, lr27, ur27, x27_6_6⟩
      have hS := St.tr hS h27 (by decide) (by decide)
      refine Tr.sc [(0, r27)] rfl ?_
      refine Tr.if_ne (pc := 30) (tgt := 36) d_X5_block_30 rfl (fun c30 => ?_) (fun c30 => ?_)
      · refine Tr.iload_n (pc := 36) (i := 2) d_X5_block_36 rfl rfl ?_
        exact Tr.iret (pc := 37) d_X5_block_37 rfl ⟨hS, _, rfl, by omega, by omega, fun _ => (x27_6_6 (by omega))⟩
      · refine Tr.bipush (pc := 33) d_X5_block_33 rfl (by decide) ?_
        exact Tr.iret (pc := 35) d_X5_block_35 rfl ⟨hS, _, rfl, by omega, by omega, fun hq => absurd hq (by omega)⟩
  · refine Tr.bipush (pc := 9) d_X5_block_9 rfl (by decide) ?_
    exact Tr.iret (pc := 11) d_X5_block_11 rfl ⟨hS, _, rfl, by omega, by omega, fun hq => absurd hq (by omega)⟩

def ws_X5_yesBlock_6_w12 : List (Int × Int) := [(6, 0), (6, 1), (6, 5), (6, 6), (15, 0), (15, 11)]
def as_X5_yesBlock_6_w12 : List Int := [16, 17, 18, 19, 20, 21, 22, 24, 25]
def q_X5_yesBlock_6_w12 (M0 M' : Mem) (r : Option PV) : Prop := St Tru ws_X5_yesBlock_6_w12 as_X5_yesBlock_6_w12 M0 M' ∧ ∃ v : Int, r = some (0, v) ∧ 0 ≤ v ∧ v ≤ 1 ∧ ((1 ≤ v ∧ v ≤ 1) → rd M' 6 6 = 3)
set_option maxRecDepth 100000 in
set_option maxHeartbeats 4000000 in
theorem sp_X5_yesBlock_6_w12 {l : Launch} {K : EC} {M0 : Mem} {xq : Int} (hI : In Tru M0) (hE : e_all K xq) (en_6_2 : rd M0 6 2 = 2) (en_6_3 : rd M0 6 3 = 7) (en_6_4 : rd M0 6 4 = 15) (en_6_6 : rd M0 6 6 = 3) (a1 : Int) (ha1 : 0 ≤ a1 ∧ a1 ≤ 59)  : Tr l K 29 mX5_yesBlock 0 [(0, (2, 6)), (1, (0, a1))] [] M0 (q_X5_yesBlock_6_w12 M0) := by
  have hS : St Tru ws_X5_yesBlock_6_w12 as_X5_yesBlock_6_w12 M0 M0 := St.rf hI
  refine Tr.aload_n (pc := 0) (i := 0) d_X5_yesBlock_0 rfl rfl ?_
  refine Tr.iload_n (pc := 1) (i := 1) d_X5_yesBlock_1 rfl rfl ?_
  refine Tr.callV (pc := 2) (as := [_]) d_X5_yesBlock_2 s_5_197 ok_X5_block rfl rfl (Nat.le_of_ble_eq_true rfl) (Nat.le_of_ble_eq_true rfl) (by decide) (ty_6 hS.1.1) ?_
  refine Tr.imp (Tr.deep (by decide) (sp_X5_block_6_w12 hS.1 hE ((St.kp hS (by decide) (by decide) (by decide)).trans en_6_2) ((St.kp hS (by decide) (by decide) (by decide)).trans en_6_3) ((St.kp hS (by decide) (by decide) (by decide)).trans en_6_4) en_6_6 a1 (by omega))) ?_
  rintro M2 _ ⟨h2, r2, rfl, lr2, ur2, x2_6_6⟩
  have hS := St.tr hS h2 (by decide) (by decide)
  refine Tr.sc [(0, r2)] rfl ?_
  refine Tr.istore_n (pc := 5) (i := 2) (ls2 := [(2, (0, r2)), (0, (2, 6)), (1, (0, a1))]) d_X5_yesBlock_5 rfl (by decide) rfl ?_
  refine Tr.aload_n (pc := 6) (i := 0) d_X5_yesBlock_6 rfl rfl ?_
  refine Tr.getf (pc := 7) d_X5_yesBlock_7 f_5_32 (by decide) (by decide) (ty_6 hS.1.1) ?_
  refine Tr.tp 15 ((St.kp hS (by decide) (by decide) (by decide)).trans en_6_4) ?_
  refine Tr.getf (pc := 10) d_X5_yesBlock_10 f_5_200 (by decide) (by decide) (ty_15 hS.1.1) ?_
  refine Tr.tp 19 (fx_15_4 hS.1.1) ?_
  refine Tr.iload_n (pc := 13) (i := 1) d_X5_yesBlock_13 rfl rfl ?_
  refine Tr.iload_n (pc := 14) (i := 2) d_X5_yesBlock_14 rfl rfl ?_
  refine Tr.iastS (pc := 15) (P := St Tru ws_X5_yesBlock_6_w12 as_X5_yesBlock_6_w12 M0) d_X5_yesBlock_15 (ty_19 hS.1.1) (by omega) (by omega) (sa_19 hS (by decide) (by omega) trivial) (fun M15 hS w15 => ?_)
  refine Tr.iload_n (pc := 16) (i := 2) d_X5_yesBlock_16 rfl rfl ?_
  refine Tr.bipush (pc := 17) d_X5_yesBlock_17 rfl (by decide) ?_
  refine Tr.icmp_eq (pc := 19) (tgt := 26) d_X5_yesBlock_19 rfl (fun c19 => ?_) (fun c19 => ?_)
  · refine Tr.iconst (pc := 26) d_X5_yesBlock_26 (by decide) ?_
    exact Tr.zret (pc := 27) d_X5_yesBlock_27 rfl (by omega) ⟨hS, _, rfl, by omega, by omega, fun hq => absurd hq (by omega)⟩
  · refine Tr.iconst (pc := 22) d_X5_yesBlock_22 (by decide) ?_
    refine Tr.goto (pc := 23) (tgt := 27) d_X5_yesBlock_23 rfl ?_
    exact Tr.zret (pc := 27) d_X5_yesBlock_27 rfl (by omega) ⟨hS, _, rfl, by omega, by omega, fun _ => ((Wr.b w15 rfl).trans (x2_6_6 (by omega)))⟩

def ws_X5_noBlock_6_w12 : List (Int × Int) := [(6, 0), (6, 1), (6, 5), (6, 6), (15, 0), (15, 11)]
def as_X5_noBlock_6_w12 : List Int := [16, 17, 18, 19, 20, 21, 22, 24, 25]
def q_X5_noBlock_6_w12 (M0 M' : Mem) (r : Option PV) : Prop := St Tru ws_X5_noBlock_6_w12 as_X5_noBlock_6_w12 M0 M' ∧ ∃ v : Int, r = some (0, v) ∧ 0 ≤ v ∧ v ≤ 1 ∧ ((1 ≤ v ∧ v ≤ 1) → rd M' 6 6 = 3)
set_option maxRecDepth 100000 in
set_option maxHeartbeats 4000000 in
theorem sp_X5_noBlock_6_w12 {l : Launch} {K : EC} {M0 : Mem} {xq : Int} (hI : In Tru M0) (hE : e_all K xq) (en_6_2 : rd M0 6 2 = 2) (en_6_3 : rd M0 6 3 = 7) (en_6_4 : rd M0 6 4 = 15) (en_6_6 : rd M0 6 6 = 3) (a1 : Int) (ha1 : 0 ≤ a1 ∧ a1 ≤ 59)  : Tr l K 29 mX5_noBlock 0 [(0, (2, 6)), (1, (0, a1))] [] M0 (q_X5_noBlock_6_w12 M0) := by
  have hS : St Tru ws_X5_noBlock_6_w12 as_X5_noBlock_6_w12 M0 M0 := St.rf hI
  refine Tr.aload_n (pc := 0) (i := 0) d_X5_noBlock_0 rfl rfl ?_
  refine Tr.bipush (pc := 1) d_X5_noBlock_1 rfl (by decide) ?_
  refine Tr.callV (pc := 3) (as := [_]) d_X5_noBlock_3 s_5_71 ok_X5_isOwn rfl rfl (Nat.le_of_ble_eq_true rfl) (Nat.le_of_ble_eq_true rfl) (by decide) (ty_6 hS.1.1) ?_
  refine Tr.imp (Tr.deep (by decide) (sp_X5_isOwn_6 hS.1 ((St.kp hS (by decide) (by decide) (by decide)).trans en_6_2) 13 (by omega))) ?_
  rintro M3 _ ⟨h3, r3, rfl, lr3, ur3⟩
  have hS := St.tr hS h3 (by decide) (by decide)
  refine Tr.sc [(0, r3)] rfl ?_
  refine Tr.if_ne (pc := 6) (tgt := 11) d_X5_noBlock_6 rfl (fun c6 => ?_) (fun c6 => ?_)
  · refine Tr.aload_n (pc := 11) (i := 0) d_X5_noBlock_11 rfl rfl ?_
    refine Tr.callV (pc := 12) (as := []) d_X5_noBlock_12 s_5_74 ok_X5_goOn rfl rfl (Nat.le_of_ble_eq_true rfl) (Nat.le_of_ble_eq_true rfl) (by decide) (ty_6 hS.1.1) ?_
    refine Tr.imp (Tr.deep (by decide) (sp_X5_goOn_6 hS.1 )) ?_
    rintro M12 _ ⟨h12, r12, rfl, lr12, ur12⟩
    have hS := St.tr hS h12 (by decide) (by decide)
    refine Tr.sc [(0, r12)] rfl ?_
    refine Tr.pop (pc := 15) d_X5_noBlock_15 ne01 ?_
    refine Tr.aload_n (pc := 16) (i := 0) d_X5_noBlock_16 rfl rfl ?_
    refine Tr.iload_n (pc := 17) (i := 1) d_X5_noBlock_17 rfl rfl ?_
    refine Tr.callV (pc := 18) (as := [_]) d_X5_noBlock_18 s_5_197 ok_X5_block rfl rfl (Nat.le_of_ble_eq_true rfl) (Nat.le_of_ble_eq_true rfl) (by decide) (ty_6 hS.1.1) ?_
    refine Tr.imp (Tr.deep (by decide) (sp_X5_block_6_w12 hS.1 hE ((St.kp hS (by decide) (by decide) (by decide)).trans en_6_2) ((St.kp hS (by decide) (by decide) (by decide)).trans en_6_3) ((St.kp hS (by decide) (by decide) (by decide)).trans en_6_4) ((St.kp h12 (by decide) (by decide) (by decide)).trans ((St.kp h3 (by decide) (by decide) (by decide)).trans en_6_6)) a1 (by omega))) ?_
    rintro M18 _ ⟨h18, r18, rfl, lr18, ur18, x18_6_6⟩
    have hS := St.tr hS h18 (by decide) (by decide)
    refine Tr.sc [(0, r18)] rfl ?_
    refine Tr.istore_n (pc := 21) (i := 2) (ls2 := [(2, (0, r18)), (0, (2, 6)), (1, (0, a1))]) d_X5_noBlock_21 rfl (by decide) rfl ?_
    refine Tr.aload_n (pc := 22) (i := 0) d_X5_noBlock_22 rfl rfl ?_
    refine Tr.getf (pc := 23) d_X5_noBlock_23 f_5_32 (by decide) (by decide) (ty_6 hS.1.1) ?_
    refine Tr.tp 15 ((St.kp hS (by decide) (by decide) (by decide)).trans en_6_4) ?_
    refine Tr.getf (pc := 26) d_X5_noBlock_26 f_5_203 (by decide) (by decide) (ty_15 hS.1.1) ?_
    refine Tr.tp 20 (fx_15_5 hS.1.1) ?_
    refine Tr.iload_n (pc := 29) (i := 1) d_X5_noBlock_29 rfl rfl ?_
    refine Tr.iload_n (pc := 30) (i := 2) d_X5_noBlock_30 rfl rfl ?_
    refine Tr.iastS (pc := 31) (P := St Tru ws_X5_noBlock_6_w12 as_X5_noBlock_6_w12 M0) d_X5_noBlock_31 (ty_20 hS.1.1) (by omega) (by omega) (sa_20 hS (by decide) (by omega) trivial) (fun M31 hS w31 => ?_)
    refine Tr.iload_n (pc := 32) (i := 2) d_X5_noBlock_32 rfl rfl ?_
    refine Tr.bipush (pc := 33) d_X5_noBlock_33 rfl (by decide) ?_
    refine Tr.icmp_eq (pc := 35) (tgt := 42) d_X5_noBlock_35 rfl (fun c35 => ?_) (fun c35 => ?_)
    · refine Tr.iconst (pc := 42) d_X5_noBlock_42 (by decide) ?_
      exact Tr.zret (pc := 43) d_X5_noBlock_43 rfl (by omega) ⟨hS, _, rfl, by omega, by omega, fun hq => absurd hq (by omega)⟩
    · refine Tr.iconst (pc := 38) d_X5_noBlock_38 (by decide) ?_
      refine Tr.goto (pc := 39) (tgt := 43) d_X5_noBlock_39 rfl ?_
      exact Tr.zret (pc := 43) d_X5_noBlock_43 rfl (by omega) ⟨hS, _, rfl, by omega, by omega, fun _ => ((Wr.b w31 rfl).trans (x18_6_6 (by omega)))⟩
  · refine Tr.iconst (pc := 9) d_X5_noBlock_9 (by decide) ?_
    exact Tr.zret (pc := 10) d_X5_noBlock_10 rfl (by omega) ⟨hS, _, rfl, by omega, by omega, fun _ => ((St.kp h3 (by decide) (by decide) (by decide)).trans en_6_6)⟩

def ws_X5_order_6_w12 : List (Int × Int) := [(6, 0), (6, 1), (6, 5), (6, 6), (15, 0), (15, 11)]
def as_X5_order_6_w12 : List Int := [16, 17, 18, 19, 20, 21, 22, 24, 25]
def q_X5_order_6_w12 (M0 M' : Mem) (r : Option PV) : Prop := St Tru ws_X5_order_6_w12 as_X5_order_6_w12 M0 M' ∧ ∃ v : Int, r = some (0, v) ∧ 0 ≤ v ∧ v ≤ 1 ∧ ((1 ≤ v ∧ v ≤ 1) → rd M' 6 6 = 3)
set_option maxRecDepth 100000 in
set_option maxHeartbeats 4000000 in
theorem sp_X5_order_6_w12 {l : Launch} {K : EC} {M0 : Mem} {xq : Int} (hI : In Tru M0) (hE : e_all K xq) (en_6_2 : rd M0 6 2 = 2) (en_6_3 : rd M0 6 3 = 7) (en_6_4 : rd M0 6 4 = 15) (en_6_6 : rd M0 6 6 = 3) (a1 : Int) (ha1 : 0 ≤ a1 ∧ a1 ≤ 59)  : Tr l K 30 mX5_order 0 [(0, (2, 6)), (1, (0, a1))] [] M0 (q_X5_order_6_w12 M0) := by
  have hS : St Tru ws_X5_order_6_w12 as_X5_order_6_w12 M0 M0 := St.rf hI
  refine Tr.aload_n (pc := 0) (i := 0) d_X5_order_0 rfl rfl ?_
  refine Tr.getf (pc := 1) d_X5_order_1 f_5_32 (by decide) (by decide) (ty_6 hS.1.1) ?_
  refine Tr.tp 15 ((St.kp hS (by decide) (by decide) (by decide)).trans en_6_4) ?_
  refine Tr.getf (pc := 4) d_X5_order_4 f_5_169 (by decide) (by decide) (ty_15 hS.1.1) ?_
  refine Tr.tp 16 (fx_15_1 hS.1.1) ?_
  refine Tr.iload_n (pc := 7) (i := 1) d_X5_order_7 rfl rfl ?_
  refine Tr.iald (pc := 8) d_X5_order_8 (ty_16 hS.1.1) (by omega) (by omega) ?_
  refine Tr.gen (P := fun v => (-2147483648) ≤ v ∧ v ≤ 2147483647) (ar_16 hS.1.2.1 _) (fun r8 er8 br8 => ?_)
  rcases (show (r8 < 5 ∨ 11 < r8) ∨ r8 = 5 ∨ r8 = 6 ∨ r8 = 7 ∨ r8 = 8 ∨ r8 = 9 ∨ r8 = 10 ∨ r8 = 11 by omega) with c9 | c9 | c9 | c9 | c9 | c9 | c9 | c9
  · refine Tr.tswOut (pc := 9) (tgt := 198) d_X5_order_9 c9 rfl ?_
    refine Tr.aload_n (pc := 198) (i := 0) d_X5_order_198 rfl rfl ?_
    refine Tr.callV (pc := 199) (as := []) d_X5_order_199 s_5_177 ok_X5_test rfl rfl (Nat.le_of_ble_eq_true rfl) (Nat.le_of_ble_eq_true rfl) (by decide) (ty_6 hS.1.1) ?_
    refine Tr.imp (Tr.deep (by decide) (sp_X5_test_6_w12 hS.1 hE ((St.kp hS (by decide) (by decide) (by decide)).trans en_6_2) ((St.kp hS (by decide) (by decide) (by decide)).trans en_6_3) ((St.kp hS (by decide) (by decide) (by decide)).trans en_6_4) en_6_6)) ?_
    rintro M199 _ ⟨h199, r199, rfl, lr199, ur199, x199_6_6⟩
    have hS := St.tr hS h199 (by decide) (by decide)
    refine Tr.sc [(0, r199)] rfl ?_
    refine Tr.if_eq (pc := 202) (tgt := 217) d_X5_order_202 rfl (fun c202 => ?_) (fun c202 => ?_)
    · refine Tr.iconst (pc := 217) d_X5_order_217 (by decide) ?_
      exact Tr.zret (pc := 218) d_X5_order_218 rfl (by omega) ⟨hS, _, rfl, by omega, by omega, fun hq => absurd hq (by omega)⟩
    · refine Tr.aload_n (pc := 205) (i := 0) d_X5_order_205 rfl rfl ?_
      refine Tr.iload_n (pc := 206) (i := 1) d_X5_order_206 rfl rfl ?_
      refine Tr.callV (pc := 207) (as := [_]) d_X5_order_207 s_5_180 ok_X5_yesBlock rfl rfl (Nat.le_of_ble_eq_true rfl) (Nat.le_of_ble_eq_true rfl) (by decide) (ty_6 hS.1.1) ?_
      refine Tr.imp (Tr.deep (by decide) (sp_X5_yesBlock_6_w12 hS.1 hE ((St.kp hS (by decide) (by decide) (by decide)).trans en_6_2) ((St.kp hS (by decide) (by decide) (by decide)).trans en_6_3) ((St.kp hS (by decide) (by decide) (by decide)).trans en_6_4) (x199_6_6 (by omega)) a1 (by omega))) ?_
      rintro M207 _ ⟨h207, r207, rfl, lr207, ur207, x207_6_6⟩
      have hS := St.tr hS h207 (by decide) (by decide)
      refine Tr.sc [(0, r207)] rfl ?_
      refine Tr.if_eq (pc := 210) (tgt := 217) d_X5_order_210 rfl (fun c210 => ?_) (fun c210 => ?_)
      · refine Tr.iconst (pc := 217) d_X5_order_217 (by decide) ?_
        exact Tr.zret (pc := 218) d_X5_order_218 rfl (by omega) ⟨hS, _, rfl, by omega, by omega, fun hq => absurd hq (by omega)⟩
      · refine Tr.iconst (pc := 213) d_X5_order_213 (by decide) ?_
        refine Tr.goto (pc := 214) (tgt := 218) d_X5_order_214 rfl ?_
        exact Tr.zret (pc := 218) d_X5_order_218 rfl (by omega) ⟨hS, _, rfl, by omega, by omega, fun _ => (x207_6_6 (by omega))⟩
  · refine Tr.tp 5 c9 ?_
    refine Tr.tswIn (pc := 9) (off := 43) (tgt := 52) d_X5_order_9 (by decide) (by decide) rfl rfl ?_
    refine Tr.aload_n (pc := 52) (i := 0) d_X5_order_52 rfl rfl ?_
    refine Tr.iload_n (pc := 53) (i := 1) d_X5_order_53 rfl rfl ?_
    refine Tr.iconst (pc := 54) d_X5_order_54 (by decide) ?_
    refine Tr.callV (pc := 55) (as := [_, _]) d_X5_order_55 s_5_170 ok_X5_about rfl rfl (Nat.le_of_ble_eq_true rfl) (Nat.le_of_ble_eq_true rfl) (by decide) (ty_6 hS.1.1) ?_
    refine Tr.imp (Tr.deep (by decide) (sp_X5_about_6_v2_w1 hS.1 hE ((St.kp hS (by decide) (by decide) (by decide)).trans en_6_2) ((St.kp hS (by decide) (by decide) (by decide)).trans en_6_3) ((St.kp hS (by decide) (by decide) (by decide)).trans en_6_4) a1 (by omega))) ?_
    rintro M55 _ ⟨h55, r55, rfl, lr55, ur55⟩
    have hS := St.tr hS h55 (by decide) (by decide)
    refine Tr.sc [(0, r55)] rfl ?_
    refine Tr.if_eq (pc := 58) (tgt := 90) d_X5_order_58 rfl (fun c58 => ?_) (fun c58 => ?_)
    · refine Tr.iconst (pc := 90) d_X5_order_90 (by decide) ?_
      exact Tr.zret (pc := 91) d_X5_order_91 rfl (by omega) ⟨hS, _, rfl, by omega, by omega, fun hq => absurd hq (by omega)⟩
    · refine Tr.aload_n (pc := 61) (i := 0) d_X5_order_61 rfl rfl ?_
      refine Tr.bipush (pc := 62) d_X5_order_62 rfl (by decide) ?_
      refine Tr.callV (pc := 64) (as := [_]) d_X5_order_64 s_5_81 ok_X5_takeSign rfl rfl (Nat.le_of_ble_eq_true rfl) (Nat.le_of_ble_eq_true rfl) (by decide) (ty_6 hS.1.1) ?_
      refine Tr.imp (Tr.deep (by decide) (sp_X5_takeSign_6_w3 hS.1 ((St.kp hS (by decide) (by decide) (by decide)).trans en_6_2) 61 (by omega))) ?_
      rintro M64 _ ⟨h64, r64, rfl, lr64, ur64⟩
      have hS := St.tr hS h64 (by decide) (by decide)
      refine Tr.sc [(0, r64)] rfl ?_
      refine Tr.if_eq (pc := 67) (tgt := 90) d_X5_order_67 rfl (fun c67 => ?_) (fun c67 => ?_)
      · refine Tr.iconst (pc := 90) d_X5_order_90 (by decide) ?_
        exact Tr.zret (pc := 91) d_X5_order_91 rfl (by omega) ⟨hS, _, rfl, by omega, by omega, fun hq => absurd hq (by omega)⟩
      · refine Tr.aload_n (pc := 70) (i := 0) d_X5_order_70 rfl rfl ?_
        refine Tr.callV (pc := 71) (as := []) d_X5_order_71 s_5_174 ok_X5_sum rfl rfl (Nat.le_of_ble_eq_true rfl) (Nat.le_of_ble_eq_true rfl) (by decide) (ty_6 hS.1.1) ?_
        refine Tr.imp (Tr.deep (by decide) (sp_X5_sum_6_w12 hS.1 hE ((St.kp hS (by decide) (by decide) (by decide)).trans en_6_2) ((St.kp hS (by decide) (by decide) (by decide)).trans en_6_3) ((St.kp hS (by decide) (by decide) (by decide)).trans en_6_4) ((St.kp h64 (by decide) (by decide) (by decide)).trans ((St.kp h55 (by decide) (by decide) (by decide)).trans en_6_6)))) ?_
        rintro M71 _ ⟨h71, r71, rfl, lr71, ur71, x71_6_6⟩
        have hS := St.tr hS h71 (by decide) (by decide)
        refine Tr.sc [(0, r71)] rfl ?_
        refine Tr.if_eq (pc := 74) (tgt := 90) d_X5_order_74 rfl (fun c74 => ?_) (fun c74 => ?_)
        · refine Tr.iconst (pc := 90) d_X5_order_90 (by decide) ?_
          exact Tr.zret (pc := 91) d_X5_order_91 rfl (by omega) ⟨hS, _, rfl, by omega, by omega, fun hq => absurd hq (by omega)⟩
        · refine Tr.aload_n (pc := 77) (i := 0) d_X5_order_77 rfl rfl ?_
          refine Tr.bipush (pc := 78) d_X5_order_78 rfl (by decide) ?_
          refine Tr.callV (pc := 80) (as := [_]) d_X5_order_80 s_5_81 ok_X5_takeSign rfl rfl (Nat.le_of_ble_eq_true rfl) (Nat.le_of_ble_eq_true rfl) (by decide) (ty_6 hS.1.1) ?_
          refine Tr.imp (Tr.deep (by decide) (sp_X5_takeSign_6 hS.1 ((St.kp hS (by decide) (by decide) (by decide)).trans en_6_2) 59 (by omega))) ?_
          rintro M80 _ ⟨h80, r80, rfl, lr80, ur80⟩
          have hS := St.tr hS h80 (by decide) (by decide)
          refine Tr.sc [(0, r80)] rfl ?_
          refine Tr.if_eq (pc := 83) (tgt := 90) d_X5_order_83 rfl (fun c83 => ?_) (fun c83 => ?_)
          · refine Tr.iconst (pc := 90) d_X5_order_90 (by decide) ?_
            exact Tr.zret (pc := 91) d_X5_order_91 rfl (by omega) ⟨hS, _, rfl, by omega, by omega, fun hq => absurd hq (by omega)⟩
          · refine Tr.iconst (pc := 86) d_X5_order_86 (by decide) ?_
            refine Tr.goto (pc := 87) (tgt := 91) d_X5_order_87 rfl ?_
            exact Tr.zret (pc := 91) d_X5_order_91 rfl (by omega) ⟨hS, _, rfl, by omega, by omega, fun _ => ((St.kp h80 (by decide) (by decide) (by decide)).trans (x71_6_6 (by omega)))⟩
  · refine Tr.tp 6 c9 ?_
    refine Tr.tswIn (pc := 9) (off := 83) (tgt := 92) d_X5_order_9 (by decide) (by decide) rfl rfl ?_
    refine Tr.aload_n (pc := 92) (i := 0) d_X5_order_92 rfl rfl ?_
    refine Tr.iload_n (pc := 93) (i := 1) d_X5_order_93 rfl rfl ?_
    refine Tr.iconst (pc := 94) d_X5_order_94 (by decide) ?_
    refine Tr.callV (pc := 95) (as := [_, _]) d_X5_order_95 s_5_170 ok_X5_about rfl rfl (Nat.le_of_ble_eq_true rfl) (Nat.le_of_ble_eq_true rfl) (by decide) (ty_6 hS.1.1) ?_
    refine Tr.imp (Tr.deep (by decide) (sp_X5_about_6_v0_w1 hS.1 hE ((St.kp hS (by decide) (by decide) (by decide)).trans en_6_2) ((St.kp hS (by decide) (by decide) (by decide)).trans en_6_3) ((St.kp hS (by decide) (by decide) (by decide)).trans en_6_4) a1 (by omega))) ?_
    rintro M95 _ ⟨h95, r95, rfl, lr95, ur95⟩
    have hS := St.tr hS h95 (by decide) (by decide)
    refine Tr.sc [(0, r95)] rfl ?_
    refine Tr.if_eq (pc := 98) (tgt := 121) d_X5_order_98 rfl (fun c98 => ?_) (fun c98 => ?_)
    · refine Tr.iconst (pc := 121) d_X5_order_121 (by decide) ?_
      exact Tr.zret (pc := 122) d_X5_order_122 rfl (by omega) ⟨hS, _, rfl, by omega, by omega, fun hq => absurd hq (by omega)⟩
    · refine Tr.aload_n (pc := 101) (i := 0) d_X5_order_101 rfl rfl ?_
      refine Tr.callV (pc := 102) (as := []) d_X5_order_102 s_5_174 ok_X5_sum rfl rfl (Nat.le_of_ble_eq_true rfl) (Nat.le_of_ble_eq_true rfl) (by decide) (ty_6 hS.1.1) ?_
      refine Tr.imp (Tr.deep (by decide) (sp_X5_sum_6_w12 hS.1 hE ((St.kp hS (by decide) (by decide) (by decide)).trans en_6_2) ((St.kp hS (by decide) (by decide) (by decide)).trans en_6_3) ((St.kp hS (by decide) (by decide) (by decide)).trans en_6_4) ((St.kp h95 (by decide) (by decide) (by decide)).trans en_6_6))) ?_
      rintro M102 _ ⟨h102, r102, rfl, lr102, ur102, x102_6_6⟩
      have hS := St.tr hS h102 (by decide) (by decide)
      refine Tr.sc [(0, r102)] rfl ?_
      refine Tr.if_eq (pc := 105) (tgt := 121) d_X5_order_105 rfl (fun c105 => ?_) (fun c105 => ?_)
      · refine Tr.iconst (pc := 121) d_X5_order_121 (by decide) ?_
        exact Tr.zret (pc := 122) d_X5_order_122 rfl (by omega) ⟨hS, _, rfl, by omega, by omega, fun hq => absurd hq (by omega)⟩
      · refine Tr.aload_n (pc := 108) (i := 0) d_X5_order_108 rfl rfl ?_
        refine Tr.bipush (pc := 109) d_X5_order_109 rfl (by decide) ?_
        refine Tr.callV (pc := 111) (as := [_]) d_X5_order_111 s_5_81 ok_X5_takeSign rfl rfl (Nat.le_of_ble_eq_true rfl) (Nat.le_of_ble_eq_true rfl) (by decide) (ty_6 hS.1.1) ?_
        refine Tr.imp (Tr.deep (by decide) (sp_X5_takeSign_6 hS.1 ((St.kp hS (by decide) (by decide) (by decide)).trans en_6_2) 59 (by omega))) ?_
        rintro M111 _ ⟨h111, r111, rfl, lr111, ur111⟩
        have hS := St.tr hS h111 (by decide) (by decide)
        refine Tr.sc [(0, r111)] rfl ?_
        refine Tr.if_eq (pc := 114) (tgt := 121) d_X5_order_114 rfl (fun c114 => ?_) (fun c114 => ?_)
        · refine Tr.iconst (pc := 121) d_X5_order_121 (by decide) ?_
          exact Tr.zret (pc := 122) d_X5_order_122 rfl (by omega) ⟨hS, _, rfl, by omega, by omega, fun hq => absurd hq (by omega)⟩
        · refine Tr.iconst (pc := 117) d_X5_order_117 (by decide) ?_
          refine Tr.goto (pc := 118) (tgt := 122) d_X5_order_118 rfl ?_
          exact Tr.zret (pc := 122) d_X5_order_122 rfl (by omega) ⟨hS, _, rfl, by omega, by omega, fun _ => ((St.kp h111 (by decide) (by decide) (by decide)).trans (x102_6_6 (by omega)))⟩
  · refine Tr.tp 7 c9 ?_
    refine Tr.tswIn (pc := 9) (off := 114) (tgt := 123) d_X5_order_9 (by decide) (by decide) rfl rfl ?_
    refine Tr.aload_n (pc := 123) (i := 0) d_X5_order_123 rfl rfl ?_
    refine Tr.iload_n (pc := 124) (i := 1) d_X5_order_124 rfl rfl ?_
    refine Tr.iconst (pc := 125) d_X5_order_125 (by decide) ?_
    refine Tr.callV (pc := 126) (as := [_, _]) d_X5_order_126 s_5_170 ok_X5_about rfl rfl (Nat.le_of_ble_eq_true rfl) (Nat.le_of_ble_eq_true rfl) (by decide) (ty_6 hS.1.1) ?_
    refine Tr.imp (Tr.deep (by decide) (sp_X5_about_6_v0_w1 hS.1 hE ((St.kp hS (by decide) (by decide) (by decide)).trans en_6_2) ((St.kp hS (by decide) (by decide) (by decide)).trans en_6_3) ((St.kp hS (by decide) (by decide) (by decide)).trans en_6_4) a1 (by omega))) ?_
    rintro M126 _ ⟨h126, r126, rfl, lr126, ur126⟩
    have hS := St.tr hS h126 (by decide) (by decide)
    refine Tr.sc [(0, r126)] rfl ?_
    refine Tr.if_eq (pc := 129) (tgt := 145) d_X5_order_129 rfl (fun c129 => ?_) (fun c129 => ?_)
    · refine Tr.iconst (pc := 145) d_X5_order_145 (by decide) ?_
      exact Tr.zret (pc := 146) d_X5_order_146 rfl (by omega) ⟨hS, _, rfl, by omega, by omega, fun hq => absurd hq (by omega)⟩
    · refine Tr.aload_n (pc := 132) (i := 0) d_X5_order_132 rfl rfl ?_
      refine Tr.bipush (pc := 133) d_X5_order_133 rfl (by decide) ?_
      refine Tr.callV (pc := 135) (as := [_]) d_X5_order_135 s_5_81 ok_X5_takeSign rfl rfl (Nat.le_of_ble_eq_true rfl) (Nat.le_of_ble_eq_true rfl) (by decide) (ty_6 hS.1.1) ?_
      refine Tr.imp (Tr.deep (by decide) (sp_X5_takeSign_6 hS.1 ((St.kp hS (by decide) (by decide) (by decide)).trans en_6_2) 59 (by omega))) ?_
      rintro M135 _ ⟨h135, r135, rfl, lr135, ur135⟩
      have hS := St.tr hS h135 (by decide) (by decide)
      refine Tr.sc [(0, r135)] rfl ?_
      refine Tr.if_eq (pc := 138) (tgt := 145) d_X5_order_138 rfl (fun c138 => ?_) (fun c138 => ?_)
      · refine Tr.iconst (pc := 145) d_X5_order_145 (by decide) ?_
        exact Tr.zret (pc := 146) d_X5_order_146 rfl (by omega) ⟨hS, _, rfl, by omega, by omega, fun hq => absurd hq (by omega)⟩
      · refine Tr.iconst (pc := 141) d_X5_order_141 (by decide) ?_
        refine Tr.goto (pc := 142) (tgt := 146) d_X5_order_142 rfl ?_
        exact Tr.zret (pc := 146) d_X5_order_146 rfl (by omega) ⟨hS, _, rfl, by omega, by omega, fun _ => ((St.kp h135 (by decide) (by decide) (by decide)).trans ((St.kp h126 (by decide) (by decide) (by decide)).trans en_6_6))⟩
  · refine Tr.tp 8 c9 ?_
    refine Tr.tswIn (pc := 9) (off := 114) (tgt := 123) d_X5_order_9 (by decide) (by decide) rfl rfl ?_
    refine Tr.aload_n (pc := 123) (i := 0) d_X5_order_123 rfl rfl ?_
    refine Tr.iload_n (pc := 124) (i := 1) d_X5_order_124 rfl rfl ?_
    refine Tr.iconst (pc := 125) d_X5_order_125 (by decide) ?_
    refine Tr.callV (pc := 126) (as := [_, _]) d_X5_order_126 s_5_170 ok_X5_about rfl rfl (Nat.le_of_ble_eq_true rfl) (Nat.le_of_ble_eq_true rfl) (by decide) (ty_6 hS.1.1) ?_
    refine Tr.imp (Tr.deep (by decide) (sp_X5_about_6_v0_w1 hS.1 hE ((St.kp hS (by decide) (by decide) (by decide)).trans en_6_2) ((St.kp hS (by decide) (by decide) (by decide)).trans en_6_3) ((St.kp hS (by decide) (by decide) (by decide)).trans en_6_4) a1 (by omega))) ?_
    rintro M126 _ ⟨h126, r126, rfl, lr126, ur126⟩
    have hS := St.tr hS h126 (by decide) (by decide)
    refine Tr.sc [(0, r126)] rfl ?_
    refine Tr.if_eq (pc := 129) (tgt := 145) d_X5_order_129 rfl (fun c129 => ?_) (fun c129 => ?_)
    · refine Tr.iconst (pc := 145) d_X5_order_145 (by decide) ?_
      exact Tr.zret (pc := 146) d_X5_order_146 rfl (by omega) ⟨hS, _, rfl, by omega, by omega, fun hq => absurd hq (by omega)⟩
    · refine Tr.aload_n (pc := 132) (i := 0) d_X5_order_132 rfl rfl ?_
      refine Tr.bipush (pc := 133) d_X5_order_133 rfl (by decide) ?_
      refine Tr.callV (pc := 135) (as := [_]) d_X5_order_135 s_5_81 ok_X5_takeSign rfl rfl (Nat.le_of_ble_eq_true rfl) (Nat.le_of_ble_eq_true rfl) (by decide) (ty_6 hS.1.1) ?_
      refine Tr.imp (Tr.deep (by decide) (sp_X5_takeSign_6 hS.1 ((St.kp hS (by decide) (by decide) (by decide)).trans en_6_2) 59 (by omega))) ?_
      rintro M135 _ ⟨h135, r135, rfl, lr135, ur135⟩
      have hS := St.tr hS h135 (by decide) (by decide)
      refine Tr.sc [(0, r135)] rfl ?_
      refine Tr.if_eq (pc := 138) (tgt := 145) d_X5_order_138 rfl (fun c138 => ?_) (fun c138 => ?_)
      · refine Tr.iconst (pc := 145) d_X5_order_145 (by decide) ?_
        exact Tr.zret (pc := 146) d_X5_order_146 rfl (by omega) ⟨hS, _, rfl, by omega, by omega, fun hq => absurd hq (by omega)⟩
      · refine Tr.iconst (pc := 141) d_X5_order_141 (by decide) ?_
        refine Tr.goto (pc := 142) (tgt := 146) d_X5_order_142 rfl ?_
        exact Tr.zret (pc := 146) d_X5_order_146 rfl (by omega) ⟨hS, _, rfl, by omega, by omega, fun _ => ((St.kp h135 (by decide) (by decide) (by decide)).trans ((St.kp h126 (by decide) (by decide) (by decide)).trans en_6_6))⟩
  · refine Tr.tp 9 c9 ?_
    refine Tr.tswIn (pc := 9) (off := 138) (tgt := 147) d_X5_order_9 (by decide) (by decide) rfl rfl ?_
    refine Tr.aload_n (pc := 147) (i := 0) d_X5_order_147 rfl rfl ?_
    refine Tr.callV (pc := 148) (as := []) d_X5_order_148 s_5_174 ok_X5_sum rfl rfl (Nat.le_of_ble_eq_true rfl) (Nat.le_of_ble_eq_true rfl) (by decide) (ty_6 hS.1.1) ?_
    refine Tr.imp (Tr.deep (by decide) (sp_X5_sum_6_w12 hS.1 hE ((St.kp hS (by decide) (by decide) (by decide)).trans en_6_2) ((St.kp hS (by decide) (by decide) (by decide)).trans en_6_3) ((St.kp hS (by decide) (by decide) (by decide)).trans en_6_4) en_6_6)) ?_
    rintro M148 _ ⟨h148, r148, rfl, lr148, ur148, x148_6_6⟩
    have hS := St.tr hS h148 (by decide) (by decide)
    refine Tr.sc [(0, r148)] rfl ?_
    refine Tr.if_eq (pc := 151) (tgt := 167) d_X5_order_151 rfl (fun c151 => ?_) (fun c151 => ?_)
    · refine Tr.iconst (pc := 167) d_X5_order_167 (by decide) ?_
      exact Tr.zret (pc := 168) d_X5_order_168 rfl (by omega) ⟨hS, _, rfl, by omega, by omega, fun hq => absurd hq (by omega)⟩
    · refine Tr.aload_n (pc := 154) (i := 0) d_X5_order_154 rfl rfl ?_
      refine Tr.bipush (pc := 155) d_X5_order_155 rfl (by decide) ?_
      refine Tr.callV (pc := 157) (as := [_]) d_X5_order_157 s_5_81 ok_X5_takeSign rfl rfl (Nat.le_of_ble_eq_true rfl) (Nat.le_of_ble_eq_true rfl) (by decide) (ty_6 hS.1.1) ?_
      refine Tr.imp (Tr.deep (by decide) (sp_X5_takeSign_6 hS.1 ((St.kp hS (by decide) (by decide) (by decide)).trans en_6_2) 59 (by omega))) ?_
      rintro M157 _ ⟨h157, r157, rfl, lr157, ur157⟩
      have hS := St.tr hS h157 (by decide) (by decide)
      refine Tr.sc [(0, r157)] rfl ?_
      refine Tr.if_eq (pc := 160) (tgt := 167) d_X5_order_160 rfl (fun c160 => ?_) (fun c160 => ?_)
      · refine Tr.iconst (pc := 167) d_X5_order_167 (by decide) ?_
        exact Tr.zret (pc := 168) d_X5_order_168 rfl (by omega) ⟨hS, _, rfl, by omega, by omega, fun hq => absurd hq (by omega)⟩
      · refine Tr.iconst (pc := 163) d_X5_order_163 (by decide) ?_
        refine Tr.goto (pc := 164) (tgt := 168) d_X5_order_164 rfl ?_
        exact Tr.zret (pc := 168) d_X5_order_168 rfl (by omega) ⟨hS, _, rfl, by omega, by omega, fun _ => ((St.kp h157 (by decide) (by decide) (by decide)).trans (x148_6_6 (by omega)))⟩
  · refine Tr.tp 10 c9 ?_
    refine Tr.tswIn (pc := 9) (off := 138) (tgt := 147) d_X5_order_9 (by decide) (by decide) rfl rfl ?_
    refine Tr.aload_n (pc := 147) (i := 0) d_X5_order_147 rfl rfl ?_
    refine Tr.callV (pc := 148) (as := []) d_X5_order_148 s_5_174 ok_X5_sum rfl rfl (Nat.le_of_ble_eq_true rfl) (Nat.le_of_ble_eq_true rfl) (by decide) (ty_6 hS.1.1) ?_
    refine Tr.imp (Tr.deep (by decide) (sp_X5_sum_6_w12 hS.1 hE ((St.kp hS (by decide) (by decide) (by decide)).trans en_6_2) ((St.kp hS (by decide) (by decide) (by decide)).trans en_6_3) ((St.kp hS (by decide) (by decide) (by decide)).trans en_6_4) en_6_6)) ?_
    rintro M148 _ ⟨h148, r148, rfl, lr148, ur148, x148_6_6⟩
    have hS := St.tr hS h148 (by decide) (by decide)
    refine Tr.sc [(0, r148)] rfl ?_
    refine Tr.if_eq (pc := 151) (tgt := 167) d_X5_order_151 rfl (fun c151 => ?_) (fun c151 => ?_)
    · refine Tr.iconst (pc := 167) d_X5_order_167 (by decide) ?_
      exact Tr.zret (pc := 168) d_X5_order_168 rfl (by omega) ⟨hS, _, rfl, by omega, by omega, fun hq => absurd hq (by omega)⟩
    · refine Tr.aload_n (pc := 154) (i := 0) d_X5_order_154 rfl rfl ?_
      refine Tr.bipush (pc := 155) d_X5_order_155 rfl (by decide) ?_
      refine Tr.callV (pc := 157) (as := [_]) d_X5_order_157 s_5_81 ok_X5_takeSign rfl rfl (Nat.le_of_ble_eq_true rfl) (Nat.le_of_ble_eq_true rfl) (by decide) (ty_6 hS.1.1) ?_
      refine Tr.imp (Tr.deep (by decide) (sp_X5_takeSign_6 hS.1 ((St.kp hS (by decide) (by decide) (by decide)).trans en_6_2) 59 (by omega))) ?_
      rintro M157 _ ⟨h157, r157, rfl, lr157, ur157⟩
      have hS := St.tr hS h157 (by decide) (by decide)
      refine Tr.sc [(0, r157)] rfl ?_
      refine Tr.if_eq (pc := 160) (tgt := 167) d_X5_order_160 rfl (fun c160 => ?_) (fun c160 => ?_)
      · refine Tr.iconst (pc := 167) d_X5_order_167 (by decide) ?_
        exact Tr.zret (pc := 168) d_X5_order_168 rfl (by omega) ⟨hS, _, rfl, by omega, by omega, fun hq => absurd hq (by omega)⟩
      · refine Tr.iconst (pc := 163) d_X5_order_163 (by decide) ?_
        refine Tr.goto (pc := 164) (tgt := 168) d_X5_order_164 rfl ?_
        exact Tr.zret (pc := 168) d_X5_order_168 rfl (by omega) ⟨hS, _, rfl, by omega, by omega, fun _ => ((St.kp h157 (by decide) (by decide) (by decide)).trans (x148_6_6 (by omega)))⟩
  · refine Tr.tp 11 c9 ?_
    refine Tr.tswIn (pc := 9) (off := 160) (tgt := 169) d_X5_order_9 (by decide) (by decide) rfl rfl ?_
    refine Tr.aload_n (pc := 169) (i := 0) d_X5_order_169 rfl rfl ?_
    refine Tr.callV (pc := 170) (as := []) d_X5_order_170 s_5_177 ok_X5_test rfl rfl (Nat.le_of_ble_eq_true rfl) (Nat.le_of_ble_eq_true rfl) (by decide) (ty_6 hS.1.1) ?_
    refine Tr.imp (Tr.deep (by decide) (sp_X5_test_6_w12 hS.1 hE ((St.kp hS (by decide) (by decide) (by decide)).trans en_6_2) ((St.kp hS (by decide) (by decide) (by decide)).trans en_6_3) ((St.kp hS (by decide) (by decide) (by decide)).trans en_6_4) en_6_6)) ?_
    rintro M170 _ ⟨h170, r170, rfl, lr170, ur170, x170_6_6⟩
    have hS := St.tr hS h170 (by decide) (by decide)
    refine Tr.sc [(0, r170)] rfl ?_
    refine Tr.if_eq (pc := 173) (tgt := 196) d_X5_order_173 rfl (fun c173 => ?_) (fun c173 => ?_)
    · refine Tr.iconst (pc := 196) d_X5_order_196 (by decide) ?_
      exact Tr.zret (pc := 197) d_X5_order_197 rfl (by omega) ⟨hS, _, rfl, by omega, by omega, fun hq => absurd hq (by omega)⟩
    · refine Tr.aload_n (pc := 176) (i := 0) d_X5_order_176 rfl rfl ?_
      refine Tr.iload_n (pc := 177) (i := 1) d_X5_order_177 rfl rfl ?_
      refine Tr.callV (pc := 178) (as := [_]) d_X5_order_178 s_5_180 ok_X5_yesBlock rfl rfl (Nat.le_of_ble_eq_true rfl) (Nat.le_of_ble_eq_true rfl) (by decide) (ty_6 hS.1.1) ?_
      refine Tr.imp (Tr.deep (by decide) (sp_X5_yesBlock_6_w12 hS.1 hE ((St.kp hS (by decide) (by decide) (by decide)).trans en_6_2) ((St.kp hS (by decide) (by decide) (by decide)).trans en_6_3) ((St.kp hS (by decide) (by decide) (by decide)).trans en_6_4) (x170_6_6 (by omega)) a1 (by omega))) ?_
      rintro M178 _ ⟨h178, r178, rfl, lr178, ur178, x178_6_6⟩
      have hS := St.tr hS h178 (by decide) (by decide)
      refine Tr.sc [(0, r178)] rfl ?_
      refine Tr.if_eq (pc := 181) (tgt := 196) d_X5_order_181 rfl (fun c181 => ?_) (fun c181 => ?_)
      · refine Tr.iconst (pc := 196) d_X5_order_196 (by decide) ?_
        exact Tr.zret (pc := 197) d_X5_order_197 rfl (by omega) ⟨hS, _, rfl, by omega, by omega, fun hq => absurd hq (by omega)⟩
      · refine Tr.aload_n (pc := 184) (i := 0) d_X5_order_184 rfl rfl ?_
        refine Tr.iload_n (pc := 185) (i := 1) d_X5_order_185 rfl rfl ?_
        refine Tr.callV (pc := 186) (as := [_]) d_X5_order_186 s_5_183 ok_X5_noBlock rfl rfl (Nat.le_of_ble_eq_true rfl) (Nat.le_of_ble_eq_true rfl) (by decide) (ty_6 hS.1.1) ?_
        refine Tr.imp (Tr.deep (by decide) (sp_X5_noBlock_6_w12 hS.1 hE ((St.kp hS (by decide) (by decide) (by decide)).trans en_6_2) ((St.kp hS (by decide) (by decide) (by decide)).trans en_6_3) ((St.kp hS (by decide) (by decide) (by decide)).trans en_6_4) (x178_6_6 (by omega)) a1 (by omega))) ?_
        rintro M186 _ ⟨h186, r186, rfl, lr186, ur186, x186_6_6⟩
        have hS := St.tr hS h186 (by decide) (by decide)
        refine Tr.sc [(0, r186)] rfl ?_
        refine Tr.if_eq (pc := 189) (tgt := 196) d_X5_order_189 rfl (fun c189 => ?_) (fun c189 => ?_)
        · refine Tr.iconst (pc := 196) d_X5_order_196 (by decide) ?_
          exact Tr.zret (pc := 197) d_X5_order_197 rfl (by omega) ⟨hS, _, rfl, by omega, by omega, fun hq => absurd hq (by omega)⟩
        · refine Tr.iconst (pc := 192) d_X5_order_192 (by decide) ?_
          refine Tr.goto (pc := 193) (tgt := 197) d_X5_order_193 rfl ?_
          exact Tr.zret (pc := 197) d_X5_order_197 rfl (by omega) ⟨hS, _, rfl, by omega, by omega, fun _ => (x186_6_6 (by omega))⟩
end
/-! 43.28 -/
section
def ws_X5_orders_6_w12 : List (Int × Int) := [(6, 0), (6, 1), (6, 5), (6, 6), (15, 0), (15, 11)]
def as_X5_orders_6_w12 : List Int := [16, 17, 18, 19, 20, 21, 22, 24, 25]
def q_X5_orders_6_w12 (M0 M' : Mem) (r : Option PV) : Prop := St Tru ws_X5_orders_6_w12 as_X5_orders_6_w12 M0 M' ∧ ∃ v : Int, r = some (0, v) ∧ (-2) ≤ v ∧ v ≤ 59 ∧ (((-1) ≤ v ∧ v ≤ 1000000) → rd M' 6 6 = 3)
set_option maxRecDepth 100000 in
set_option maxHeartbeats 4000000 in
theorem sp_X5_orders_6_w12 {l : Launch} {K : EC} {M0 : Mem} {xq : Int} (hI : In Tru M0) (hE : e_all K xq) (en_6_2 : rd M0 6 2 = 2) (en_6_3 : rd M0 6 3 = 7) (en_6_4 : rd M0 6 4 = 15) (en_6_6 : rd M0 6 6 = 3) (a1 : Int) (ha1 : 0 ≤ a1 ∧ a1 ≤ 59)  : Tr l K 31 mX5_orders 0 [(0, (2, 6)), (1, (0, a1))] [] M0 (q_X5_orders_6_w12 M0) := by
  have hS : St Tru ws_X5_orders_6_w12 as_X5_orders_6_w12 M0 M0 := St.rf hI
  refine Tr.iconst (pc := 0) d_X5_orders_0 (by decide) ?_
  refine Tr.istore_n (pc := 1) (i := 2) (ls2 := [(2, (0, (-1))), (0, (2, 6)), (1, (0, a1))]) d_X5_orders_1 rfl (by decide) rfl ?_
  refine Tr.iconst (pc := 2) d_X5_orders_2 (by decide) ?_
  refine Tr.istore_n (pc := 3) (i := 3) (ls2 := [(3, (0, (-1))), (2, (0, (-1))), (0, (2, 6)), (1, (0, a1))]) d_X5_orders_3 rfl (by decide) rfl ?_
  refine Tr.iconst (pc := 4) d_X5_orders_4 (by decide) ?_
  refine Tr.istore (pc := 5) (i := 4) (ls2 := [(4, (0, 0)), (3, (0, (-1))), (2, (0, (-1))), (0, (2, 6)), (1, (0, a1))]) d_X5_orders_5 (by decide) rfl ?_
  have J7 : ∀ (n7 : Nat) (M : Mem) (p7_2 p7_3 p7_4 : Int), St Tru ws_X5_orders_6_w12 as_X5_orders_6_w12 M0 M → ((-1) ≤ p7_2 ∧ p7_2 ≤ 59) → ((-1) ≤ p7_3 ∧ p7_3 ≤ 59) → (0 ≤ p7_4 ∧ p7_4 ≤ 61) → rd M 6 6 = 3 → (61 - p7_4).toNat < n7 → Tr l K 31 mX5_orders 7 [(0, (2, 6)), (1, (0, a1)), (2, (0, p7_2)), (3, (0, p7_3)), (4, (0, p7_4))] [] M (q_X5_orders_6_w12 M0) := by
    intro n7
    induction n7 with
    | zero => intro M p7_2 p7_3 p7_4 hS bp7_2 bp7_3 bp7_4 k7_6_6 hm7; exact absurd hm7 (Nat.not_lt_zero _)
    | succ n7 J7 =>
      intro M p7_2 p7_3 p7_4 hS bp7_2 bp7_3 bp7_4 k7_6_6 hm7
      refine Tr.iload (pc := 7) (i := 4) d_X5_orders_7 rfl ?_
      refine Tr.bipush (pc := 9) d_X5_orders_9 rfl (by decide) ?_
      refine Tr.icmp_gt (pc := 11) (tgt := 111) d_X5_orders_11 rfl (fun c11 => ?_) (fun c11 => ?_)
      · refine Tr.iload_n (pc := 111) (i := 2) d_X5_orders_111 rfl rfl ?_
        exact Tr.iret (pc := 112) d_X5_orders_112 rfl ⟨hS, _, rfl, by omega, by omega, fun _ => k7_6_6⟩
      · refine Tr.aload_n (pc := 14) (i := 0) d_X5_orders_14 rfl rfl ?_
        refine Tr.callV (pc := 15) (as := []) d_X5_orders_15 s_5_154 ok_X5_isOrder rfl rfl (Nat.le_of_ble_eq_true rfl) (Nat.le_of_ble_eq_true rfl) (by decide) (ty_6 hS.1.1) ?_
        refine Tr.imp (Tr.deep (by decide) (sp_X5_isOrder_6 hS.1 ((St.kp hS (by decide) (by decide) (by decide)).trans en_6_2))) ?_
        rintro M15 _ ⟨h15, r15, rfl, lr15, ur15⟩
        have hS := St.tr hS h15 (by decide) (by decide)
        refine Tr.sc [(0, r15)] rfl ?_
        refine Tr.if_eq (pc := 18) (tgt := 111) d_X5_orders_18 rfl (fun c18 => ?_) (fun c18 => ?_)
        · refine Tr.iload_n (pc := 111) (i := 2) d_X5_orders_111 rfl rfl ?_
          exact Tr.iret (pc := 112) d_X5_orders_112 rfl ⟨hS, _, rfl, by omega, by omega, fun _ => ((St.kp h15 (by decide) (by decide) (by decide)).trans k7_6_6)⟩
        · refine Tr.aload_n (pc := 21) (i := 0) d_X5_orders_21 rfl rfl ?_
          refine Tr.getf (pc := 22) d_X5_orders_22 f_5_32 (by decide) (by decide) (ty_6 hS.1.1) ?_
          refine Tr.tp 15 ((St.kp hS (by decide) (by decide) (by decide)).trans en_6_4) ?_
          refine Tr.getf (pc := 25) d_X5_orders_25 f_5_157 (by decide) (by decide) (ty_15 hS.1.1) ?_
          refine Tr.gen (P := fun v => 0 ≤ v ∧ v ≤ 60) (ir_15_0 hS.1.2.1) (fun r25 er25 br25 => ?_)
          refine Tr.bipush (pc := 28) d_X5_orders_28 rfl (by decide) ?_
          refine Tr.icmp_lt (pc := 30) (tgt := 42) d_X5_orders_30 rfl (fun c30 => ?_) (fun c30 => ?_)
          · refine Tr.aload_n (pc := 42) (i := 0) d_X5_orders_42 rfl rfl ?_
            refine Tr.getf (pc := 43) d_X5_orders_43 f_5_32 (by decide) (by decide) (ty_6 hS.1.1) ?_
            refine Tr.tp 15 ((St.kp hS (by decide) (by decide) (by decide)).trans en_6_4) ?_
            refine Tr.aload_n (pc := 46) (i := 0) d_X5_orders_46 rfl rfl ?_
            refine Tr.getf (pc := 47) d_X5_orders_47 f_5_18 (by decide) (by decide) (ty_6 hS.1.1) ?_
            refine Tr.tp 2 ((St.kp hS (by decide) (by decide) (by decide)).trans en_6_2) ?_
            refine Tr.getf (pc := 50) d_X5_orders_50 f_5_68 (by decide) (by decide) (ty_2 hS.1.1) ?_
            refine Tr.tp 5 (fx_2_2 hS.1.1) ?_
            refine Tr.aload_n (pc := 53) (i := 0) d_X5_orders_53 rfl rfl ?_
            refine Tr.getf (pc := 54) d_X5_orders_54 f_5_36 (by decide) (by decide) (ty_6 hS.1.1) ?_
            refine Tr.gen (P := fun v => 0 ≤ v ∧ v ≤ 900) (ir_6_5 hS.1.2.1) (fun r54 er54 br54 => ?_)
            refine Tr.iald (pc := 57) d_X5_orders_57 (ty_5 hS.1.1) (by omega) (by omega) ?_
            refine Tr.gen (P := fun v => (-2147483648) ≤ v ∧ v ≤ 2147483647) (ar_5 hS.1.2.1 _) (fun r57 er57 br57 => ?_)
            refine Tr.iload_n (pc := 58) (i := 1) d_X5_orders_58 rfl rfl ?_
            refine Tr.callV (pc := 59) (as := [_, _]) d_X5_orders_59 s_5_160 ok_X4_open rfl rfl (Nat.le_of_ble_eq_true rfl) (Nat.le_of_ble_eq_true rfl) (by decide) (ty_15 hS.1.1) ?_
            refine Tr.imp (Tr.deep (by decide) (sp_X4_open_15_w1 hS.1 r57 (by omega) a1 (by omega) (by have h9 := er25; omega))) ?_
            rintro M59 _ ⟨h59, r59, rfl, lr59, ur59⟩
            have hS := St.tr hS h59 (by decide) (by decide)
            refine Tr.sc [(0, r59)] rfl ?_
            refine Tr.istore (pc := 62) (i := 5) (ls2 := [(5, (0, r59)), (0, (2, 6)), (1, (0, a1)), (2, (0, p7_2)), (3, (0, p7_3)), (4, (0, p7_4))]) d_X5_orders_62 (by decide) rfl ?_
            refine Tr.iload_n (pc := 64) (i := 3) d_X5_orders_64 rfl rfl ?_
            have J85 : ∀ (M : Mem) (p85_2 : Int), St Tru ws_X5_orders_6_w12 as_X5_orders_6_w12 M0 M → ((-1) ≤ p85_2 ∧ p85_2 ≤ 59) → rd M 5 r54 = r57 → rd M 6 5 = r54 → rd M 6 6 = 3 → Tr l K 31 mX5_orders 85 [(0, (2, 6)), (1, (0, a1)), (2, (0, p85_2)), (4, (0, p7_4)), (5, (0, r59))] [] M (q_X5_orders_6_w12 M0) := by
              intro M p85_2 hS bp85_2 k85_5_r5410 k85_6_5 k85_6_6
              refine Tr.iload (pc := 85) (i := 5) d_X5_orders_85 rfl ?_
              refine Tr.istore_n (pc := 87) (i := 3) (ls2 := [(3, (0, r59)), (0, (2, 6)), (1, (0, a1)), (2, (0, p85_2)), (4, (0, p7_4)), (5, (0, r59))]) d_X5_orders_87 rfl (by decide) rfl ?_
              refine Tr.aload_n (pc := 88) (i := 0) d_X5_orders_88 rfl rfl ?_
              refine Tr.callV (pc := 89) (as := []) d_X5_orders_89 s_5_74 ok_X5_goOn rfl rfl (Nat.le_of_ble_eq_true rfl) (Nat.le_of_ble_eq_true rfl) (by decide) (ty_6 hS.1.1) ?_
              refine Tr.imp (Tr.deep (by decide) (sp_X5_goOn_6 hS.1 )) ?_
              rintro M89 _ ⟨h89, r89, rfl, lr89, ur89⟩
              have hS := St.tr hS h89 (by decide) (by decide)
              refine Tr.sc [(0, r89)] rfl ?_
              refine Tr.pop (pc := 92) d_X5_orders_92 ne01 ?_
              refine Tr.aload_n (pc := 93) (i := 0) d_X5_orders_93 rfl rfl ?_
              refine Tr.iload (pc := 94) (i := 5) d_X5_orders_94 rfl ?_
              refine Tr.callV (pc := 96) (as := [_]) d_X5_orders_96 s_5_166 ok_X5_order rfl rfl (Nat.le_of_ble_eq_true rfl) (Nat.le_of_ble_eq_true rfl) (by decide) (ty_6 hS.1.1) ?_
              refine Tr.imp (Tr.deep (by decide) (sp_X5_order_6_w12 hS.1 hE ((St.kp hS (by decide) (by decide) (by decide)).trans en_6_2) ((St.kp hS (by decide) (by decide) (by decide)).trans en_6_3) ((St.kp hS (by decide) (by decide) (by decide)).trans en_6_4) ((St.kp h89 (by decide) (by decide) (by decide)).trans k85_6_6) r59 (by omega))) ?_
              rintro M96 _ ⟨h96, r96, rfl, lr96, ur96, x96_6_6⟩
              have hS := St.tr hS h96 (by decide) (by decide)
              refine Tr.sc [(0, r96)] rfl ?_
              refine Tr.if_ne (pc := 99) (tgt := 105) d_X5_orders_99 rfl (fun c99 => ?_) (fun c99 => ?_)
              · refine Tr.iincV (pc := 105) (n2 := (p7_4 + 1)) (ls2 := [(4, (0, (p7_4 + 1))), (3, (0, r59)), (0, (2, 6)), (1, (0, a1)), (2, (0, p85_2)), (5, (0, r59))]) d_X5_orders_105 rfl (by decide) ((w32_id (by omega)).trans (by omega)) rfl ?_
                refine Tr.goto (pc := 108) (tgt := 7) d_X5_orders_108 rfl ?_
                refine Tr.pick [2, 3, 4, 1, 0] (ls2 := [(0, (2, 6)), (1, (0, a1)), (2, (0, p85_2)), (3, (0, r59)), (4, (0, (p7_4 + 1)))]) rfl ?_
                exact J7 _ _ _ _ hS (by omega) (by omega) (by omega) (x96_6_6 (by omega)) (by omega)
              · refine Tr.bipush (pc := 102) d_X5_orders_102 rfl (by decide) ?_
                exact Tr.iret (pc := 104) d_X5_orders_104 rfl ⟨hS, _, rfl, by omega, by omega, fun hq => absurd hq (by omega)⟩
            refine Tr.if_ge (pc := 65) (tgt := 74) d_X5_orders_65 rfl (fun c65 => ?_) (fun c65 => ?_)
            · refine Tr.aload_n (pc := 74) (i := 0) d_X5_orders_74 rfl rfl ?_
              refine Tr.getf (pc := 75) d_X5_orders_75 f_5_32 (by decide) (by decide) (ty_6 hS.1.1) ?_
              refine Tr.tp 15 ((St.kp hS (by decide) (by decide) (by decide)).trans en_6_4) ?_
              refine Tr.getf (pc := 78) d_X5_orders_78 f_5_163 (by decide) (by decide) (ty_15 hS.1.1) ?_
              refine Tr.tp 21 (fx_15_6 hS.1.1) ?_
              refine Tr.iload_n (pc := 81) (i := 3) d_X5_orders_81 rfl rfl ?_
              refine Tr.iload (pc := 82) (i := 5) d_X5_orders_82 rfl ?_
              refine Tr.iastS (pc := 84) (P := St Tru ws_X5_orders_6_w12 as_X5_orders_6_w12 M0) d_X5_orders_84 (ty_21 hS.1.1) (by omega) (by omega) (sa_21 hS (by decide) (by omega) trivial) (fun M84 hS w84 => ?_)
              refine Tr.pick [1, 2, 3, 5, 0] (ls2 := [(0, (2, 6)), (1, (0, a1)), (2, (0, p7_2)), (4, (0, p7_4)), (5, (0, r59))]) rfl ?_
              exact J85 _ _ hS (by omega) ((Wr.b w84 rfl).trans ((St.ka h59 (by decide) (by decide) (by decide)).trans er57)) ((Wr.b w84 rfl).trans ((St.kp h59 (by decide) (by decide) (by decide)).trans er54)) ((Wr.b w84 rfl).trans ((St.kp h59 (by decide) (by decide) (by decide)).trans ((St.kp h15 (by decide) (by decide) (by decide)).trans k7_6_6)))
            · refine Tr.iload (pc := 68) (i := 5) d_X5_orders_68 rfl ?_
              refine Tr.istore_n (pc := 70) (i := 2) (ls2 := [(2, (0, r59)), (5, (0, r59)), (0, (2, 6)), (1, (0, a1)), (3, (0, p7_3)), (4, (0, p7_4))]) d_X5_orders_70 rfl (by decide) rfl ?_
              refine Tr.goto (pc := 71) (tgt := 85) d_X5_orders_71 rfl ?_
              refine Tr.pick [2, 3, 0, 5, 1] (ls2 := [(0, (2, 6)), (1, (0, a1)), (2, (0, r59)), (4, (0, p7_4)), (5, (0, r59))]) rfl ?_
              exact J85 _ _ hS (by omega) ((St.ka h59 (by decide) (by decide) (by decide)).trans er57) ((St.kp h59 (by decide) (by decide) (by decide)).trans er54) ((St.kp h59 (by decide) (by decide) (by decide)).trans ((St.kp h15 (by decide) (by decide) (by decide)).trans k7_6_6))
          · refine Tr.aload_n (pc := 33) (i := 0) d_X5_orders_33 rfl rfl ?_
            refine Tr.iconst (pc := 34) d_X5_orders_34 (by decide) ?_
            refine Tr.callV (pc := 35) (as := [_]) d_X5_orders_35 s_5_56 ok_X5_refuse rfl rfl (Nat.le_of_ble_eq_true rfl) (Nat.le_of_ble_eq_true rfl) (by decide) (ty_6 hS.1.1) ?_
            refine Tr.imp (Tr.deep (by decide) (sp_X5_refuse_6_w2 hS.1 ((St.kp hS (by decide) (by decide) (by decide)).trans en_6_2) 5 (by omega))) ?_
            rintro M35 _ ⟨h35, r35, rfl, lr35, ur35⟩
            have hS := St.tr hS h35 (by decide) (by decide)
            refine Tr.sc [(0, r35)] rfl ?_
            refine Tr.pop (pc := 38) d_X5_orders_38 ne01 ?_
            refine Tr.bipush (pc := 39) d_X5_orders_39 rfl (by decide) ?_
            exact Tr.iret (pc := 41) d_X5_orders_41 rfl ⟨hS, _, rfl, by omega, by omega, fun hq => absurd hq (by omega)⟩
  refine Tr.pick [3, 4, 2, 1, 0] (ls2 := [(0, (2, 6)), (1, (0, a1)), (2, (0, (-1))), (3, (0, (-1))), (4, (0, 0))]) rfl ?_
  exact J7 _ _ _ _ _ hS (by omega) (by omega) (by omega) en_6_6 (Nat.lt_succ_self _)

def ws_X5_block_6_w11 : List (Int × Int) := [(6, 0), (6, 1), (6, 5), (6, 6), (15, 0), (15, 11)]
def as_X5_block_6_w11 : List Int := [16, 17, 18, 19, 20, 21, 22, 24, 25]
def q_X5_block_6_w11 (M0 M' : Mem) (r : Option PV) : Prop := St Tru ws_X5_block_6_w11 as_X5_block_6_w11 M0 M' ∧ ∃ v : Int, r = some (0, v) ∧ (-2) ≤ v ∧ v ≤ 59 ∧ (((-1) ≤ v ∧ v ≤ 1000000) → rd M' 6 6 = 2)
set_option maxRecDepth 100000 in
set_option maxHeartbeats 4000000 in
theorem sp_X5_block_6_w11 {l : Launch} {K : EC} {M0 : Mem} {xq : Int} (hI : In Tru M0) (hE : e_all K xq) (en_6_2 : rd M0 6 2 = 2) (en_6_3 : rd M0 6 3 = 7) (en_6_4 : rd M0 6 4 = 15) (en_6_6 : rd M0 6 6 = 2) (a1 : Int) (ha1 : 0 ≤ a1 ∧ a1 ≤ 59)  : Tr l K 32 mX5_block 0 [(0, (2, 6)), (1, (0, a1))] [] M0 (q_X5_block_6_w11 M0) := by
  have hS : St Tru ws_X5_block_6_w11 as_X5_block_6_w11 M0 M0 := St.rf hI
  refine Tr.aload_n (pc := 0) (i := 0) d_X5_block_0 rfl rfl ?_
  refine Tr.bipush (pc := 1) d_X5_block_1 rfl (by decide) ?_
  refine Tr.callV (pc := 3) (as := [_]) d_X5_block_3 s_5_206 ok_X5_takeOpening rfl rfl (Nat.le_of_ble_eq_true rfl) (Nat.le_of_ble_eq_true rfl) (by decide) (ty_6 hS.1.1) ?_
  refine Tr.imp (Tr.deep (by decide) (sp_X5_takeOpening_6_w20 hS.1 ((St.kp hS (by decide) (by decide) (by decide)).trans en_6_2) en_6_6 123 (by omega))) ?_
  rintro M3 _ ⟨h3, r3, rfl, lr3, ur3, x3_6_6⟩
  have hS := St.tr hS h3 (by decide) (by decide)
  refine Tr.sc [(0, r3)] rfl ?_
  refine Tr.if_ne (pc := 6) (tgt := 12) d_X5_block_6 rfl (fun c6 => ?_) (fun c6 => ?_)
  · refine Tr.aload_n (pc := 12) (i := 0) d_X5_block_12 rfl rfl ?_
    refine Tr.iload_n (pc := 13) (i := 1) d_X5_block_13 rfl rfl ?_
    refine Tr.callV (pc := 14) (as := [_]) d_X5_block_14 s_5_46 ok_X5_orders rfl rfl (Nat.le_of_ble_eq_true rfl) (Nat.le_of_ble_eq_true rfl) (by decide) (ty_6 hS.1.1) ?_
    refine Tr.imp (Tr.deep (by decide) (sp_X5_orders_6_w12 hS.1 hE ((St.kp hS (by decide) (by decide) (by decide)).trans en_6_2) ((St.kp hS (by decide) (by decide) (by decide)).trans en_6_3) ((St.kp hS (by decide) (by decide) (by decide)).trans en_6_4) (x3_6_6 (by omega)) a1 (by omega))) ?_
    rintro M14 _ ⟨h14, r14, rfl, lr14, ur14, x14_6_6⟩
    have hS := St.tr hS h14 (by decide) (by decide)
    refine Tr.sc [(0, r14)] rfl ?_
    refine Tr.istore_n (pc := 17) (i := 2) (ls2 := [(2, (0, r14)), (0, (2, 6)), (1, (0, a1))]) d_X5_block_17 rfl (by decide) rfl ?_
    refine Tr.iload_n (pc := 18) (i := 2) d_X5_block_18 rfl rfl ?_
    refine Tr.bipush (pc := 19) d_X5_block_19 rfl (by decide) ?_
    refine Tr.icmp_eq (pc := 21) (tgt := 33) d_X5_block_21 rfl (fun c21 => ?_) (fun c21 => ?_)
    · refine Tr.bipush (pc := 33) d_X5_block_33 rfl (by decide) ?_
      exact Tr.iret (pc := 35) d_X5_block_35 rfl ⟨hS, _, rfl, by omega, by omega, fun hq => absurd hq (by omega)⟩
    · refine Tr.aload_n (pc := 24) (i := 0) d_X5_block_24 rfl rfl ?_
      refine Tr.bipush (pc := 25) d_X5_block_25 rfl (by decide) ?_
      refine Tr.callV (pc := 27) (as := [_]) d_X5_block_27 s_5_209 ok_X5_takeClosing rfl rfl (Nat.le_of_ble_eq_true rfl) (Nat.le_of_ble_eq_true rfl) (by decide) (ty_6 hS.1.1) ?_
      refine Tr.imp (Tr.deep (by decide) (sp_X5_takeClosing_6_w21 hS.1 ((St.kp hS (by decide) (by decide) (by decide)).trans en_6_2) (x14_6_6 (by omega)) 125 (by omega))) ?_
      rintro M27 _ ⟨h27, r27, rfl, lr27, ur27, x27_6_6⟩
      have hS := St.tr hS h27 (by decide) (by decide)
      refine Tr.sc [(0, r27)] rfl ?_
      refine Tr.if_ne (pc := 30) (tgt := 36) d_X5_block_30 rfl (fun c30 => ?_) (fun c30 => ?_)
      · refine Tr.iload_n (pc := 36) (i := 2) d_X5_block_36 rfl rfl ?_
        exact Tr.iret (pc := 37) d_X5_block_37 rfl ⟨hS, _, rfl, by omega, by omega, fun _ => (x27_6_6 (by omega))⟩
      · refine Tr.bipush (pc := 33) d_X5_block_33 rfl (by decide) ?_
        exact Tr.iret (pc := 35) d_X5_block_35 rfl ⟨hS, _, rfl, by omega, by omega, fun hq => absurd hq (by omega)⟩
  · refine Tr.bipush (pc := 9) d_X5_block_9 rfl (by decide) ?_
    exact Tr.iret (pc := 11) d_X5_block_11 rfl ⟨hS, _, rfl, by omega, by omega, fun hq => absurd hq (by omega)⟩

def ws_X5_yesBlock_6_w11 : List (Int × Int) := [(6, 0), (6, 1), (6, 5), (6, 6), (15, 0), (15, 11)]
def as_X5_yesBlock_6_w11 : List Int := [16, 17, 18, 19, 20, 21, 22, 24, 25]
def q_X5_yesBlock_6_w11 (M0 M' : Mem) (r : Option PV) : Prop := St Tru ws_X5_yesBlock_6_w11 as_X5_yesBlock_6_w11 M0 M' ∧ ∃ v : Int, r = some (0, v) ∧ 0 ≤ v ∧ v ≤ 1 ∧ ((1 ≤ v ∧ v ≤ 1) → rd M' 6 6 = 2)
set_option maxRecDepth 100000 in
set_option maxHeartbeats 4000000 in
theorem sp_X5_yesBlock_6_w11 {l : Launch} {K : EC} {M0 : Mem} {xq : Int} (hI : In Tru M0) (hE : e_all K xq) (en_6_2 : rd M0 6 2 = 2) (en_6_3 : rd M0 6 3 = 7) (en_6_4 : rd M0 6 4 = 15) (en_6_6 : rd M0 6 6 = 2) (a1 : Int) (ha1 : 0 ≤ a1 ∧ a1 ≤ 59)  : Tr l K 33 mX5_yesBlock 0 [(0, (2, 6)), (1, (0, a1))] [] M0 (q_X5_yesBlock_6_w11 M0) := by
  have hS : St Tru ws_X5_yesBlock_6_w11 as_X5_yesBlock_6_w11 M0 M0 := St.rf hI
  refine Tr.aload_n (pc := 0) (i := 0) d_X5_yesBlock_0 rfl rfl ?_
  refine Tr.iload_n (pc := 1) (i := 1) d_X5_yesBlock_1 rfl rfl ?_
  refine Tr.callV (pc := 2) (as := [_]) d_X5_yesBlock_2 s_5_197 ok_X5_block rfl rfl (Nat.le_of_ble_eq_true rfl) (Nat.le_of_ble_eq_true rfl) (by decide) (ty_6 hS.1.1) ?_
  refine Tr.imp (Tr.deep (by decide) (sp_X5_block_6_w11 hS.1 hE ((St.kp hS (by decide) (by decide) (by decide)).trans en_6_2) ((St.kp hS (by decide) (by decide) (by decide)).trans en_6_3) ((St.kp hS (by decide) (by decide) (by decide)).trans en_6_4) en_6_6 a1 (by omega))) ?_
  rintro M2 _ ⟨h2, r2, rfl, lr2, ur2, x2_6_6⟩
  have hS := St.tr hS h2 (by decide) (by decide)
  refine Tr.sc [(0, r2)] rfl ?_
  refine Tr.istore_n (pc := 5) (i := 2) (ls2 := [(2, (0, r2)), (0, (2, 6)), (1, (0, a1))]) d_X5_yesBlock_5 rfl (by decide) rfl ?_
  refine Tr.aload_n (pc := 6) (i := 0) d_X5_yesBlock_6 rfl rfl ?_
  refine Tr.getf (pc := 7) d_X5_yesBlock_7 f_5_32 (by decide) (by decide) (ty_6 hS.1.1) ?_
  refine Tr.tp 15 ((St.kp hS (by decide) (by decide) (by decide)).trans en_6_4) ?_
  refine Tr.getf (pc := 10) d_X5_yesBlock_10 f_5_200 (by decide) (by decide) (ty_15 hS.1.1) ?_
  refine Tr.tp 19 (fx_15_4 hS.1.1) ?_
  refine Tr.iload_n (pc := 13) (i := 1) d_X5_yesBlock_13 rfl rfl ?_
  refine Tr.iload_n (pc := 14) (i := 2) d_X5_yesBlock_14 rfl rfl ?_
  refine Tr.iastS (pc := 15) (P := St Tru ws_X5_yesBlock_6_w11 as_X5_yesBlock_6_w11 M0) d_X5_yesBlock_15 (ty_19 hS.1.1) (by omega) (by omega) (sa_19 hS (by decide) (by omega) trivial) (fun M15 hS w15 => ?_)
  refine Tr.iload_n (pc := 16) (i := 2) d_X5_yesBlock_16 rfl rfl ?_
  refine Tr.bipush (pc := 17) d_X5_yesBlock_17 rfl (by decide) ?_
  refine Tr.icmp_eq (pc := 19) (tgt := 26) d_X5_yesBlock_19 rfl (fun c19 => ?_) (fun c19 => ?_)
  · refine Tr.iconst (pc := 26) d_X5_yesBlock_26 (by decide) ?_
    exact Tr.zret (pc := 27) d_X5_yesBlock_27 rfl (by omega) ⟨hS, _, rfl, by omega, by omega, fun hq => absurd hq (by omega)⟩
  · refine Tr.iconst (pc := 22) d_X5_yesBlock_22 (by decide) ?_
    refine Tr.goto (pc := 23) (tgt := 27) d_X5_yesBlock_23 rfl ?_
    exact Tr.zret (pc := 27) d_X5_yesBlock_27 rfl (by omega) ⟨hS, _, rfl, by omega, by omega, fun _ => ((Wr.b w15 rfl).trans (x2_6_6 (by omega)))⟩

def ws_X5_noBlock_6_w13 : List (Int × Int) := [(6, 0), (6, 1), (6, 5), (6, 6), (15, 0), (15, 11)]
def as_X5_noBlock_6_w13 : List Int := [16, 17, 18, 19, 20, 21, 22, 24, 25]
def q_X5_noBlock_6_w13 (M0 M' : Mem) (r : Option PV) : Prop := St Tru ws_X5_noBlock_6_w13 as_X5_noBlock_6_w13 M0 M' ∧ ∃ v : Int, r = some (0, v) ∧ 0 ≤ v ∧ v ≤ 1 ∧ ((1 ≤ v ∧ v ≤ 1) → rd M' 6 6 = 2)
set_option maxRecDepth 100000 in
set_option maxHeartbeats 4000000 in
theorem sp_X5_noBlock_6_w13 {l : Launch} {K : EC} {M0 : Mem} {xq : Int} (hI : In Tru M0) (hE : e_all K xq) (en_6_2 : rd M0 6 2 = 2) (en_6_3 : rd M0 6 3 = 7) (en_6_4 : rd M0 6 4 = 15) (en_6_6 : rd M0 6 6 = 2) (a1 : Int) (ha1 : 0 ≤ a1 ∧ a1 ≤ 59)  : Tr l K 33 mX5_noBlock 0 [(0, (2, 6)), (1, (0, a1))] [] M0 (q_X5_noBlock_6_w13 M0) := by
  have hS : St Tru ws_X5_noBlock_6_w13 as_X5_noBlock_6_w13 M0 M0 := St.rf hI
  refine Tr.aload_n (pc := 0) (i := 0) d_X5_noBlock_0 rfl rfl ?_
  refine Tr.bipush (pc := 1) d_X5_noBlock_1 rfl (by decide) ?_
  refine Tr.callV (pc := 3) (as := [_]) d_X5_noBlock_3 s_5_71 ok_X5_isOwn rfl rfl (Nat.le_of_ble_eq_true rfl) (Nat.le_of_ble_eq_true rfl) (by decide) (ty_6 hS.1.1) ?_
  refine Tr.imp (Tr.deep (by decide) (sp_X5_isOwn_6 hS.1 ((St.kp hS (by decide) (by decide) (by decide)).trans en_6_2) 13 (by omega))) ?_
  rintro M3 _ ⟨h3, r3, rfl, lr3, ur3⟩
  have hS := St.tr hS h3 (by decide) (by decide)
  refine Tr.sc [(0, r3)] rfl ?_
  refine Tr.if_ne (pc := 6) (tgt := 11) d_X5_noBlock_6 rfl (fun c6 => ?_) (fun c6 => ?_)
  · refine Tr.aload_n (pc := 11) (i := 0) d_X5_noBlock_11 rfl rfl ?_
    refine Tr.callV (pc := 12) (as := []) d_X5_noBlock_12 s_5_74 ok_X5_goOn rfl rfl (Nat.le_of_ble_eq_true rfl) (Nat.le_of_ble_eq_true rfl) (by decide) (ty_6 hS.1.1) ?_
    refine Tr.imp (Tr.deep (by decide) (sp_X5_goOn_6 hS.1 )) ?_
    rintro M12 _ ⟨h12, r12, rfl, lr12, ur12⟩
    have hS := St.tr hS h12 (by decide) (by decide)
    refine Tr.sc [(0, r12)] rfl ?_
    refine Tr.pop (pc := 15) d_X5_noBlock_15 ne01 ?_
    refine Tr.aload_n (pc := 16) (i := 0) d_X5_noBlock_16 rfl rfl ?_
    refine Tr.iload_n (pc := 17) (i := 1) d_X5_noBlock_17 rfl rfl ?_
    refine Tr.callV (pc := 18) (as := [_]) d_X5_noBlock_18 s_5_197 ok_X5_block rfl rfl (Nat.le_of_ble_eq_true rfl) (Nat.le_of_ble_eq_true rfl) (by decide) (ty_6 hS.1.1) ?_
    refine Tr.imp (Tr.deep (by decide) (sp_X5_block_6_w11 hS.1 hE ((St.kp hS (by decide) (by decide) (by decide)).trans en_6_2) ((St.kp hS (by decide) (by decide) (by decide)).trans en_6_3) ((St.kp hS (by decide) (by decide) (by decide)).trans en_6_4) ((St.kp h12 (by decide) (by decide) (by decide)).trans ((St.kp h3 (by decide) (by decide) (by decide)).trans en_6_6)) a1 (by omega))) ?_
    rintro M18 _ ⟨h18, r18, rfl, lr18, ur18, x18_6_6⟩
    have hS := St.tr hS h18 (by decide) (by decide)
    refine Tr.sc [(0, r18)] rfl ?_
    refine Tr.istore_n (pc := 21) (i := 2) (ls2 := [(2, (0, r18)), (0, (2, 6)), (1, (0, a1))]) d_X5_noBlock_21 rfl (by decide) rfl ?_
    refine Tr.aload_n (pc := 22) (i := 0) d_X5_noBlock_22 rfl rfl ?_
    refine Tr.getf (pc := 23) d_X5_noBlock_23 f_5_32 (by decide) (by decide) (ty_6 hS.1.1) ?_
    refine Tr.tp 15 ((St.kp hS (by decide) (by decide) (by decide)).trans en_6_4) ?_
    refine Tr.getf (pc := 26) d_X5_noBlock_26 f_5_203 (by decide) (by decide) (ty_15 hS.1.1) ?_
    refine Tr.tp 20 (fx_15_5 hS.1.1) ?_
    refine Tr.iload_n (pc := 29) (i := 1) d_X5_noBlock_29 rfl rfl ?_
    refine Tr.iload_n (pc := 30) (i := 2) d_X5_noBlock_30 rfl rfl ?_
    refine Tr.iastS (pc := 31) (P := St Tru ws_X5_noBlock_6_w13 as_X5_noBlock_6_w13 M0) d_X5_noBlock_31 (ty_20 hS.1.1) (by omega) (by omega) (sa_20 hS (by decide) (by omega) trivial) (fun M31 hS w31 => ?_)
    refine Tr.iload_n (pc := 32) (i := 2) d_X5_noBlock_32 rfl rfl ?_
    refine Tr.bipush (pc := 33) d_X5_noBlock_33 rfl (by decide) ?_
    refine Tr.icmp_eq (pc := 35) (tgt := 42) d_X5_noBlock_35 rfl (fun c35 => ?_) (fun c35 => ?_)
    · refine Tr.iconst (pc := 42) d_X5_noBlock_42 (by decide) ?_
      exact Tr.zret (pc := 43) d_X5_noBlock_43 rfl (by omega) ⟨hS, _, rfl, by omega, by omega, fun hq => absurd hq (by omega)⟩
    · refine Tr.iconst (pc := 38) d_X5_noBlock_38 (by decide) ?_
      refine Tr.goto (pc := 39) (tgt := 43) d_X5_noBlock_39 rfl ?_
      exact Tr.zret (pc := 43) d_X5_noBlock_43 rfl (by omega) ⟨hS, _, rfl, by omega, by omega, fun _ => ((Wr.b w31 rfl).trans (x18_6_6 (by omega)))⟩
  · refine Tr.iconst (pc := 9) d_X5_noBlock_9 (by decide) ?_
    exact Tr.zret (pc := 10) d_X5_noBlock_10 rfl (by omega) ⟨hS, _, rfl, by omega, by omega, fun _ => ((St.kp h3 (by decide) (by decide) (by decide)).trans en_6_6)⟩

def ws_X5_order_6_w11 : List (Int × Int) := [(6, 0), (6, 1), (6, 5), (6, 6), (15, 0), (15, 11)]
def as_X5_order_6_w11 : List Int := [16, 17, 18, 19, 20, 21, 22, 24, 25]
def q_X5_order_6_w11 (M0 M' : Mem) (r : Option PV) : Prop := St Tru ws_X5_order_6_w11 as_X5_order_6_w11 M0 M' ∧ ∃ v : Int, r = some (0, v) ∧ 0 ≤ v ∧ v ≤ 1 ∧ ((1 ≤ v ∧ v ≤ 1) → rd M' 6 6 = 2)
set_option maxRecDepth 100000 in
set_option maxHeartbeats 4000000 in
theorem sp_X5_order_6_w11 {l : Launch} {K : EC} {M0 : Mem} {xq : Int} (hI : In Tru M0) (hE : e_all K xq) (en_6_2 : rd M0 6 2 = 2) (en_6_3 : rd M0 6 3 = 7) (en_6_4 : rd M0 6 4 = 15) (en_6_6 : rd M0 6 6 = 2) (a1 : Int) (ha1 : 0 ≤ a1 ∧ a1 ≤ 59)  : Tr l K 34 mX5_order 0 [(0, (2, 6)), (1, (0, a1))] [] M0 (q_X5_order_6_w11 M0) := by
  have hS : St Tru ws_X5_order_6_w11 as_X5_order_6_w11 M0 M0 := St.rf hI
  refine Tr.aload_n (pc := 0) (i := 0) d_X5_order_0 rfl rfl ?_
  refine Tr.getf (pc := 1) d_X5_order_1 f_5_32 (by decide) (by decide) (ty_6 hS.1.1) ?_
  refine Tr.tp 15 ((St.kp hS (by decide) (by decide) (by decide)).trans en_6_4) ?_
  refine Tr.getf (pc := 4) d_X5_order_4 f_5_169 (by decide) (by decide) (ty_15 hS.1.1) ?_
  refine Tr.tp 16 (fx_15_1 hS.1.1) ?_
  refine Tr.iload_n (pc := 7) (i := 1) d_X5_order_7 rfl rfl ?_
  refine Tr.iald (pc := 8) d_X5_order_8 (ty_16 hS.1.1) (by omega) (by omega) ?_
  refine Tr.gen (P := fun v => (-2147483648) ≤ v ∧ v ≤ 2147483647) (ar_16 hS.1.2.1 _) (fun r8 er8 br8 => ?_)
  rcases (show (r8 < 5 ∨ 11 < r8) ∨ r8 = 5 ∨ r8 = 6 ∨ r8 = 7 ∨ r8 = 8 ∨ r8 = 9 ∨ r8 = 10 ∨ r8 = 11 by omega) with c9 | c9 | c9 | c9 | c9 | c9 | c9 | c9
  · refine Tr.tswOut (pc := 9) (tgt := 198) d_X5_order_9 c9 rfl ?_
    refine Tr.aload_n (pc := 198) (i := 0) d_X5_order_198 rfl rfl ?_
    refine Tr.callV (pc := 199) (as := []) d_X5_order_199 s_5_177 ok_X5_test rfl rfl (Nat.le_of_ble_eq_true rfl) (Nat.le_of_ble_eq_true rfl) (by decide) (ty_6 hS.1.1) ?_
    refine Tr.imp (Tr.deep (by decide) (sp_X5_test_6_w11 hS.1 hE ((St.kp hS (by decide) (by decide) (by decide)).trans en_6_2) ((St.kp hS (by decide) (by decide) (by decide)).trans en_6_3) ((St.kp hS (by decide) (by decide) (by decide)).trans en_6_4) en_6_6)) ?_
    rintro M199 _ ⟨h199, r199, rfl, lr199, ur199, x199_6_6⟩
    have hS := St.tr hS h199 (by decide) (by decide)
    refine Tr.sc [(0, r199)] rfl ?_
    refine Tr.if_eq (pc := 202) (tgt := 217) d_X5_order_202 rfl (fun c202 => ?_) (fun c202 => ?_)
    · refine Tr.iconst (pc := 217) d_X5_order_217 (by decide) ?_
      exact Tr.zret (pc := 218) d_X5_order_218 rfl (by omega) ⟨hS, _, rfl, by omega, by omega, fun hq => absurd hq (by omega)⟩
    · refine Tr.aload_n (pc := 205) (i := 0) d_X5_order_205 rfl rfl ?_
      refine Tr.iload_n (pc := 206) (i := 1) d_X5_order_206 rfl rfl ?_
      refine Tr.callV (pc := 207) (as := [_]) d_X5_order_207 s_5_180 ok_X5_yesBlock rfl rfl (Nat.le_of_ble_eq_true rfl) (Nat.le_of_ble_eq_true rfl) (by decide) (ty_6 hS.1.1) ?_
      refine Tr.imp (Tr.deep (by decide) (sp_X5_yesBlock_6_w11 hS.1 hE ((St.kp hS (by decide) (by decide) (by decide)).trans en_6_2) ((St.kp hS (by decide) (by decide) (by decide)).trans en_6_3) ((St.kp hS (by decide) (by decide) (by decide)).trans en_6_4) (x199_6_6 (by omega)) a1 (by omega))) ?_
      rintro M207 _ ⟨h207, r207, rfl, lr207, ur207, x207_6_6⟩
      have hS := St.tr hS h207 (by decide) (by decide)
      refine Tr.sc [(0, r207)] rfl ?_
      refine Tr.if_eq (pc := 210) (tgt := 217) d_X5_order_210 rfl (fun c210 => ?_) (fun c210 => ?_)
      · refine Tr.iconst (pc := 217) d_X5_order_217 (by decide) ?_
        exact Tr.zret (pc := 218) d_X5_order_218 rfl (by omega) ⟨hS, _, rfl, by omega, by omega, fun hq => absurd hq (by omega)⟩
      · refine Tr.iconst (pc := 213) d_X5_order_213 (by decide) ?_
        refine Tr.goto (pc := 214) (tgt := 218) d_X5_order_214 rfl ?_
        exact Tr.zret (pc := 218) d_X5_order_218 rfl (by omega) ⟨hS, _, rfl, by omega, by omega, fun _ => (x207_6_6 (by omega))⟩
  · refine Tr.tp 5 c9 ?_
    refine Tr.tswIn (pc := 9) (off := 43) (tgt := 52) d_X5_order_9 (by decide) (by decide) rfl rfl ?_
    refine Tr.aload_n (pc := 52) (i := 0) d_X5_order_52 rfl rfl ?_
    refine Tr.iload_n (pc := 53) (i := 1) d_X5_order_53 rfl rfl ?_
    refine Tr.iconst (pc := 54) d_X5_order_54 (by decide) ?_
    refine Tr.callV (pc := 55) (as := [_, _]) d_X5_order_55 s_5_170 ok_X5_about rfl rfl (Nat.le_of_ble_eq_true rfl) (Nat.le_of_ble_eq_true rfl) (by decide) (ty_6 hS.1.1) ?_
    refine Tr.imp (Tr.deep (by decide) (sp_X5_about_6_v2_w1 hS.1 hE ((St.kp hS (by decide) (by decide) (by decide)).trans en_6_2) ((St.kp hS (by decide) (by decide) (by decide)).trans en_6_3) ((St.kp hS (by decide) (by decide) (by decide)).trans en_6_4) a1 (by omega))) ?_
    rintro M55 _ ⟨h55, r55, rfl, lr55, ur55⟩
    have hS := St.tr hS h55 (by decide) (by decide)
    refine Tr.sc [(0, r55)] rfl ?_
    refine Tr.if_eq (pc := 58) (tgt := 90) d_X5_order_58 rfl (fun c58 => ?_) (fun c58 => ?_)
    · refine Tr.iconst (pc := 90) d_X5_order_90 (by decide) ?_
      exact Tr.zret (pc := 91) d_X5_order_91 rfl (by omega) ⟨hS, _, rfl, by omega, by omega, fun hq => absurd hq (by omega)⟩
    · refine Tr.aload_n (pc := 61) (i := 0) d_X5_order_61 rfl rfl ?_
      refine Tr.bipush (pc := 62) d_X5_order_62 rfl (by decide) ?_
      refine Tr.callV (pc := 64) (as := [_]) d_X5_order_64 s_5_81 ok_X5_takeSign rfl rfl (Nat.le_of_ble_eq_true rfl) (Nat.le_of_ble_eq_true rfl) (by decide) (ty_6 hS.1.1) ?_
      refine Tr.imp (Tr.deep (by decide) (sp_X5_takeSign_6_w3 hS.1 ((St.kp hS (by decide) (by decide) (by decide)).trans en_6_2) 61 (by omega))) ?_
      rintro M64 _ ⟨h64, r64, rfl, lr64, ur64⟩
      have hS := St.tr hS h64 (by decide) (by decide)
      refine Tr.sc [(0, r64)] rfl ?_
      refine Tr.if_eq (pc := 67) (tgt := 90) d_X5_order_67 rfl (fun c67 => ?_) (fun c67 => ?_)
      · refine Tr.iconst (pc := 90) d_X5_order_90 (by decide) ?_
        exact Tr.zret (pc := 91) d_X5_order_91 rfl (by omega) ⟨hS, _, rfl, by omega, by omega, fun hq => absurd hq (by omega)⟩
      · refine Tr.aload_n (pc := 70) (i := 0) d_X5_order_70 rfl rfl ?_
        refine Tr.callV (pc := 71) (as := []) d_X5_order_71 s_5_174 ok_X5_sum rfl rfl (Nat.le_of_ble_eq_true rfl) (Nat.le_of_ble_eq_true rfl) (by decide) (ty_6 hS.1.1) ?_
        refine Tr.imp (Tr.deep (by decide) (sp_X5_sum_6_w11 hS.1 hE ((St.kp hS (by decide) (by decide) (by decide)).trans en_6_2) ((St.kp hS (by decide) (by decide) (by decide)).trans en_6_3) ((St.kp hS (by decide) (by decide) (by decide)).trans en_6_4) ((St.kp h64 (by decide) (by decide) (by decide)).trans ((St.kp h55 (by decide) (by decide) (by decide)).trans en_6_6)))) ?_
        rintro M71 _ ⟨h71, r71, rfl, lr71, ur71, x71_6_6⟩
        have hS := St.tr hS h71 (by decide) (by decide)
        refine Tr.sc [(0, r71)] rfl ?_
        refine Tr.if_eq (pc := 74) (tgt := 90) d_X5_order_74 rfl (fun c74 => ?_) (fun c74 => ?_)
        · refine Tr.iconst (pc := 90) d_X5_order_90 (by decide) ?_
          exact Tr.zret (pc := 91) d_X5_order_91 rfl (by omega) ⟨hS, _, rfl, by omega, by omega, fun hq => absurd hq (by omega)⟩
        · refine Tr.aload_n (pc := 77) (i := 0) d_X5_order_77 rfl rfl ?_
          refine Tr.bipush (pc := 78) d_X5_order_78 rfl (by decide) ?_
          refine Tr.callV (pc := 80) (as := [_]) d_X5_order_80 s_5_81 ok_X5_takeSign rfl rfl (Nat.le_of_ble_eq_true rfl) (Nat.le_of_ble_eq_true rfl) (by decide) (ty_6 hS.1.1) ?_
          refine Tr.imp (Tr.deep (by decide) (sp_X5_takeSign_6 hS.1 ((St.kp hS (by decide) (by decide) (by decide)).trans en_6_2) 59 (by omega))) ?_
          rintro M80 _ ⟨h80, r80, rfl, lr80, ur80⟩
          have hS := St.tr hS h80 (by decide) (by decide)
          refine Tr.sc [(0, r80)] rfl ?_
          refine Tr.if_eq (pc := 83) (tgt := 90) d_X5_order_83 rfl (fun c83 => ?_) (fun c83 => ?_)
          · refine Tr.iconst (pc := 90) d_X5_order_90 (by decide) ?_
            exact Tr.zret (pc := 91) d_X5_order_91 rfl (by omega) ⟨hS, _, rfl, by omega, by omega, fun hq => absurd hq (by omega)⟩
          · refine Tr.iconst (pc := 86) d_X5_order_86 (by decide) ?_
            refine Tr.goto (pc := 87) (tgt := 91) d_X5_order_87 rfl ?_
            exact Tr.zret (pc := 91) d_X5_order_91 rfl (by omega) ⟨hS, _, rfl, by omega, by omega, fun _ => ((St.kp h80 (by decide) (by decide) (by decide)).trans (x71_6_6 (by omega)))⟩
  · refine Tr.tp 6 c9 ?_
    refine Tr.tswIn (pc := 9) (off := 83) (tgt := 92) d_X5_order_9 (by decide) (by decide) rfl rfl ?_
    refine Tr.aload_n (pc := 92) (i := 0) d_X5_order_92 rfl rfl ?_
    refine Tr.iload_n (pc := 93) (i := 1) d_X5_order_93 rfl rfl ?_
    refine Tr.iconst (pc := 94) d_X5_order_94 (by decide) ?_
    refine Tr.callV (pc := 95) (as := [_, _]) d_X5_order_95 s_5_170 ok_X5_about rfl rfl (Nat.le_of_ble_eq_true rfl) (Nat.le_of_ble_eq_true rfl) (by decide) (ty_6 hS.1.1) ?_
    refine Tr.imp (Tr.deep (by decide) (sp_X5_about_6_v0_w1 hS.1 hE ((St.kp hS (by decide) (by decide) (by decide)).trans en_6_2) ((St.kp hS (by decide) (by decide) (by decide)).trans en_6_3) ((St.kp hS (by decide) (by decide) (by decide)).trans en_6_4) a1 (by omega))) ?_
    rintro M95 _ ⟨h95, r95, rfl, lr95, ur95⟩
    have hS := St.tr hS h95 (by decide) (by decide)
    refine Tr.sc [(0, r95)] rfl ?_
    refine Tr.if_eq (pc := 98) (tgt := 121) d_X5_order_98 rfl (fun c98 => ?_) (fun c98 => ?_)
    · refine Tr.iconst (pc := 121) d_X5_order_121 (by decide) ?_
      exact Tr.zret (pc := 122) d_X5_order_122 rfl (by omega) ⟨hS, _, rfl, by omega, by omega, fun hq => absurd hq (by omega)⟩
    · refine Tr.aload_n (pc := 101) (i := 0) d_X5_order_101 rfl rfl ?_
      refine Tr.callV (pc := 102) (as := []) d_X5_order_102 s_5_174 ok_X5_sum rfl rfl (Nat.le_of_ble_eq_true rfl) (Nat.le_of_ble_eq_true rfl) (by decide) (ty_6 hS.1.1) ?_
      refine Tr.imp (Tr.deep (by decide) (sp_X5_sum_6_w11 hS.1 hE ((St.kp hS (by decide) (by decide) (by decide)).trans en_6_2) ((St.kp hS (by decide) (by decide) (by decide)).trans en_6_3) ((St.kp hS (by decide) (by decide) (by decide)).trans en_6_4) ((St.kp h95 (by decide) (by decide) (by decide)).trans en_6_6))) ?_
      rintro M102 _ ⟨h102, r102, rfl, lr102, ur102, x102_6_6⟩
      have hS := St.tr hS h102 (by decide) (by decide)
      refine Tr.sc [(0, r102)] rfl ?_
      refine Tr.if_eq (pc := 105) (tgt := 121) d_X5_order_105 rfl (fun c105 => ?_) (fun c105 => ?_)
      · refine Tr.iconst (pc := 121) d_X5_order_121 (by decide) ?_
        exact Tr.zret (pc := 122) d_X5_order_122 rfl (by omega) ⟨hS, _, rfl, by omega, by omega, fun hq => absurd hq (by omega)⟩
      · refine Tr.aload_n (pc := 108) (i := 0) d_X5_order_108 rfl rfl ?_
        refine Tr.bipush (pc := 109) d_X5_order_109 rfl (by decide) ?_
        refine Tr.callV (pc := 111) (as := [_]) d_X5_order_111 s_5_81 ok_X5_takeSign rfl rfl (Nat.le_of_ble_eq_true rfl) (Nat.le_of_ble_eq_true rfl) (by decide) (ty_6 hS.1.1) ?_
        refine Tr.imp (Tr.deep (by decide) (sp_X5_takeSign_6 hS.1 ((St.kp hS (by decide) (by decide) (by decide)).trans en_6_2) 59 (by omega))) ?_
        rintro M111 _ ⟨h111, r111, rfl, lr111, ur111⟩
        have hS := St.tr hS h111 (by decide) (by decide)
        refine Tr.sc [(0, r111)] rfl ?_
        refine Tr.if_eq (pc := 114) (tgt := 121) d_X5_order_114 rfl (fun c114 => ?_) (fun c114 => ?_)
        · refine Tr.iconst (pc := 121) d_X5_order_121 (by decide) ?_
          exact Tr.zret (pc := 122) d_X5_order_122 rfl (by omega) ⟨hS, _, rfl, by omega, by omega, fun hq => absurd hq (by omega)⟩
        · refine Tr.iconst (pc := 117) d_X5_order_117 (by decide) ?_
          refine Tr.goto (pc := 118) (tgt := 122) d_X5_order_118 rfl ?_
          exact Tr.zret (pc := 122) d_X5_order_122 rfl (by omega) ⟨hS, _, rfl, by omega, by omega, fun _ => ((St.kp h111 (by decide) (by decide) (by decide)).trans (x102_6_6 (by omega)))⟩
  · refine Tr.tp 7 c9 ?_
    refine Tr.tswIn (pc := 9) (off := 114) (tgt := 123) d_X5_order_9 (by decide) (by decide) rfl rfl ?_
    refine Tr.aload_n (pc := 123) (i := 0) d_X5_order_123 rfl rfl ?_
    refine Tr.iload_n (pc := 124) (i := 1) d_X5_order_124 rfl rfl ?_
    refine Tr.iconst (pc := 125) d_X5_order_125 (by decide) ?_
    refine Tr.callV (pc := 126) (as := [_, _]) d_X5_order_126 s_5_170 ok_X5_about rfl rfl (Nat.le_of_ble_eq_true rfl) (Nat.le_of_ble_eq_true rfl) (by decide) (ty_6 hS.1.1) ?_
    refine Tr.imp (Tr.deep (by decide) (sp_X5_about_6_v0_w1 hS.1 hE ((St.kp hS (by decide) (by decide) (by decide)).trans en_6_2) ((St.kp hS (by decide) (by decide) (by decide)).trans en_6_3) ((St.kp hS (by decide) (by decide) (by decide)).trans en_6_4) a1 (by omega))) ?_
    rintro M126 _ ⟨h126, r126, rfl, lr126, ur126⟩
    have hS := St.tr hS h126 (by decide) (by decide)
    refine Tr.sc [(0, r126)] rfl ?_
    refine Tr.if_eq (pc := 129) (tgt := 145) d_X5_order_129 rfl (fun c129 => ?_) (fun c129 => ?_)
    · refine Tr.iconst (pc := 145) d_X5_order_145 (by decide) ?_
      exact Tr.zret (pc := 146) d_X5_order_146 rfl (by omega) ⟨hS, _, rfl, by omega, by omega, fun hq => absurd hq (by omega)⟩
    · refine Tr.aload_n (pc := 132) (i := 0) d_X5_order_132 rfl rfl ?_
      refine Tr.bipush (pc := 133) d_X5_order_133 rfl (by decide) ?_
      refine Tr.callV (pc := 135) (as := [_]) d_X5_order_135 s_5_81 ok_X5_takeSign rfl rfl (Nat.le_of_ble_eq_true rfl) (Nat.le_of_ble_eq_true rfl) (by decide) (ty_6 hS.1.1) ?_
      refine Tr.imp (Tr.deep (by decide) (sp_X5_takeSign_6 hS.1 ((St.kp hS (by decide) (by decide) (by decide)).trans en_6_2) 59 (by omega))) ?_
      rintro M135 _ ⟨h135, r135, rfl, lr135, ur135⟩
      have hS := St.tr hS h135 (by decide) (by decide)
      refine Tr.sc [(0, r135)] rfl ?_
      refine Tr.if_eq (pc := 138) (tgt := 145) d_X5_order_138 rfl (fun c138 => ?_) (fun c138 => ?_)
      · refine Tr.iconst (pc := 145) d_X5_order_145 (by decide) ?_
        exact Tr.zret (pc := 146) d_X5_order_146 rfl (by omega) ⟨hS, _, rfl, by omega, by omega, fun hq => absurd hq (by omega)⟩
      · refine Tr.iconst (pc := 141) d_X5_order_141 (by decide) ?_
        refine Tr.goto (pc := 142) (tgt := 146) d_X5_order_142 rfl ?_
        exact Tr.zret (pc := 146) d_X5_order_146 rfl (by omega) ⟨hS, _, rfl, by omega, by omega, fun _ => ((St.kp h135 (by decide) (by decide) (by decide)).trans ((St.kp h126 (by decide) (by decide) (by decide)).trans en_6_6))⟩
  · refine Tr.tp 8 c9 ?_
    refine Tr.tswIn (pc := 9) (off := 114) (tgt := 123) d_X5_order_9 (by decide) (by decide) rfl rfl ?_
    refine Tr.aload_n (pc := 123) (i := 0) d_X5_order_123 rfl rfl ?_
    refine Tr.iload_n (pc := 124) (i := 1) d_X5_order_124 rfl rfl ?_
    refine Tr.iconst (pc := 125) d_X5_order_125 (by decide) ?_
    refine Tr.callV (pc := 126) (as := [_, _]) d_X5_order_126 s_5_170 ok_X5_about rfl rfl (Nat.le_of_ble_eq_true rfl) (Nat.le_of_ble_eq_true rfl) (by decide) (ty_6 hS.1.1) ?_
    refine Tr.imp (Tr.deep (by decide) (sp_X5_about_6_v0_w1 hS.1 hE ((St.kp hS (by decide) (by decide) (by decide)).trans en_6_2) ((St.kp hS (by decide) (by decide) (by decide)).trans en_6_3) ((St.kp hS (by decide) (by decide) (by decide)).trans en_6_4) a1 (by omega))) ?_
    rintro M126 _ ⟨h126, r126, rfl, lr126, ur126⟩
    have hS := St.tr hS h126 (by decide) (by decide)
    refine Tr.sc [(0, r126)] rfl ?_
    refine Tr.if_eq (pc := 129) (tgt := 145) d_X5_order_129 rfl (fun c129 => ?_) (fun c129 => ?_)
    · refine Tr.iconst (pc := 145) d_X5_order_145 (by decide) ?_
      exact Tr.zret (pc := 146) d_X5_order_146 rfl (by omega) ⟨hS, _, rfl, by omega, by omega, fun hq => absurd hq (by omega)⟩
    · refine Tr.aload_n (pc := 132) (i := 0) d_X5_order_132 rfl rfl ?_
      refine Tr.bipush (pc := 133) d_X5_order_133 rfl (by decide) ?_
      refine Tr.callV (pc := 135) (as := [_]) d_X5_order_135 s_5_81 ok_X5_takeSign rfl rfl (Nat.le_of_ble_eq_true rfl) (Nat.le_of_ble_eq_true rfl) (by decide) (ty_6 hS.1.1) ?_
      refine Tr.imp (Tr.deep (by decide) (sp_X5_takeSign_6 hS.1 ((St.kp hS (by decide) (by decide) (by decide)).trans en_6_2) 59 (by omega))) ?_
      rintro M135 _ ⟨h135, r135, rfl, lr135, ur135⟩
      have hS := St.tr hS h135 (by decide) (by decide)
      refine Tr.sc [(0, r135)] rfl ?_
      refine Tr.if_eq (pc := 138) (tgt := 145) d_X5_order_138 rfl (fun c138 => ?_) (fun c138 => ?_)
      · refine Tr.iconst (pc := 145) d_X5_order_145 (by decide) ?_
        exact Tr.zret (pc := 146) d_X5_order_146 rfl (by omega) ⟨hS, _, rfl, by omega, by omega, fun hq => absurd hq (by omega)⟩
      · refine Tr.iconst (pc := 141) d_X5_order_141 (by decide) ?_
        refine Tr.goto (pc := 142) (tgt := 146) d_X5_order_142 rfl ?_
        exact Tr.zret (pc := 146) d_X5_order_146 rfl (by omega) ⟨hS, _, rfl, by omega, by omega, fun _ => ((St.kp h135 (by decide) (by decide) (by decide)).trans ((St.kp h126 (by decide) (by decide) (by decide)).trans en_6_6))⟩
  · refine Tr.tp 9 c9 ?_
    refine Tr.tswIn (pc := 9) (off := 138) (tgt := 147) d_X5_order_9 (by decide) (by decide) rfl rfl ?_
    refine Tr.aload_n (pc := 147) (i := 0) d_X5_order_147 rfl rfl ?_
    refine Tr.callV (pc := 148) (as := []) d_X5_order_148 s_5_174 ok_X5_sum rfl rfl (Nat.le_of_ble_eq_true rfl) (Nat.le_of_ble_eq_true rfl) (by decide) (ty_6 hS.1.1) ?_
    refine Tr.imp (Tr.deep (by decide) (sp_X5_sum_6_w11 hS.1 hE ((St.kp hS (by decide) (by decide) (by decide)).trans en_6_2) ((St.kp hS (by decide) (by decide) (by decide)).trans en_6_3) ((St.kp hS (by decide) (by decide) (by decide)).trans en_6_4) en_6_6)) ?_
    rintro M148 _ ⟨h148, r148, rfl, lr148, ur148, x148_6_6⟩
    have hS := St.tr hS h148 (by decide) (by decide)
    refine Tr.sc [(0, r148)] rfl ?_
    refine Tr.if_eq (pc := 151) (tgt := 167) d_X5_order_151 rfl (fun c151 => ?_) (fun c151 => ?_)
    · refine Tr.iconst (pc := 167) d_X5_order_167 (by decide) ?_
      exact Tr.zret (pc := 168) d_X5_order_168 rfl (by omega) ⟨hS, _, rfl, by omega, by omega, fun hq => absurd hq (by omega)⟩
    · refine Tr.aload_n (pc := 154) (i := 0) d_X5_order_154 rfl rfl ?_
      refine Tr.bipush (pc := 155) d_X5_order_155 rfl (by decide) ?_
      refine Tr.callV (pc := 157) (as := [_]) d_X5_order_157 s_5_81 ok_X5_takeSign rfl rfl (Nat.le_of_ble_eq_true rfl) (Nat.le_of_ble_eq_true rfl) (by decide) (ty_6 hS.1.1) ?_
      refine Tr.imp (Tr.deep (by decide) (sp_X5_takeSign_6 hS.1 ((St.kp hS (by decide) (by decide) (by decide)).trans en_6_2) 59 (by omega))) ?_
      rintro M157 _ ⟨h157, r157, rfl, lr157, ur157⟩
      have hS := St.tr hS h157 (by decide) (by decide)
      refine Tr.sc [(0, r157)] rfl ?_
      refine Tr.if_eq (pc := 160) (tgt := 167) d_X5_order_160 rfl (fun c160 => ?_) (fun c160 => ?_)
      · refine Tr.iconst (pc := 167) d_X5_order_167 (by decide) ?_
        exact Tr.zret (pc := 168) d_X5_order_168 rfl (by omega) ⟨hS, _, rfl, by omega, by omega, fun hq => absurd hq (by omega)⟩
      · refine Tr.iconst (pc := 163) d_X5_order_163 (by decide) ?_
        refine Tr.goto (pc := 164) (tgt := 168) d_X5_order_164 rfl ?_
        exact Tr.zret (pc := 168) d_X5_order_168 rfl (by omega) ⟨hS, _, rfl, by omega, by omega, fun _ => ((St.kp h157 (by decide) (by decide) (by decide)).trans (x148_6_6 (by omega)))⟩
  · refine Tr.tp 10 c9 ?_
    refine Tr.tswIn (pc := 9) (off := 138) (tgt := 147) d_X5_order_9 (by decide) (by decide) rfl rfl ?_
    refine Tr.aload_n (pc := 147) (i := 0) d_X5_order_147 rfl rfl ?_
    refine Tr.callV (pc := 148) (as := []) d_X5_order_148 s_5_174 ok_X5_sum rfl rfl (Nat.le_of_ble_eq_true rfl) (Nat.le_of_ble_eq_true rfl) (by decide) (ty_6 hS.1.1) ?_
    refine Tr.imp (Tr.deep (by decide) (sp_X5_sum_6_w11 hS.1 hE ((St.kp hS (by decide) (by decide) (by decide)).trans en_6_2) ((St.kp hS (by decide) (by decide) (by decide)).trans en_6_3) ((St.kp hS (by decide) (by decide) (by decide)).trans en_6_4) en_6_6)) ?_
    rintro M148 _ ⟨h148, r148, rfl, lr148, ur148, x148_6_6⟩
    have hS := St.tr hS h148 (by decide) (by decide)
    refine Tr.sc [(0, r148)] rfl ?_
    refine Tr.if_eq (pc := 151) (tgt := 167) d_X5_order_151 rfl (fun c151 => ?_) (fun c151 => ?_)
    · refine Tr.iconst (pc := 167) d_X5_order_167 (by decide) ?_
      exact Tr.zret (pc := 168) d_X5_order_168 rfl (by omega) ⟨hS, _, rfl, by omega, by omega, fun hq => absurd hq (by omega)⟩
    · refine Tr.aload_n (pc := 154) (i := 0) d_X5_order_154 rfl rfl ?_
      refine Tr.bipush (pc := 155) d_X5_order_155 rfl (by decide) ?_
      refine Tr.callV (pc := 157) (as := [_]) d_X5_order_157 s_5_81 ok_X5_takeSign rfl rfl (Nat.le_of_ble_eq_true rfl) (Nat.le_of_ble_eq_true rfl) (by decide) (ty_6 hS.1.1) ?_
      refine Tr.imp (Tr.deep (by decide) (sp_X5_takeSign_6 hS.1 ((St.kp hS (by decide) (by decide) (by decide)).trans en_6_2) 59 (by omega))) ?_
      rintro M157 _ ⟨h157, r157, rfl, lr157, ur157⟩
      have hS := St.tr hS h157 (by decide) (by decide)
      refine Tr.sc [(0, r157)] rfl ?_
      refine Tr.if_eq (pc := 160) (tgt := 167) d_X5_order_160 rfl (fun c160 => ?_) (fun c160 => ?_)
      · refine Tr.iconst (pc := 167) d_X5_order_167 (by decide) ?_
        exact Tr.zret (pc := 168) d_X5_order_168 rfl (by omega) ⟨hS, _, rfl, by omega, by omega, fun hq => absurd hq (by omega)⟩
      · refine Tr.iconst (pc := 163) d_X5_order_163 (by decide) ?_
        refine Tr.goto (pc := 164) (tgt := 168) d_X5_order_164 rfl ?_
        exact Tr.zret (pc := 168) d_X5_order_168 rfl (by omega) ⟨hS, _, rfl, by omega, by omega, fun _ => ((St.kp h157 (by decide) (by decide) (by decide)).trans (x148_6_6 (by omega)))⟩
  · refine Tr.tp 11 c9 ?_
    refine Tr.tswIn (pc := 9) (off := 160) (tgt := 169) d_X5_order_9 (by decide) (by decide) rfl rfl ?_
    refine Tr.aload_n (pc := 169) (i := 0) d_X5_order_169 rfl rfl ?_
    refine Tr.callV (pc := 170) (as := []) d_X5_order_170 s_5_177 ok_X5_test rfl rfl (Nat.le_of_ble_eq_true rfl) (Nat.le_of_ble_eq_true rfl) (by decide) (ty_6 hS.1.1) ?_
    refine Tr.imp (Tr.deep (by decide) (sp_X5_test_6_w11 hS.1 hE ((St.kp hS (by decide) (by decide) (by decide)).trans en_6_2) ((St.kp hS (by decide) (by decide) (by decide)).trans en_6_3) ((St.kp hS (by decide) (by decide) (by decide)).trans en_6_4) en_6_6)) ?_
    rintro M170 _ ⟨h170, r170, rfl, lr170, ur170, x170_6_6⟩
    have hS := St.tr hS h170 (by decide) (by decide)
    refine Tr.sc [(0, r170)] rfl ?_
    refine Tr.if_eq (pc := 173) (tgt := 196) d_X5_order_173 rfl (fun c173 => ?_) (fun c173 => ?_)
    · refine Tr.iconst (pc := 196) d_X5_order_196 (by decide) ?_
      exact Tr.zret (pc := 197) d_X5_order_197 rfl (by omega) ⟨hS, _, rfl, by omega, by omega, fun hq => absurd hq (by omega)⟩
    · refine Tr.aload_n (pc := 176) (i := 0) d_X5_order_176 rfl rfl ?_
      refine Tr.iload_n (pc := 177) (i := 1) d_X5_order_177 rfl rfl ?_
      refine Tr.callV (pc := 178) (as := [_]) d_X5_order_178 s_5_180 ok_X5_yesBlock rfl rfl (Nat.le_of_ble_eq_true rfl) (Nat.le_of_ble_eq_true rfl) (by decide) (ty_6 hS.1.1) ?_
      refine Tr.imp (Tr.deep (by decide) (sp_X5_yesBlock_6_w11 hS.1 hE ((St.kp hS (by decide) (by decide) (by decide)).trans en_6_2) ((St.kp hS (by decide) (by decide) (by decide)).trans en_6_3) ((St.kp hS (by decide) (by decide) (by decide)).trans en_6_4) (x170_6_6 (by omega)) a1 (by omega))) ?_
      rintro M178 _ ⟨h178, r178, rfl, lr178, ur178, x178_6_6⟩
      have hS := St.tr hS h178 (by decide) (by decide)
      refine Tr.sc [(0, r178)] rfl ?_
      refine Tr.if_eq (pc := 181) (tgt := 196) d_X5_order_181 rfl (fun c181 => ?_) (fun c181 => ?_)
      · refine Tr.iconst (pc := 196) d_X5_order_196 (by decide) ?_
        exact Tr.zret (pc := 197) d_X5_order_197 rfl (by omega) ⟨hS, _, rfl, by omega, by omega, fun hq => absurd hq (by omega)⟩
      · refine Tr.aload_n (pc := 184) (i := 0) d_X5_order_184 rfl rfl ?_
        refine Tr.iload_n (pc := 185) (i := 1) d_X5_order_185 rfl rfl ?_
        refine Tr.callV (pc := 186) (as := [_]) d_X5_order_186 s_5_183 ok_X5_noBlock rfl rfl (Nat.le_of_ble_eq_true rfl) (Nat.le_of_ble_eq_true rfl) (by decide) (ty_6 hS.1.1) ?_
        refine Tr.imp (Tr.deep (by decide) (sp_X5_noBlock_6_w13 hS.1 hE ((St.kp hS (by decide) (by decide) (by decide)).trans en_6_2) ((St.kp hS (by decide) (by decide) (by decide)).trans en_6_3) ((St.kp hS (by decide) (by decide) (by decide)).trans en_6_4) (x178_6_6 (by omega)) a1 (by omega))) ?_
        rintro M186 _ ⟨h186, r186, rfl, lr186, ur186, x186_6_6⟩
        have hS := St.tr hS h186 (by decide) (by decide)
        refine Tr.sc [(0, r186)] rfl ?_
        refine Tr.if_eq (pc := 189) (tgt := 196) d_X5_order_189 rfl (fun c189 => ?_) (fun c189 => ?_)
        · refine Tr.iconst (pc := 196) d_X5_order_196 (by decide) ?_
          exact Tr.zret (pc := 197) d_X5_order_197 rfl (by omega) ⟨hS, _, rfl, by omega, by omega, fun hq => absurd hq (by omega)⟩
        · refine Tr.iconst (pc := 192) d_X5_order_192 (by decide) ?_
          refine Tr.goto (pc := 193) (tgt := 197) d_X5_order_193 rfl ?_
          exact Tr.zret (pc := 197) d_X5_order_197 rfl (by omega) ⟨hS, _, rfl, by omega, by omega, fun _ => (x186_6_6 (by omega))⟩

def ws_X5_orders_6_w11 : List (Int × Int) := [(6, 0), (6, 1), (6, 5), (6, 6), (15, 0), (15, 11)]
def as_X5_orders_6_w11 : List Int := [16, 17, 18, 19, 20, 21, 22, 24, 25]
def q_X5_orders_6_w11 (M0 M' : Mem) (r : Option PV) : Prop := St Tru ws_X5_orders_6_w11 as_X5_orders_6_w11 M0 M' ∧ ∃ v : Int, r = some (0, v) ∧ (-2) ≤ v ∧ v ≤ 59 ∧ (((-1) ≤ v ∧ v ≤ 1000000) → rd M' 6 6 = 2)
set_option maxRecDepth 100000 in
set_option maxHeartbeats 4000000 in
theorem sp_X5_orders_6_w11 {l : Launch} {K : EC} {M0 : Mem} {xq : Int} (hI : In Tru M0) (hE : e_all K xq) (en_6_2 : rd M0 6 2 = 2) (en_6_3 : rd M0 6 3 = 7) (en_6_4 : rd M0 6 4 = 15) (en_6_6 : rd M0 6 6 = 2) (a1 : Int) (ha1 : 0 ≤ a1 ∧ a1 ≤ 59)  : Tr l K 35 mX5_orders 0 [(0, (2, 6)), (1, (0, a1))] [] M0 (q_X5_orders_6_w11 M0) := by
  have hS : St Tru ws_X5_orders_6_w11 as_X5_orders_6_w11 M0 M0 := St.rf hI
  refine Tr.iconst (pc := 0) d_X5_orders_0 (by decide) ?_
  refine Tr.istore_n (pc := 1) (i := 2) (ls2 := [(2, (0, (-1))), (0, (2, 6)), (1, (0, a1))]) d_X5_orders_1 rfl (by decide) rfl ?_
  refine Tr.iconst (pc := 2) d_X5_orders_2 (by decide) ?_
  refine Tr.istore_n (pc := 3) (i := 3) (ls2 := [(3, (0, (-1))), (2, (0, (-1))), (0, (2, 6)), (1, (0, a1))]) d_X5_orders_3 rfl (by decide) rfl ?_
  refine Tr.iconst (pc := 4) d_X5_orders_4 (by decide) ?_
  refine Tr.istore (pc := 5) (i := 4) (ls2 := [(4, (0, 0)), (3, (0, (-1))), (2, (0, (-1))), (0, (2, 6)), (1, (0, a1))]) d_X5_orders_5 (by decide) rfl ?_
  have J7 : ∀ (n7 : Nat) (M : Mem) (p7_2 p7_3 p7_4 : Int), St Tru ws_X5_orders_6_w11 as_X5_orders_6_w11 M0 M → ((-1) ≤ p7_2 ∧ p7_2 ≤ 59) → ((-1) ≤ p7_3 ∧ p7_3 ≤ 59) → (0 ≤ p7_4 ∧ p7_4 ≤ 61) → rd M 6 6 = 2 → (61 - p7_4).toNat < n7 → Tr l K 35 mX5_orders 7 [(0, (2, 6)), (1, (0, a1)), (2, (0, p7_2)), (3, (0, p7_3)), (4, (0, p7_4))] [] M (q_X5_orders_6_w11 M0) := by
    intro n7
    induction n7 with
    | zero => intro M p7_2 p7_3 p7_4 hS bp7_2 bp7_3 bp7_4 k7_6_6 hm7; exact absurd hm7 (Nat.not_lt_zero _)
    | succ n7 J7 =>
      intro M p7_2 p7_3 p7_4 hS bp7_2 bp7_3 bp7_4 k7_6_6 hm7
      refine Tr.iload (pc := 7) (i := 4) d_X5_orders_7 rfl ?_
      refine Tr.bipush (pc := 9) d_X5_orders_9 rfl (by decide) ?_
      refine Tr.icmp_gt (pc := 11) (tgt := 111) d_X5_orders_11 rfl (fun c11 => ?_) (fun c11 => ?_)
      · refine Tr.iload_n (pc := 111) (i := 2) d_X5_orders_111 rfl rfl ?_
        exact Tr.iret (pc := 112) d_X5_orders_112 rfl ⟨hS, _, rfl, by omega, by omega, fun _ => k7_6_6⟩
      · refine Tr.aload_n (pc := 14) (i := 0) d_X5_orders_14 rfl rfl ?_
        refine Tr.callV (pc := 15) (as := []) d_X5_orders_15 s_5_154 ok_X5_isOrder rfl rfl (Nat.le_of_ble_eq_true rfl) (Nat.le_of_ble_eq_true rfl) (by decide) (ty_6 hS.1.1) ?_
        refine Tr.imp (Tr.deep (by decide) (sp_X5_isOrder_6 hS.1 ((St.kp hS (by decide) (by decide) (by decide)).trans en_6_2))) ?_
        rintro M15 _ ⟨h15, r15, rfl, lr15, ur15⟩
        have hS := St.tr hS h15 (by decide) (by decide)
        refine Tr.sc [(0, r15)] rfl ?_
        refine Tr.if_eq (pc := 18) (tgt := 111) d_X5_orders_18 rfl (fun c18 => ?_) (fun c18 => ?_)
        · refine Tr.iload_n (pc := 111) (i := 2) d_X5_orders_111 rfl rfl ?_
          exact Tr.iret (pc := 112) d_X5_orders_112 rfl ⟨hS, _, rfl, by omega, by omega, fun _ => ((St.kp h15 (by decide) (by decide) (by decide)).trans k7_6_6)⟩
        · refine Tr.aload_n (pc := 21) (i := 0) d_X5_orders_21 rfl rfl ?_
          refine Tr.getf (pc := 22) d_X5_orders_22 f_5_32 (by decide) (by decide) (ty_6 hS.1.1) ?_
          refine Tr.tp 15 ((St.kp hS (by decide) (by decide) (by decide)).trans en_6_4) ?_
          refine Tr.getf (pc := 25) d_X5_orders_25 f_5_157 (by decide) (by decide) (ty_15 hS.1.1) ?_
          refine Tr.gen (P := fun v => 0 ≤ v ∧ v ≤ 60) (ir_15_0 hS.1.2.1) (fun r25 er25 br25 => ?_)
          refine Tr.bipush (pc := 28) d_X5_orders_28 rfl (by decide) ?_
          refine Tr.icmp_lt (pc := 30) (tgt := 42) d_X5_orders_30 rfl (fun c30 => ?_) (fun c30 => ?_)
          · refine Tr.aload_n (pc := 42) (i := 0) d_X5_orders_42 rfl rfl ?_
            refine Tr.getf (pc := 43) d_X5_orders_43 f_5_32 (by decide) (by decide) (ty_6 hS.1.1) ?_
            refine Tr.tp 15 ((St.kp hS (by decide) (by decide) (by decide)).trans en_6_4) ?_
            refine Tr.aload_n (pc := 46) (i := 0) d_X5_orders_46 rfl rfl ?_
            refine Tr.getf (pc := 47) d_X5_orders_47 f_5_18 (by decide) (by decide) (ty_6 hS.1.1) ?_
            refine Tr.tp 2 ((St.kp hS (by decide) (by decide) (by decide)).trans en_6_2) ?_
            refine Tr.getf (pc := 50) d_X5_orders_50 f_5_68 (by decide) (by decide) (ty_2 hS.1.1) ?_
            refine Tr.tp 5 (fx_2_2 hS.1.1) ?_
            refine Tr.aload_n (pc := 53) (i := 0) d_X5_orders_53 rfl rfl ?_
            refine Tr.getf (pc := 54) d_X5_orders_54 f_5_36 (by decide) (by decide) (ty_6 hS.1.1) ?_
            refine Tr.gen (P := fun v => 0 ≤ v ∧ v ≤ 900) (ir_6_5 hS.1.2.1) (fun r54 er54 br54 => ?_)
            refine Tr.iald (pc := 57) d_X5_orders_57 (ty_5 hS.1.1) (by omega) (by omega) ?_
            refine Tr.gen (P := fun v => (-2147483648) ≤ v ∧ v ≤ 2147483647) (ar_5 hS.1.2.1 _) (fun r57 er57 br57 => ?_)
            refine Tr.iload_n (pc := 58) (i := 1) d_X5_orders_58 rfl rfl ?_
            refine Tr.callV (pc := 59) (as := [_, _]) d_X5_orders_59 s_5_160 ok_X4_open rfl rfl (Nat.le_of_ble_eq_true rfl) (Nat.le_of_ble_eq_true rfl) (by decide) (ty_15 hS.1.1) ?_
            refine Tr.imp (Tr.deep (by decide) (sp_X4_open_15_w1 hS.1 r57 (by omega) a1 (by omega) (by have h9 := er25; omega))) ?_
            rintro M59 _ ⟨h59, r59, rfl, lr59, ur59⟩
            have hS := St.tr hS h59 (by decide) (by decide)
            refine Tr.sc [(0, r59)] rfl ?_
            refine Tr.istore (pc := 62) (i := 5) (ls2 := [(5, (0, r59)), (0, (2, 6)), (1, (0, a1)), (2, (0, p7_2)), (3, (0, p7_3)), (4, (0, p7_4))]) d_X5_orders_62 (by decide) rfl ?_
            refine Tr.iload_n (pc := 64) (i := 3) d_X5_orders_64 rfl rfl ?_
            have J85 : ∀ (M : Mem) (p85_2 : Int), St Tru ws_X5_orders_6_w11 as_X5_orders_6_w11 M0 M → ((-1) ≤ p85_2 ∧ p85_2 ≤ 59) → rd M 5 r54 = r57 → rd M 6 5 = r54 → rd M 6 6 = 2 → Tr l K 35 mX5_orders 85 [(0, (2, 6)), (1, (0, a1)), (2, (0, p85_2)), (4, (0, p7_4)), (5, (0, r59))] [] M (q_X5_orders_6_w11 M0) := by
              intro M p85_2 hS bp85_2 k85_5_r5410 k85_6_5 k85_6_6
              refine Tr.iload (pc := 85) (i := 5) d_X5_orders_85 rfl ?_
              refine Tr.istore_n (pc := 87) (i := 3) (ls2 := [(3, (0, r59)), (0, (2, 6)), (1, (0, a1)), (2, (0, p85_2)), (4, (0, p7_4)), (5, (0, r59))]) d_X5_orders_87 rfl (by decide) rfl ?_
              refine Tr.aload_n (pc := 88) (i := 0) d_X5_orders_88 rfl rfl ?_
              refine Tr.callV (pc := 89) (as := []) d_X5_orders_89 s_5_74 ok_X5_goOn rfl rfl (Nat.le_of_ble_eq_true rfl) (Nat.le_of_ble_eq_true rfl) (by decide) (ty_6 hS.1.1) ?_
              refine Tr.imp (Tr.deep (by decide) (sp_X5_goOn_6 hS.1 )) ?_
              rintro M89 _ ⟨h89, r89, rfl, lr89, ur89⟩
              have hS := St.tr hS h89 (by decide) (by decide)
              refine Tr.sc [(0, r89)] rfl ?_
              refine Tr.pop (pc := 92) d_X5_orders_92 ne01 ?_
              refine Tr.aload_n (pc := 93) (i := 0) d_X5_orders_93 rfl rfl ?_
              refine Tr.iload (pc := 94) (i := 5) d_X5_orders_94 rfl ?_
              refine Tr.callV (pc := 96) (as := [_]) d_X5_orders_96 s_5_166 ok_X5_order rfl rfl (Nat.le_of_ble_eq_true rfl) (Nat.le_of_ble_eq_true rfl) (by decide) (ty_6 hS.1.1) ?_
              refine Tr.imp (Tr.deep (by decide) (sp_X5_order_6_w11 hS.1 hE ((St.kp hS (by decide) (by decide) (by decide)).trans en_6_2) ((St.kp hS (by decide) (by decide) (by decide)).trans en_6_3) ((St.kp hS (by decide) (by decide) (by decide)).trans en_6_4) ((St.kp h89 (by decide) (by decide) (by decide)).trans k85_6_6) r59 (by omega))) ?_
              rintro M96 _ ⟨h96, r96, rfl, lr96, ur96, x96_6_6⟩
              have hS := St.tr hS h96 (by decide) (by decide)
              refine Tr.sc [(0, r96)] rfl ?_
              refine Tr.if_ne (pc := 99) (tgt := 105) d_X5_orders_99 rfl (fun c99 => ?_) (fun c99 => ?_)
              · refine Tr.iincV (pc := 105) (n2 := (p7_4 + 1)) (ls2 := [(4, (0, (p7_4 + 1))), (3, (0, r59)), (0, (2, 6)), (1, (0, a1)), (2, (0, p85_2)), (5, (0, r59))]) d_X5_orders_105 rfl (by decide) ((w32_id (by omega)).trans (by omega)) rfl ?_
                refine Tr.goto (pc := 108) (tgt := 7) d_X5_orders_108 rfl ?_
                refine Tr.pick [2, 3, 4, 1, 0] (ls2 := [(0, (2, 6)), (1, (0, a1)), (2, (0, p85_2)), (3, (0, r59)), (4, (0, (p7_4 + 1)))]) rfl ?_
                exact J7 _ _ _ _ hS (by omega) (by omega) (by omega) (x96_6_6 (by omega)) (by omega)
              · refine Tr.bipush (pc := 102) d_X5_orders_102 rfl (by decide) ?_
                exact Tr.iret (pc := 104) d_X5_orders_104 rfl ⟨hS, _, rfl, by omega, by omega, fun hq => absurd hq (by omega)⟩
            refine Tr.if_ge (pc := 65) (tgt := 74) d_X5_orders_65 rfl (fun c65 => ?_) (fun c65 => ?_)
            · refine Tr.aload_n (pc := 74) (i := 0) d_X5_orders_74 rfl rfl ?_
              refine Tr.getf (pc := 75) d_X5_orders_75 f_5_32 (by decide) (by decide) (ty_6 hS.1.1) ?_
              refine Tr.tp 15 ((St.kp hS (by decide) (by decide) (by decide)).trans en_6_4) ?_
              refine Tr.getf (pc := 78) d_X5_orders_78 f_5_163 (by decide) (by decide) (ty_15 hS.1.1) ?_
              refine Tr.tp 21 (fx_15_6 hS.1.1) ?_
              refine Tr.iload_n (pc := 81) (i := 3) d_X5_orders_81 rfl rfl ?_
              refine Tr.iload (pc := 82) (i := 5) d_X5_orders_82 rfl ?_
              refine Tr.iastS (pc := 84) (P := St Tru ws_X5_orders_6_w11 as_X5_orders_6_w11 M0) d_X5_orders_84 (ty_21 hS.1.1) (by omega) (by omega) (sa_21 hS (by decide) (by omega) trivial) (fun M84 hS w84 => ?_)
              refine Tr.pick [1, 2, 3, 5, 0] (ls2 := [(0, (2, 6)), (1, (0, a1)), (2, (0, p7_2)), (4, (0, p7_4)), (5, (0, r59))]) rfl ?_
              exact J85 _ _ hS (by omega) ((Wr.b w84 rfl).trans ((St.ka h59 (by decide) (by decide) (by decide)).trans er57)) ((Wr.b w84 rfl).trans ((St.kp h59 (by decide) (by decide) (by decide)).trans er54)) ((Wr.b w84 rfl).trans ((St.kp h59 (by decide) (by decide) (by decide)).trans ((St.kp h15 (by decide) (by decide) (by decide)).trans k7_6_6)))
            · refine Tr.iload (pc := 68) (i := 5) d_X5_orders_68 rfl ?_
              refine Tr.istore_n (pc := 70) (i := 2) (ls2 := [(2, (0, r59)), (5, (0, r59)), (0, (2, 6)), (1, (0, a1)), (3, (0, p7_3)), (4, (0, p7_4))]) d_X5_orders_70 rfl (by decide) rfl ?_
              refine Tr.goto (pc := 71) (tgt := 85) d_X5_orders_71 rfl ?_
              refine Tr.pick [2, 3, 0, 5, 1] (ls2 := [(0, (2, 6)), (1, (0, a1)), (2, (0, r59)), (4, (0, p7_4)), (5, (0, r59))]) rfl ?_
              exact J85 _ _ hS (by omega) ((St.ka h59 (by decide) (by decide) (by decide)).trans er57) ((St.kp h59 (by decide) (by decide) (by decide)).trans er54) ((St.kp h59 (by decide) (by decide) (by decide)).trans ((St.kp h15 (by decide) (by decide) (by decide)).trans k7_6_6))
          · refine Tr.aload_n (pc := 33) (i := 0) d_X5_orders_33 rfl rfl ?_
            refine Tr.iconst (pc := 34) d_X5_orders_34 (by decide) ?_
            refine Tr.callV (pc := 35) (as := [_]) d_X5_orders_35 s_5_56 ok_X5_refuse rfl rfl (Nat.le_of_ble_eq_true rfl) (Nat.le_of_ble_eq_true rfl) (by decide) (ty_6 hS.1.1) ?_
            refine Tr.imp (Tr.deep (by decide) (sp_X5_refuse_6_w2 hS.1 ((St.kp hS (by decide) (by decide) (by decide)).trans en_6_2) 5 (by omega))) ?_
            rintro M35 _ ⟨h35, r35, rfl, lr35, ur35⟩
            have hS := St.tr hS h35 (by decide) (by decide)
            refine Tr.sc [(0, r35)] rfl ?_
            refine Tr.pop (pc := 38) d_X5_orders_38 ne01 ?_
            refine Tr.bipush (pc := 39) d_X5_orders_39 rfl (by decide) ?_
            exact Tr.iret (pc := 41) d_X5_orders_41 rfl ⟨hS, _, rfl, by omega, by omega, fun hq => absurd hq (by omega)⟩
  refine Tr.pick [3, 4, 2, 1, 0] (ls2 := [(0, (2, 6)), (1, (0, a1)), (2, (0, (-1))), (3, (0, (-1))), (4, (0, 0))]) rfl ?_
  exact J7 _ _ _ _ _ hS (by omega) (by omega) (by omega) en_6_6 (Nat.lt_succ_self _)

def ws_X5_block_6_w10 : List (Int × Int) := [(6, 0), (6, 1), (6, 5), (6, 6), (15, 0), (15, 11)]
def as_X5_block_6_w10 : List Int := [16, 17, 18, 19, 20, 21, 22, 24, 25]
def q_X5_block_6_w10 (M0 M' : Mem) (r : Option PV) : Prop := St Tru ws_X5_block_6_w10 as_X5_block_6_w10 M0 M' ∧ ∃ v : Int, r = some (0, v) ∧ (-2) ≤ v ∧ v ≤ 59 ∧ (((-1) ≤ v ∧ v ≤ 1000000) → rd M' 6 6 = 1)
set_option maxRecDepth 100000 in
set_option maxHeartbeats 4000000 in
theorem sp_X5_block_6_w10 {l : Launch} {K : EC} {M0 : Mem} {xq : Int} (hI : In Tru M0) (hE : e_all K xq) (en_6_2 : rd M0 6 2 = 2) (en_6_3 : rd M0 6 3 = 7) (en_6_4 : rd M0 6 4 = 15) (en_6_6 : rd M0 6 6 = 1) (a1 : Int) (ha1 : 0 ≤ a1 ∧ a1 ≤ 59)  : Tr l K 36 mX5_block 0 [(0, (2, 6)), (1, (0, a1))] [] M0 (q_X5_block_6_w10 M0) := by
  have hS : St Tru ws_X5_block_6_w10 as_X5_block_6_w10 M0 M0 := St.rf hI
  refine Tr.aload_n (pc := 0) (i := 0) d_X5_block_0 rfl rfl ?_
  refine Tr.bipush (pc := 1) d_X5_block_1 rfl (by decide) ?_
  refine Tr.callV (pc := 3) (as := [_]) d_X5_block_3 s_5_206 ok_X5_takeOpening rfl rfl (Nat.le_of_ble_eq_true rfl) (Nat.le_of_ble_eq_true rfl) (by decide) (ty_6 hS.1.1) ?_
  refine Tr.imp (Tr.deep (by decide) (sp_X5_takeOpening_6_w19 hS.1 ((St.kp hS (by decide) (by decide) (by decide)).trans en_6_2) en_6_6 123 (by omega))) ?_
  rintro M3 _ ⟨h3, r3, rfl, lr3, ur3, x3_6_6⟩
  have hS := St.tr hS h3 (by decide) (by decide)
  refine Tr.sc [(0, r3)] rfl ?_
  refine Tr.if_ne (pc := 6) (tgt := 12) d_X5_block_6 rfl (fun c6 => ?_) (fun c6 => ?_)
  · refine Tr.aload_n (pc := 12) (i := 0) d_X5_block_12 rfl rfl ?_
    refine Tr.iload_n (pc := 13) (i := 1) d_X5_block_13 rfl rfl ?_
    refine Tr.callV (pc := 14) (as := [_]) d_X5_block_14 s_5_46 ok_X5_orders rfl rfl (Nat.le_of_ble_eq_true rfl) (Nat.le_of_ble_eq_true rfl) (by decide) (ty_6 hS.1.1) ?_
    refine Tr.imp (Tr.deep (by decide) (sp_X5_orders_6_w11 hS.1 hE ((St.kp hS (by decide) (by decide) (by decide)).trans en_6_2) ((St.kp hS (by decide) (by decide) (by decide)).trans en_6_3) ((St.kp hS (by decide) (by decide) (by decide)).trans en_6_4) (x3_6_6 (by omega)) a1 (by omega))) ?_
    rintro M14 _ ⟨h14, r14, rfl, lr14, ur14, x14_6_6⟩
    have hS := St.tr hS h14 (by decide) (by decide)
    refine Tr.sc [(0, r14)] rfl ?_
    refine Tr.istore_n (pc := 17) (i := 2) (ls2 := [(2, (0, r14)), (0, (2, 6)), (1, (0, a1))]) d_X5_block_17 rfl (by decide) rfl ?_
    refine Tr.iload_n (pc := 18) (i := 2) d_X5_block_18 rfl rfl ?_
    refine Tr.bipush (pc := 19) d_X5_block_19 rfl (by decide) ?_
    refine Tr.icmp_eq (pc := 21) (tgt := 33) d_X5_block_21 rfl (fun c21 => ?_) (fun c21 => ?_)
    · refine Tr.bipush (pc := 33) d_X5_block_33 rfl (by decide) ?_
      exact Tr.iret (pc := 35) d_X5_block_35 rfl ⟨hS, _, rfl, by omega, by omega, fun hq => absurd hq (by omega)⟩
    · refine Tr.aload_n (pc := 24) (i := 0) d_X5_block_24 rfl rfl ?_
      refine Tr.bipush (pc := 25) d_X5_block_25 rfl (by decide) ?_
      refine Tr.callV (pc := 27) (as := [_]) d_X5_block_27 s_5_209 ok_X5_takeClosing rfl rfl (Nat.le_of_ble_eq_true rfl) (Nat.le_of_ble_eq_true rfl) (by decide) (ty_6 hS.1.1) ?_
      refine Tr.imp (Tr.deep (by decide) (sp_X5_takeClosing_6_w22 hS.1 ((St.kp hS (by decide) (by decide) (by decide)).trans en_6_2) (x14_6_6 (by omega)) 125 (by omega))) ?_
      rintro M27 _ ⟨h27, r27, rfl, lr27, ur27, x27_6_6⟩
      have hS := St.tr hS h27 (by decide) (by decide)
      refine Tr.sc [(0, r27)] rfl ?_
      refine Tr.if_ne (pc := 30) (tgt := 36) d_X5_block_30 rfl (fun c30 => ?_) (fun c30 => ?_)
      · refine Tr.iload_n (pc := 36) (i := 2) d_X5_block_36 rfl rfl ?_
        exact Tr.iret (pc := 37) d_X5_block_37 rfl ⟨hS, _, rfl, by omega, by omega, fun _ => (x27_6_6 (by omega))⟩
      · refine Tr.bipush (pc := 33) d_X5_block_33 rfl (by decide) ?_
        exact Tr.iret (pc := 35) d_X5_block_35 rfl ⟨hS, _, rfl, by omega, by omega, fun hq => absurd hq (by omega)⟩
  · refine Tr.bipush (pc := 9) d_X5_block_9 rfl (by decide) ?_
    exact Tr.iret (pc := 11) d_X5_block_11 rfl ⟨hS, _, rfl, by omega, by omega, fun hq => absurd hq (by omega)⟩

def ws_X5_yesBlock_6_w10 : List (Int × Int) := [(6, 0), (6, 1), (6, 5), (6, 6), (15, 0), (15, 11)]
def as_X5_yesBlock_6_w10 : List Int := [16, 17, 18, 19, 20, 21, 22, 24, 25]
def q_X5_yesBlock_6_w10 (M0 M' : Mem) (r : Option PV) : Prop := St Tru ws_X5_yesBlock_6_w10 as_X5_yesBlock_6_w10 M0 M' ∧ ∃ v : Int, r = some (0, v) ∧ 0 ≤ v ∧ v ≤ 1 ∧ ((1 ≤ v ∧ v ≤ 1) → rd M' 6 6 = 1)
set_option maxRecDepth 100000 in
set_option maxHeartbeats 4000000 in
theorem sp_X5_yesBlock_6_w10 {l : Launch} {K : EC} {M0 : Mem} {xq : Int} (hI : In Tru M0) (hE : e_all K xq) (en_6_2 : rd M0 6 2 = 2) (en_6_3 : rd M0 6 3 = 7) (en_6_4 : rd M0 6 4 = 15) (en_6_6 : rd M0 6 6 = 1) (a1 : Int) (ha1 : 0 ≤ a1 ∧ a1 ≤ 59)  : Tr l K 37 mX5_yesBlock 0 [(0, (2, 6)), (1, (0, a1))] [] M0 (q_X5_yesBlock_6_w10 M0) := by
  have hS : St Tru ws_X5_yesBlock_6_w10 as_X5_yesBlock_6_w10 M0 M0 := St.rf hI
  refine Tr.aload_n (pc := 0) (i := 0) d_X5_yesBlock_0 rfl rfl ?_
  refine Tr.iload_n (pc := 1) (i := 1) d_X5_yesBlock_1 rfl rfl ?_
  refine Tr.callV (pc := 2) (as := [_]) d_X5_yesBlock_2 s_5_197 ok_X5_block rfl rfl (Nat.le_of_ble_eq_true rfl) (Nat.le_of_ble_eq_true rfl) (by decide) (ty_6 hS.1.1) ?_
  refine Tr.imp (Tr.deep (by decide) (sp_X5_block_6_w10 hS.1 hE ((St.kp hS (by decide) (by decide) (by decide)).trans en_6_2) ((St.kp hS (by decide) (by decide) (by decide)).trans en_6_3) ((St.kp hS (by decide) (by decide) (by decide)).trans en_6_4) en_6_6 a1 (by omega))) ?_
  rintro M2 _ ⟨h2, r2, rfl, lr2, ur2, x2_6_6⟩
  have hS := St.tr hS h2 (by decide) (by decide)
  refine Tr.sc [(0, r2)] rfl ?_
  refine Tr.istore_n (pc := 5) (i := 2) (ls2 := [(2, (0, r2)), (0, (2, 6)), (1, (0, a1))]) d_X5_yesBlock_5 rfl (by decide) rfl ?_
  refine Tr.aload_n (pc := 6) (i := 0) d_X5_yesBlock_6 rfl rfl ?_
  refine Tr.getf (pc := 7) d_X5_yesBlock_7 f_5_32 (by decide) (by decide) (ty_6 hS.1.1) ?_
  refine Tr.tp 15 ((St.kp hS (by decide) (by decide) (by decide)).trans en_6_4) ?_
  refine Tr.getf (pc := 10) d_X5_yesBlock_10 f_5_200 (by decide) (by decide) (ty_15 hS.1.1) ?_
  refine Tr.tp 19 (fx_15_4 hS.1.1) ?_
  refine Tr.iload_n (pc := 13) (i := 1) d_X5_yesBlock_13 rfl rfl ?_
  refine Tr.iload_n (pc := 14) (i := 2) d_X5_yesBlock_14 rfl rfl ?_
  refine Tr.iastS (pc := 15) (P := St Tru ws_X5_yesBlock_6_w10 as_X5_yesBlock_6_w10 M0) d_X5_yesBlock_15 (ty_19 hS.1.1) (by omega) (by omega) (sa_19 hS (by decide) (by omega) trivial) (fun M15 hS w15 => ?_)
  refine Tr.iload_n (pc := 16) (i := 2) d_X5_yesBlock_16 rfl rfl ?_
  refine Tr.bipush (pc := 17) d_X5_yesBlock_17 rfl (by decide) ?_
  refine Tr.icmp_eq (pc := 19) (tgt := 26) d_X5_yesBlock_19 rfl (fun c19 => ?_) (fun c19 => ?_)
  · refine Tr.iconst (pc := 26) d_X5_yesBlock_26 (by decide) ?_
    exact Tr.zret (pc := 27) d_X5_yesBlock_27 rfl (by omega) ⟨hS, _, rfl, by omega, by omega, fun hq => absurd hq (by omega)⟩
  · refine Tr.iconst (pc := 22) d_X5_yesBlock_22 (by decide) ?_
    refine Tr.goto (pc := 23) (tgt := 27) d_X5_yesBlock_23 rfl ?_
    exact Tr.zret (pc := 27) d_X5_yesBlock_27 rfl (by omega) ⟨hS, _, rfl, by omega, by omega, fun _ => ((Wr.b w15 rfl).trans (x2_6_6 (by omega)))⟩

def ws_X5_noBlock_6_w14 : List (Int × Int) := [(6, 0), (6, 1), (6, 5), (6, 6), (15, 0), (15, 11)]
def as_X5_noBlock_6_w14 : List Int := [16, 17, 18, 19, 20, 21, 22, 24, 25]
def q_X5_noBlock_6_w14 (M0 M' : Mem) (r : Option PV) : Prop := St Tru ws_X5_noBlock_6_w14 as_X5_noBlock_6_w14 M0 M' ∧ ∃ v : Int, r = some (0, v) ∧ 0 ≤ v ∧ v ≤ 1 ∧ ((1 ≤ v ∧ v ≤ 1) → rd M' 6 6 = 1)
set_option maxRecDepth 100000 in
set_option maxHeartbeats 4000000 in
theorem sp_X5_noBlock_6_w14 {l : Launch} {K : EC} {M0 : Mem} {xq : Int} (hI : In Tru M0) (hE : e_all K xq) (en_6_2 : rd M0 6 2 = 2) (en_6_3 : rd M0 6 3 = 7) (en_6_4 : rd M0 6 4 = 15) (en_6_6 : rd M0 6 6 = 1) (a1 : Int) (ha1 : 0 ≤ a1 ∧ a1 ≤ 59)  : Tr l K 37 mX5_noBlock 0 [(0, (2, 6)), (1, (0, a1))] [] M0 (q_X5_noBlock_6_w14 M0) := by
  have hS : St Tru ws_X5_noBlock_6_w14 as_X5_noBlock_6_w14 M0 M0 := St.rf hI
  refine Tr.aload_n (pc := 0) (i := 0) d_X5_noBlock_0 rfl rfl ?_
  refine Tr.bipush (pc := 1) d_X5_noBlock_1 rfl (by decide) ?_
  refine Tr.callV (pc := 3) (as := [_]) d_X5_noBlock_3 s_5_71 ok_X5_isOwn rfl rfl (Nat.le_of_ble_eq_true rfl) (Nat.le_of_ble_eq_true rfl) (by decide) (ty_6 hS.1.1) ?_
  refine Tr.imp (Tr.deep (by decide) (sp_X5_isOwn_6 hS.1 ((St.kp hS (by decide) (by decide) (by decide)).trans en_6_2) 13 (by omega))) ?_
  rintro M3 _ ⟨h3, r3, rfl, lr3, ur3⟩
  have hS := St.tr hS h3 (by decide) (by decide)
  refine Tr.sc [(0, r3)] rfl ?_
  refine Tr.if_ne (pc := 6) (tgt := 11) d_X5_noBlock_6 rfl (fun c6 => ?_) (fun c6 => ?_)
  · refine Tr.aload_n (pc := 11) (i := 0) d_X5_noBlock_11 rfl rfl ?_
    refine Tr.callV (pc := 12) (as := []) d_X5_noBlock_12 s_5_74 ok_X5_goOn rfl rfl (Nat.le_of_ble_eq_true rfl) (Nat.le_of_ble_eq_true rfl) (by decide) (ty_6 hS.1.1) ?_
    refine Tr.imp (Tr.deep (by decide) (sp_X5_goOn_6 hS.1 )) ?_
    rintro M12 _ ⟨h12, r12, rfl, lr12, ur12⟩
    have hS := St.tr hS h12 (by decide) (by decide)
    refine Tr.sc [(0, r12)] rfl ?_
    refine Tr.pop (pc := 15) d_X5_noBlock_15 ne01 ?_
    refine Tr.aload_n (pc := 16) (i := 0) d_X5_noBlock_16 rfl rfl ?_
    refine Tr.iload_n (pc := 17) (i := 1) d_X5_noBlock_17 rfl rfl ?_
    refine Tr.callV (pc := 18) (as := [_]) d_X5_noBlock_18 s_5_197 ok_X5_block rfl rfl (Nat.le_of_ble_eq_true rfl) (Nat.le_of_ble_eq_true rfl) (by decide) (ty_6 hS.1.1) ?_
    refine Tr.imp (Tr.deep (by decide) (sp_X5_block_6_w10 hS.1 hE ((St.kp hS (by decide) (by decide) (by decide)).trans en_6_2) ((St.kp hS (by decide) (by decide) (by decide)).trans en_6_3) ((St.kp hS (by decide) (by decide) (by decide)).trans en_6_4) ((St.kp h12 (by decide) (by decide) (by decide)).trans ((St.kp h3 (by decide) (by decide) (by decide)).trans en_6_6)) a1 (by omega))) ?_
    rintro M18 _ ⟨h18, r18, rfl, lr18, ur18, x18_6_6⟩
    have hS := St.tr hS h18 (by decide) (by decide)
    refine Tr.sc [(0, r18)] rfl ?_
    refine Tr.istore_n (pc := 21) (i := 2) (ls2 := [(2, (0, r18)), (0, (2, 6)), (1, (0, a1))]) d_X5_noBlock_21 rfl (by decide) rfl ?_
    refine Tr.aload_n (pc := 22) (i := 0) d_X5_noBlock_22 rfl rfl ?_
    refine Tr.getf (pc := 23) d_X5_noBlock_23 f_5_32 (by decide) (by decide) (ty_6 hS.1.1) ?_
    refine Tr.tp 15 ((St.kp hS (by decide) (by decide) (by decide)).trans en_6_4) ?_
    refine Tr.getf (pc := 26) d_X5_noBlock_26 f_5_203 (by decide) (by decide) (ty_15 hS.1.1) ?_
    refine Tr.tp 20 (fx_15_5 hS.1.1) ?_
    refine Tr.iload_n (pc := 29) (i := 1) d_X5_noBlock_29 rfl rfl ?_
    refine Tr.iload_n (pc := 30) (i := 2) d_X5_noBlock_30 rfl rfl ?_
    refine Tr.iastS (pc := 31) (P := St Tru ws_X5_noBlock_6_w14 as_X5_noBlock_6_w14 M0) d_X5_noBlock_31 (ty_20 hS.1.1) (by omega) (by omega) (sa_20 hS (by decide) (by omega) trivial) (fun M31 hS w31 => ?_)
    refine Tr.iload_n (pc := 32) (i := 2) d_X5_noBlock_32 rfl rfl ?_
    refine Tr.bipush (pc := 33) d_X5_noBlock_33 rfl (by decide) ?_
    refine Tr.icmp_eq (pc := 35) (tgt := 42) d_X5_noBlock_35 rfl (fun c35 => ?_) (fun c35 => ?_)
    · refine Tr.iconst (pc := 42) d_X5_noBlock_42 (by decide) ?_
      exact Tr.zret (pc := 43) d_X5_noBlock_43 rfl (by omega) ⟨hS, _, rfl, by omega, by omega, fun hq => absurd hq (by omega)⟩
    · refine Tr.iconst (pc := 38) d_X5_noBlock_38 (by decide) ?_
      refine Tr.goto (pc := 39) (tgt := 43) d_X5_noBlock_39 rfl ?_
      exact Tr.zret (pc := 43) d_X5_noBlock_43 rfl (by omega) ⟨hS, _, rfl, by omega, by omega, fun _ => ((Wr.b w31 rfl).trans (x18_6_6 (by omega)))⟩
  · refine Tr.iconst (pc := 9) d_X5_noBlock_9 (by decide) ?_
    exact Tr.zret (pc := 10) d_X5_noBlock_10 rfl (by omega) ⟨hS, _, rfl, by omega, by omega, fun _ => ((St.kp h3 (by decide) (by decide) (by decide)).trans en_6_6)⟩
end
/-! 43.29 -/
section
def ws_X5_order_6_w10 : List (Int × Int) := [(6, 0), (6, 1), (6, 5), (6, 6), (15, 0), (15, 11)]
def as_X5_order_6_w10 : List Int := [16, 17, 18, 19, 20, 21, 22, 24, 25]
def q_X5_order_6_w10 (M0 M' : Mem) (r : Option PV) : Prop := St Tru ws_X5_order_6_w10 as_X5_order_6_w10 M0 M' ∧ ∃ v : Int, r = some (0, v) ∧ 0 ≤ v ∧ v ≤ 1 ∧ ((1 ≤ v ∧ v ≤ 1) → rd M' 6 6 = 1)
set_option maxRecDepth 100000 in
set_option maxHeartbeats 4000000 in
theorem sp_X5_order_6_w10 {l : Launch} {K : EC} {M0 : Mem} {xq : Int} (hI : In Tru M0) (hE : e_all K xq) (en_6_2 : rd M0 6 2 = 2) (en_6_3 : rd M0 6 3 = 7) (en_6_4 : rd M0 6 4 = 15) (en_6_6 : rd M0 6 6 = 1) (a1 : Int) (ha1 : 0 ≤ a1 ∧ a1 ≤ 59)  : Tr l K 38 mX5_order 0 [(0, (2, 6)), (1, (0, a1))] [] M0 (q_X5_order_6_w10 M0) := by
  have hS : St Tru ws_X5_order_6_w10 as_X5_order_6_w10 M0 M0 := St.rf hI
  refine Tr.aload_n (pc := 0) (i := 0) d_X5_order_0 rfl rfl ?_
  refine Tr.getf (pc := 1) d_X5_order_1 f_5_32 (by decide) (by decide) (ty_6 hS.1.1) ?_
  refine Tr.tp 15 ((St.kp hS (by decide) (by decide) (by decide)).trans en_6_4) ?_
  refine Tr.getf (pc := 4) d_X5_order_4 f_5_169 (by decide) (by decide) (ty_15 hS.1.1) ?_
  refine Tr.tp 16 (fx_15_1 hS.1.1) ?_
  refine Tr.iload_n (pc := 7) (i := 1) d_X5_order_7 rfl rfl ?_
  refine Tr.iald (pc := 8) d_X5_order_8 (ty_16 hS.1.1) (by omega) (by omega) ?_
  refine Tr.gen (P := fun v => (-2147483648) ≤ v ∧ v ≤ 2147483647) (ar_16 hS.1.2.1 _) (fun r8 er8 br8 => ?_)
  rcases (show (r8 < 5 ∨ 11 < r8) ∨ r8 = 5 ∨ r8 = 6 ∨ r8 = 7 ∨ r8 = 8 ∨ r8 = 9 ∨ r8 = 10 ∨ r8 = 11 by omega) with c9 | c9 | c9 | c9 | c9 | c9 | c9 | c9
  · refine Tr.tswOut (pc := 9) (tgt := 198) d_X5_order_9 c9 rfl ?_
    refine Tr.aload_n (pc := 198) (i := 0) d_X5_order_198 rfl rfl ?_
    refine Tr.callV (pc := 199) (as := []) d_X5_order_199 s_5_177 ok_X5_test rfl rfl (Nat.le_of_ble_eq_true rfl) (Nat.le_of_ble_eq_true rfl) (by decide) (ty_6 hS.1.1) ?_
    refine Tr.imp (Tr.deep (by decide) (sp_X5_test_6_w10 hS.1 hE ((St.kp hS (by decide) (by decide) (by decide)).trans en_6_2) ((St.kp hS (by decide) (by decide) (by decide)).trans en_6_3) ((St.kp hS (by decide) (by decide) (by decide)).trans en_6_4) en_6_6)) ?_
    rintro M199 _ ⟨h199, r199, rfl, lr199, ur199, x199_6_6⟩
    have hS := St.tr hS h199 (by decide) (by decide)
    refine Tr.sc [(0, r199)] rfl ?_
    refine Tr.if_eq (pc := 202) (tgt := 217) d_X5_order_202 rfl (fun c202 => ?_) (fun c202 => ?_)
    · refine Tr.iconst (pc := 217) d_X5_order_217 (by decide) ?_
      exact Tr.zret (pc := 218) d_X5_order_218 rfl (by omega) ⟨hS, _, rfl, by omega, by omega, fun hq => absurd hq (by omega)⟩
    · refine Tr.aload_n (pc := 205) (i := 0) d_X5_order_205 rfl rfl ?_
      refine Tr.iload_n (pc := 206) (i := 1) d_X5_order_206 rfl rfl ?_
      refine Tr.callV (pc := 207) (as := [_]) d_X5_order_207 s_5_180 ok_X5_yesBlock rfl rfl (Nat.le_of_ble_eq_true rfl) (Nat.le_of_ble_eq_true rfl) (by decide) (ty_6 hS.1.1) ?_
      refine Tr.imp (Tr.deep (by decide) (sp_X5_yesBlock_6_w10 hS.1 hE ((St.kp hS (by decide) (by decide) (by decide)).trans en_6_2) ((St.kp hS (by decide) (by decide) (by decide)).trans en_6_3) ((St.kp hS (by decide) (by decide) (by decide)).trans en_6_4) (x199_6_6 (by omega)) a1 (by omega))) ?_
      rintro M207 _ ⟨h207, r207, rfl, lr207, ur207, x207_6_6⟩
      have hS := St.tr hS h207 (by decide) (by decide)
      refine Tr.sc [(0, r207)] rfl ?_
      refine Tr.if_eq (pc := 210) (tgt := 217) d_X5_order_210 rfl (fun c210 => ?_) (fun c210 => ?_)
      · refine Tr.iconst (pc := 217) d_X5_order_217 (by decide) ?_
        exact Tr.zret (pc := 218) d_X5_order_218 rfl (by omega) ⟨hS, _, rfl, by omega, by omega, fun hq => absurd hq (by omega)⟩
      · refine Tr.iconst (pc := 213) d_X5_order_213 (by decide) ?_
        refine Tr.goto (pc := 214) (tgt := 218) d_X5_order_214 rfl ?_
        exact Tr.zret (pc := 218) d_X5_order_218 rfl (by omega) ⟨hS, _, rfl, by omega, by omega, fun _ => (x207_6_6 (by omega))⟩
  · refine Tr.tp 5 c9 ?_
    refine Tr.tswIn (pc := 9) (off := 43) (tgt := 52) d_X5_order_9 (by decide) (by decide) rfl rfl ?_
    refine Tr.aload_n (pc := 52) (i := 0) d_X5_order_52 rfl rfl ?_
    refine Tr.iload_n (pc := 53) (i := 1) d_X5_order_53 rfl rfl ?_
    refine Tr.iconst (pc := 54) d_X5_order_54 (by decide) ?_
    refine Tr.callV (pc := 55) (as := [_, _]) d_X5_order_55 s_5_170 ok_X5_about rfl rfl (Nat.le_of_ble_eq_true rfl) (Nat.le_of_ble_eq_true rfl) (by decide) (ty_6 hS.1.1) ?_
    refine Tr.imp (Tr.deep (by decide) (sp_X5_about_6_v2_w1 hS.1 hE ((St.kp hS (by decide) (by decide) (by decide)).trans en_6_2) ((St.kp hS (by decide) (by decide) (by decide)).trans en_6_3) ((St.kp hS (by decide) (by decide) (by decide)).trans en_6_4) a1 (by omega))) ?_
    rintro M55 _ ⟨h55, r55, rfl, lr55, ur55⟩
    have hS := St.tr hS h55 (by decide) (by decide)
    refine Tr.sc [(0, r55)] rfl ?_
    refine Tr.if_eq (pc := 58) (tgt := 90) d_X5_order_58 rfl (fun c58 => ?_) (fun c58 => ?_)
    · refine Tr.iconst (pc := 90) d_X5_order_90 (by decide) ?_
      exact Tr.zret (pc := 91) d_X5_order_91 rfl (by omega) ⟨hS, _, rfl, by omega, by omega, fun hq => absurd hq (by omega)⟩
    · refine Tr.aload_n (pc := 61) (i := 0) d_X5_order_61 rfl rfl ?_
      refine Tr.bipush (pc := 62) d_X5_order_62 rfl (by decide) ?_
      refine Tr.callV (pc := 64) (as := [_]) d_X5_order_64 s_5_81 ok_X5_takeSign rfl rfl (Nat.le_of_ble_eq_true rfl) (Nat.le_of_ble_eq_true rfl) (by decide) (ty_6 hS.1.1) ?_
      refine Tr.imp (Tr.deep (by decide) (sp_X5_takeSign_6_w3 hS.1 ((St.kp hS (by decide) (by decide) (by decide)).trans en_6_2) 61 (by omega))) ?_
      rintro M64 _ ⟨h64, r64, rfl, lr64, ur64⟩
      have hS := St.tr hS h64 (by decide) (by decide)
      refine Tr.sc [(0, r64)] rfl ?_
      refine Tr.if_eq (pc := 67) (tgt := 90) d_X5_order_67 rfl (fun c67 => ?_) (fun c67 => ?_)
      · refine Tr.iconst (pc := 90) d_X5_order_90 (by decide) ?_
        exact Tr.zret (pc := 91) d_X5_order_91 rfl (by omega) ⟨hS, _, rfl, by omega, by omega, fun hq => absurd hq (by omega)⟩
      · refine Tr.aload_n (pc := 70) (i := 0) d_X5_order_70 rfl rfl ?_
        refine Tr.callV (pc := 71) (as := []) d_X5_order_71 s_5_174 ok_X5_sum rfl rfl (Nat.le_of_ble_eq_true rfl) (Nat.le_of_ble_eq_true rfl) (by decide) (ty_6 hS.1.1) ?_
        refine Tr.imp (Tr.deep (by decide) (sp_X5_sum_6_w10 hS.1 hE ((St.kp hS (by decide) (by decide) (by decide)).trans en_6_2) ((St.kp hS (by decide) (by decide) (by decide)).trans en_6_3) ((St.kp hS (by decide) (by decide) (by decide)).trans en_6_4) ((St.kp h64 (by decide) (by decide) (by decide)).trans ((St.kp h55 (by decide) (by decide) (by decide)).trans en_6_6)))) ?_
        rintro M71 _ ⟨h71, r71, rfl, lr71, ur71, x71_6_6⟩
        have hS := St.tr hS h71 (by decide) (by decide)
        refine Tr.sc [(0, r71)] rfl ?_
        refine Tr.if_eq (pc := 74) (tgt := 90) d_X5_order_74 rfl (fun c74 => ?_) (fun c74 => ?_)
        · refine Tr.iconst (pc := 90) d_X5_order_90 (by decide) ?_
          exact Tr.zret (pc := 91) d_X5_order_91 rfl (by omega) ⟨hS, _, rfl, by omega, by omega, fun hq => absurd hq (by omega)⟩
        · refine Tr.aload_n (pc := 77) (i := 0) d_X5_order_77 rfl rfl ?_
          refine Tr.bipush (pc := 78) d_X5_order_78 rfl (by decide) ?_
          refine Tr.callV (pc := 80) (as := [_]) d_X5_order_80 s_5_81 ok_X5_takeSign rfl rfl (Nat.le_of_ble_eq_true rfl) (Nat.le_of_ble_eq_true rfl) (by decide) (ty_6 hS.1.1) ?_
          refine Tr.imp (Tr.deep (by decide) (sp_X5_takeSign_6 hS.1 ((St.kp hS (by decide) (by decide) (by decide)).trans en_6_2) 59 (by omega))) ?_
          rintro M80 _ ⟨h80, r80, rfl, lr80, ur80⟩
          have hS := St.tr hS h80 (by decide) (by decide)
          refine Tr.sc [(0, r80)] rfl ?_
          refine Tr.if_eq (pc := 83) (tgt := 90) d_X5_order_83 rfl (fun c83 => ?_) (fun c83 => ?_)
          · refine Tr.iconst (pc := 90) d_X5_order_90 (by decide) ?_
            exact Tr.zret (pc := 91) d_X5_order_91 rfl (by omega) ⟨hS, _, rfl, by omega, by omega, fun hq => absurd hq (by omega)⟩
          · refine Tr.iconst (pc := 86) d_X5_order_86 (by decide) ?_
            refine Tr.goto (pc := 87) (tgt := 91) d_X5_order_87 rfl ?_
            exact Tr.zret (pc := 91) d_X5_order_91 rfl (by omega) ⟨hS, _, rfl, by omega, by omega, fun _ => ((St.kp h80 (by decide) (by decide) (by decide)).trans (x71_6_6 (by omega)))⟩
  · refine Tr.tp 6 c9 ?_
    refine Tr.tswIn (pc := 9) (off := 83) (tgt := 92) d_X5_order_9 (by decide) (by decide) rfl rfl ?_
    refine Tr.aload_n (pc := 92) (i := 0) d_X5_order_92 rfl rfl ?_
    refine Tr.iload_n (pc := 93) (i := 1) d_X5_order_93 rfl rfl ?_
    refine Tr.iconst (pc := 94) d_X5_order_94 (by decide) ?_
    refine Tr.callV (pc := 95) (as := [_, _]) d_X5_order_95 s_5_170 ok_X5_about rfl rfl (Nat.le_of_ble_eq_true rfl) (Nat.le_of_ble_eq_true rfl) (by decide) (ty_6 hS.1.1) ?_
    refine Tr.imp (Tr.deep (by decide) (sp_X5_about_6_v0_w1 hS.1 hE ((St.kp hS (by decide) (by decide) (by decide)).trans en_6_2) ((St.kp hS (by decide) (by decide) (by decide)).trans en_6_3) ((St.kp hS (by decide) (by decide) (by decide)).trans en_6_4) a1 (by omega))) ?_
    rintro M95 _ ⟨h95, r95, rfl, lr95, ur95⟩
    have hS := St.tr hS h95 (by decide) (by decide)
    refine Tr.sc [(0, r95)] rfl ?_
    refine Tr.if_eq (pc := 98) (tgt := 121) d_X5_order_98 rfl (fun c98 => ?_) (fun c98 => ?_)
    · refine Tr.iconst (pc := 121) d_X5_order_121 (by decide) ?_
      exact Tr.zret (pc := 122) d_X5_order_122 rfl (by omega) ⟨hS, _, rfl, by omega, by omega, fun hq => absurd hq (by omega)⟩
    · refine Tr.aload_n (pc := 101) (i := 0) d_X5_order_101 rfl rfl ?_
      refine Tr.callV (pc := 102) (as := []) d_X5_order_102 s_5_174 ok_X5_sum rfl rfl (Nat.le_of_ble_eq_true rfl) (Nat.le_of_ble_eq_true rfl) (by decide) (ty_6 hS.1.1) ?_
      refine Tr.imp (Tr.deep (by decide) (sp_X5_sum_6_w10 hS.1 hE ((St.kp hS (by decide) (by decide) (by decide)).trans en_6_2) ((St.kp hS (by decide) (by decide) (by decide)).trans en_6_3) ((St.kp hS (by decide) (by decide) (by decide)).trans en_6_4) ((St.kp h95 (by decide) (by decide) (by decide)).trans en_6_6))) ?_
      rintro M102 _ ⟨h102, r102, rfl, lr102, ur102, x102_6_6⟩
      have hS := St.tr hS h102 (by decide) (by decide)
      refine Tr.sc [(0, r102)] rfl ?_
      refine Tr.if_eq (pc := 105) (tgt := 121) d_X5_order_105 rfl (fun c105 => ?_) (fun c105 => ?_)
      · refine Tr.iconst (pc := 121) d_X5_order_121 (by decide) ?_
        exact Tr.zret (pc := 122) d_X5_order_122 rfl (by omega) ⟨hS, _, rfl, by omega, by omega, fun hq => absurd hq (by omega)⟩
      · refine Tr.aload_n (pc := 108) (i := 0) d_X5_order_108 rfl rfl ?_
        refine Tr.bipush (pc := 109) d_X5_order_109 rfl (by decide) ?_
        refine Tr.callV (pc := 111) (as := [_]) d_X5_order_111 s_5_81 ok_X5_takeSign rfl rfl (Nat.le_of_ble_eq_true rfl) (Nat.le_of_ble_eq_true rfl) (by decide) (ty_6 hS.1.1) ?_
        refine Tr.imp (Tr.deep (by decide) (sp_X5_takeSign_6 hS.1 ((St.kp hS (by decide) (by decide) (by decide)).trans en_6_2) 59 (by omega))) ?_
        rintro M111 _ ⟨h111, r111, rfl, lr111, ur111⟩
        have hS := St.tr hS h111 (by decide) (by decide)
        refine Tr.sc [(0, r111)] rfl ?_
        refine Tr.if_eq (pc := 114) (tgt := 121) d_X5_order_114 rfl (fun c114 => ?_) (fun c114 => ?_)
        · refine Tr.iconst (pc := 121) d_X5_order_121 (by decide) ?_
          exact Tr.zret (pc := 122) d_X5_order_122 rfl (by omega) ⟨hS, _, rfl, by omega, by omega, fun hq => absurd hq (by omega)⟩
        · refine Tr.iconst (pc := 117) d_X5_order_117 (by decide) ?_
          refine Tr.goto (pc := 118) (tgt := 122) d_X5_order_118 rfl ?_
          exact Tr.zret (pc := 122) d_X5_order_122 rfl (by omega) ⟨hS, _, rfl, by omega, by omega, fun _ => ((St.kp h111 (by decide) (by decide) (by decide)).trans (x102_6_6 (by omega)))⟩
  · refine Tr.tp 7 c9 ?_
    refine Tr.tswIn (pc := 9) (off := 114) (tgt := 123) d_X5_order_9 (by decide) (by decide) rfl rfl ?_
    refine Tr.aload_n (pc := 123) (i := 0) d_X5_order_123 rfl rfl ?_
    refine Tr.iload_n (pc := 124) (i := 1) d_X5_order_124 rfl rfl ?_
    refine Tr.iconst (pc := 125) d_X5_order_125 (by decide) ?_
    refine Tr.callV (pc := 126) (as := [_, _]) d_X5_order_126 s_5_170 ok_X5_about rfl rfl (Nat.le_of_ble_eq_true rfl) (Nat.le_of_ble_eq_true rfl) (by decide) (ty_6 hS.1.1) ?_
    refine Tr.imp (Tr.deep (by decide) (sp_X5_about_6_v0_w1 hS.1 hE ((St.kp hS (by decide) (by decide) (by decide)).trans en_6_2) ((St.kp hS (by decide) (by decide) (by decide)).trans en_6_3) ((St.kp hS (by decide) (by decide) (by decide)).trans en_6_4) a1 (by omega))) ?_
    rintro M126 _ ⟨h126, r126, rfl, lr126, ur126⟩
    have hS := St.tr hS h126 (by decide) (by decide)
    refine Tr.sc [(0, r126)] rfl ?_
    refine Tr.if_eq (pc := 129) (tgt := 145) d_X5_order_129 rfl (fun c129 => ?_) (fun c129 => ?_)
    · refine Tr.iconst (pc := 145) d_X5_order_145 (by decide) ?_
      exact Tr.zret (pc := 146) d_X5_order_146 rfl (by omega) ⟨hS, _, rfl, by omega, by omega, fun hq => absurd hq (by omega)⟩
    · refine Tr.aload_n (pc := 132) (i := 0) d_X5_order_132 rfl rfl ?_
      refine Tr.bipush (pc := 133) d_X5_order_133 rfl (by decide) ?_
      refine Tr.callV (pc := 135) (as := [_]) d_X5_order_135 s_5_81 ok_X5_takeSign rfl rfl (Nat.le_of_ble_eq_true rfl) (Nat.le_of_ble_eq_true rfl) (by decide) (ty_6 hS.1.1) ?_
      refine Tr.imp (Tr.deep (by decide) (sp_X5_takeSign_6 hS.1 ((St.kp hS (by decide) (by decide) (by decide)).trans en_6_2) 59 (by omega))) ?_
      rintro M135 _ ⟨h135, r135, rfl, lr135, ur135⟩
      have hS := St.tr hS h135 (by decide) (by decide)
      refine Tr.sc [(0, r135)] rfl ?_
      refine Tr.if_eq (pc := 138) (tgt := 145) d_X5_order_138 rfl (fun c138 => ?_) (fun c138 => ?_)
      · refine Tr.iconst (pc := 145) d_X5_order_145 (by decide) ?_
        exact Tr.zret (pc := 146) d_X5_order_146 rfl (by omega) ⟨hS, _, rfl, by omega, by omega, fun hq => absurd hq (by omega)⟩
      · refine Tr.iconst (pc := 141) d_X5_order_141 (by decide) ?_
        refine Tr.goto (pc := 142) (tgt := 146) d_X5_order_142 rfl ?_
        exact Tr.zret (pc := 146) d_X5_order_146 rfl (by omega) ⟨hS, _, rfl, by omega, by omega, fun _ => ((St.kp h135 (by decide) (by decide) (by decide)).trans ((St.kp h126 (by decide) (by decide) (by decide)).trans en_6_6))⟩
  · refine Tr.tp 8 c9 ?_
    refine Tr.tswIn (pc := 9) (off := 114) (tgt := 123) d_X5_order_9 (by decide) (by decide) rfl rfl ?_
    refine Tr.aload_n (pc := 123) (i := 0) d_X5_order_123 rfl rfl ?_
    refine Tr.iload_n (pc := 124) (i := 1) d_X5_order_124 rfl rfl ?_
    refine Tr.iconst (pc := 125) d_X5_order_125 (by decide) ?_
    refine Tr.callV (pc := 126) (as := [_, _]) d_X5_order_126 s_5_170 ok_X5_about rfl rfl (Nat.le_of_ble_eq_true rfl) (Nat.le_of_ble_eq_true rfl) (by decide) (ty_6 hS.1.1) ?_
    refine Tr.imp (Tr.deep (by decide) (sp_X5_about_6_v0_w1 hS.1 hE ((St.kp hS (by decide) (by decide) (by decide)).trans en_6_2) ((St.kp hS (by decide) (by decide) (by decide)).trans en_6_3) ((St.kp hS (by decide) (by decide) (by decide)).trans en_6_4) a1 (by omega))) ?_
    rintro M126 _ ⟨h126, r126, rfl, lr126, ur126⟩
    have hS := St.tr hS h126 (by decide) (by decide)
    refine Tr.sc [(0, r126)] rfl ?_
    refine Tr.if_eq (pc := 129) (tgt := 145) d_X5_order_129 rfl (fun c129 => ?_) (fun c129 => ?_)
    · refine Tr.iconst (pc := 145) d_X5_order_145 (by decide) ?_
      exact Tr.zret (pc := 146) d_X5_order_146 rfl (by omega) ⟨hS, _, rfl, by omega, by omega, fun hq => absurd hq (by omega)⟩
    · refine Tr.aload_n (pc := 132) (i := 0) d_X5_order_132 rfl rfl ?_
      refine Tr.bipush (pc := 133) d_X5_order_133 rfl (by decide) ?_
      refine Tr.callV (pc := 135) (as := [_]) d_X5_order_135 s_5_81 ok_X5_takeSign rfl rfl (Nat.le_of_ble_eq_true rfl) (Nat.le_of_ble_eq_true rfl) (by decide) (ty_6 hS.1.1) ?_
      refine Tr.imp (Tr.deep (by decide) (sp_X5_takeSign_6 hS.1 ((St.kp hS (by decide) (by decide) (by decide)).trans en_6_2) 59 (by omega))) ?_
      rintro M135 _ ⟨h135, r135, rfl, lr135, ur135⟩
      have hS := St.tr hS h135 (by decide) (by decide)
      refine Tr.sc [(0, r135)] rfl ?_
      refine Tr.if_eq (pc := 138) (tgt := 145) d_X5_order_138 rfl (fun c138 => ?_) (fun c138 => ?_)
      · refine Tr.iconst (pc := 145) d_X5_order_145 (by decide) ?_
        exact Tr.zret (pc := 146) d_X5_order_146 rfl (by omega) ⟨hS, _, rfl, by omega, by omega, fun hq => absurd hq (by omega)⟩
      · refine Tr.iconst (pc := 141) d_X5_order_141 (by decide) ?_
        refine Tr.goto (pc := 142) (tgt := 146) d_X5_order_142 rfl ?_
        exact Tr.zret (pc := 146) d_X5_order_146 rfl (by omega) ⟨hS, _, rfl, by omega, by omega, fun _ => ((St.kp h135 (by decide) (by decide) (by decide)).trans ((St.kp h126 (by decide) (by decide) (by decide)).trans en_6_6))⟩
  · refine Tr.tp 9 c9 ?_
    refine Tr.tswIn (pc := 9) (off := 138) (tgt := 147) d_X5_order_9 (by decide) (by decide) rfl rfl ?_
    refine Tr.aload_n (pc := 147) (i := 0) d_X5_order_147 rfl rfl ?_
    refine Tr.callV (pc := 148) (as := []) d_X5_order_148 s_5_174 ok_X5_sum rfl rfl (Nat.le_of_ble_eq_true rfl) (Nat.le_of_ble_eq_true rfl) (by decide) (ty_6 hS.1.1) ?_
    refine Tr.imp (Tr.deep (by decide) (sp_X5_sum_6_w10 hS.1 hE ((St.kp hS (by decide) (by decide) (by decide)).trans en_6_2) ((St.kp hS (by decide) (by decide) (by decide)).trans en_6_3) ((St.kp hS (by decide) (by decide) (by decide)).trans en_6_4) en_6_6)) ?_
    rintro M148 _ ⟨h148, r148, rfl, lr148, ur148, x148_6_6⟩
    have hS := St.tr hS h148 (by decide) (by decide)
    refine Tr.sc [(0, r148)] rfl ?_
    refine Tr.if_eq (pc := 151) (tgt := 167) d_X5_order_151 rfl (fun c151 => ?_) (fun c151 => ?_)
    · refine Tr.iconst (pc := 167) d_X5_order_167 (by decide) ?_
      exact Tr.zret (pc := 168) d_X5_order_168 rfl (by omega) ⟨hS, _, rfl, by omega, by omega, fun hq => absurd hq (by omega)⟩
    · refine Tr.aload_n (pc := 154) (i := 0) d_X5_order_154 rfl rfl ?_
      refine Tr.bipush (pc := 155) d_X5_order_155 rfl (by decide) ?_
      refine Tr.callV (pc := 157) (as := [_]) d_X5_order_157 s_5_81 ok_X5_takeSign rfl rfl (Nat.le_of_ble_eq_true rfl) (Nat.le_of_ble_eq_true rfl) (by decide) (ty_6 hS.1.1) ?_
      refine Tr.imp (Tr.deep (by decide) (sp_X5_takeSign_6 hS.1 ((St.kp hS (by decide) (by decide) (by decide)).trans en_6_2) 59 (by omega))) ?_
      rintro M157 _ ⟨h157, r157, rfl, lr157, ur157⟩
      have hS := St.tr hS h157 (by decide) (by decide)
      refine Tr.sc [(0, r157)] rfl ?_
      refine Tr.if_eq (pc := 160) (tgt := 167) d_X5_order_160 rfl (fun c160 => ?_) (fun c160 => ?_)
      · refine Tr.iconst (pc := 167) d_X5_order_167 (by decide) ?_
        exact Tr.zret (pc := 168) d_X5_order_168 rfl (by omega) ⟨hS, _, rfl, by omega, by omega, fun hq => absurd hq (by omega)⟩
      · refine Tr.iconst (pc := 163) d_X5_order_163 (by decide) ?_
        refine Tr.goto (pc := 164) (tgt := 168) d_X5_order_164 rfl ?_
        exact Tr.zret (pc := 168) d_X5_order_168 rfl (by omega) ⟨hS, _, rfl, by omega, by omega, fun _ => ((St.kp h157 (by decide) (by decide) (by decide)).trans (x148_6_6 (by omega)))⟩
  · refine Tr.tp 10 c9 ?_
    refine Tr.tswIn (pc := 9) (off := 138) (tgt := 147) d_X5_order_9 (by decide) (by decide) rfl rfl ?_
    refine Tr.aload_n (pc := 147) (i := 0) d_X5_order_147 rfl rfl ?_
    refine Tr.callV (pc := 148) (as := []) d_X5_order_148 s_5_174 ok_X5_sum rfl rfl (Nat.le_of_ble_eq_true rfl) (Nat.le_of_ble_eq_true rfl) (by decide) (ty_6 hS.1.1) ?_
    refine Tr.imp (Tr.deep (by decide) (sp_X5_sum_6_w10 hS.1 hE ((St.kp hS (by decide) (by decide) (by decide)).trans en_6_2) ((St.kp hS (by decide) (by decide) (by decide)).trans en_6_3) ((St.kp hS (by decide) (by decide) (by decide)).trans en_6_4) en_6_6)) ?_
    rintro M148 _ ⟨h148, r148, rfl, lr148, ur148, x148_6_6⟩
    have hS := St.tr hS h148 (by decide) (by decide)
    refine Tr.sc [(0, r148)] rfl ?_
    refine Tr.if_eq (pc := 151) (tgt := 167) d_X5_order_151 rfl (fun c151 => ?_) (fun c151 => ?_)
    · refine Tr.iconst (pc := 167) d_X5_order_167 (by decide) ?_
      exact Tr.zret (pc := 168) d_X5_order_168 rfl (by omega) ⟨hS, _, rfl, by omega, by omega, fun hq => absurd hq (by omega)⟩
    · refine Tr.aload_n (pc := 154) (i := 0) d_X5_order_154 rfl rfl ?_
      refine Tr.bipush (pc := 155) d_X5_order_155 rfl (by decide) ?_
      refine Tr.callV (pc := 157) (as := [_]) d_X5_order_157 s_5_81 ok_X5_takeSign rfl rfl (Nat.le_of_ble_eq_true rfl) (Nat.le_of_ble_eq_true rfl) (by decide) (ty_6 hS.1.1) ?_
      refine Tr.imp (Tr.deep (by decide) (sp_X5_takeSign_6 hS.1 ((St.kp hS (by decide) (by decide) (by decide)).trans en_6_2) 59 (by omega))) ?_
      rintro M157 _ ⟨h157, r157, rfl, lr157, ur157⟩
      have hS := St.tr hS h157 (by decide) (by decide)
      refine Tr.sc [(0, r157)] rfl ?_
      refine Tr.if_eq (pc := 160) (tgt := 167) d_X5_order_160 rfl (fun c160 => ?_) (fun c160 => ?_)
      · refine Tr.iconst (pc := 167) d_X5_order_167 (by decide) ?_
        exact Tr.zret (pc := 168) d_X5_order_168 rfl (by omega) ⟨hS, _, rfl, by omega, by omega, fun hq => absurd hq (by omega)⟩
      · refine Tr.iconst (pc := 163) d_X5_order_163 (by decide) ?_
        refine Tr.goto (pc := 164) (tgt := 168) d_X5_order_164 rfl ?_
        exact Tr.zret (pc := 168) d_X5_order_168 rfl (by omega) ⟨hS, _, rfl, by omega, by omega, fun _ => ((St.kp h157 (by decide) (by decide) (by decide)).trans (x148_6_6 (by omega)))⟩
  · refine Tr.tp 11 c9 ?_
    refine Tr.tswIn (pc := 9) (off := 160) (tgt := 169) d_X5_order_9 (by decide) (by decide) rfl rfl ?_
    refine Tr.aload_n (pc := 169) (i := 0) d_X5_order_169 rfl rfl ?_
    refine Tr.callV (pc := 170) (as := []) d_X5_order_170 s_5_177 ok_X5_test rfl rfl (Nat.le_of_ble_eq_true rfl) (Nat.le_of_ble_eq_true rfl) (by decide) (ty_6 hS.1.1) ?_
    refine Tr.imp (Tr.deep (by decide) (sp_X5_test_6_w10 hS.1 hE ((St.kp hS (by decide) (by decide) (by decide)).trans en_6_2) ((St.kp hS (by decide) (by decide) (by decide)).trans en_6_3) ((St.kp hS (by decide) (by decide) (by decide)).trans en_6_4) en_6_6)) ?_
    rintro M170 _ ⟨h170, r170, rfl, lr170, ur170, x170_6_6⟩
    have hS := St.tr hS h170 (by decide) (by decide)
    refine Tr.sc [(0, r170)] rfl ?_
    refine Tr.if_eq (pc := 173) (tgt := 196) d_X5_order_173 rfl (fun c173 => ?_) (fun c173 => ?_)
    · refine Tr.iconst (pc := 196) d_X5_order_196 (by decide) ?_
      exact Tr.zret (pc := 197) d_X5_order_197 rfl (by omega) ⟨hS, _, rfl, by omega, by omega, fun hq => absurd hq (by omega)⟩
    · refine Tr.aload_n (pc := 176) (i := 0) d_X5_order_176 rfl rfl ?_
      refine Tr.iload_n (pc := 177) (i := 1) d_X5_order_177 rfl rfl ?_
      refine Tr.callV (pc := 178) (as := [_]) d_X5_order_178 s_5_180 ok_X5_yesBlock rfl rfl (Nat.le_of_ble_eq_true rfl) (Nat.le_of_ble_eq_true rfl) (by decide) (ty_6 hS.1.1) ?_
      refine Tr.imp (Tr.deep (by decide) (sp_X5_yesBlock_6_w10 hS.1 hE ((St.kp hS (by decide) (by decide) (by decide)).trans en_6_2) ((St.kp hS (by decide) (by decide) (by decide)).trans en_6_3) ((St.kp hS (by decide) (by decide) (by decide)).trans en_6_4) (x170_6_6 (by omega)) a1 (by omega))) ?_
      rintro M178 _ ⟨h178, r178, rfl, lr178, ur178, x178_6_6⟩
      have hS := St.tr hS h178 (by decide) (by decide)
      refine Tr.sc [(0, r178)] rfl ?_
      refine Tr.if_eq (pc := 181) (tgt := 196) d_X5_order_181 rfl (fun c181 => ?_) (fun c181 => ?_)
      · refine Tr.iconst (pc := 196) d_X5_order_196 (by decide) ?_
        exact Tr.zret (pc := 197) d_X5_order_197 rfl (by omega) ⟨hS, _, rfl, by omega, by omega, fun hq => absurd hq (by omega)⟩
      · refine Tr.aload_n (pc := 184) (i := 0) d_X5_order_184 rfl rfl ?_
        refine Tr.iload_n (pc := 185) (i := 1) d_X5_order_185 rfl rfl ?_
        refine Tr.callV (pc := 186) (as := [_]) d_X5_order_186 s_5_183 ok_X5_noBlock rfl rfl (Nat.le_of_ble_eq_true rfl) (Nat.le_of_ble_eq_true rfl) (by decide) (ty_6 hS.1.1) ?_
        refine Tr.imp (Tr.deep (by decide) (sp_X5_noBlock_6_w14 hS.1 hE ((St.kp hS (by decide) (by decide) (by decide)).trans en_6_2) ((St.kp hS (by decide) (by decide) (by decide)).trans en_6_3) ((St.kp hS (by decide) (by decide) (by decide)).trans en_6_4) (x178_6_6 (by omega)) a1 (by omega))) ?_
        rintro M186 _ ⟨h186, r186, rfl, lr186, ur186, x186_6_6⟩
        have hS := St.tr hS h186 (by decide) (by decide)
        refine Tr.sc [(0, r186)] rfl ?_
        refine Tr.if_eq (pc := 189) (tgt := 196) d_X5_order_189 rfl (fun c189 => ?_) (fun c189 => ?_)
        · refine Tr.iconst (pc := 196) d_X5_order_196 (by decide) ?_
          exact Tr.zret (pc := 197) d_X5_order_197 rfl (by omega) ⟨hS, _, rfl, by omega, by omega, fun hq => absurd hq (by omega)⟩
        · refine Tr.iconst (pc := 192) d_X5_order_192 (by decide) ?_
          refine Tr.goto (pc := 193) (tgt := 197) d_X5_order_193 rfl ?_
          exact Tr.zret (pc := 197) d_X5_order_197 rfl (by omega) ⟨hS, _, rfl, by omega, by omega, fun _ => (x186_6_6 (by omega))⟩

def ws_X5_orders_6_w10 : List (Int × Int) := [(6, 0), (6, 1), (6, 5), (6, 6), (15, 0), (15, 11)]
def as_X5_orders_6_w10 : List Int := [16, 17, 18, 19, 20, 21, 22, 24, 25]
def q_X5_orders_6_w10 (M0 M' : Mem) (r : Option PV) : Prop := St Tru ws_X5_orders_6_w10 as_X5_orders_6_w10 M0 M' ∧ ∃ v : Int, r = some (0, v) ∧ (-2) ≤ v ∧ v ≤ 59 ∧ (((-1) ≤ v ∧ v ≤ 1000000) → rd M' 6 6 = 1)
set_option maxRecDepth 100000 in
set_option maxHeartbeats 4000000 in
theorem sp_X5_orders_6_w10 {l : Launch} {K : EC} {M0 : Mem} {xq : Int} (hI : In Tru M0) (hE : e_all K xq) (en_6_2 : rd M0 6 2 = 2) (en_6_3 : rd M0 6 3 = 7) (en_6_4 : rd M0 6 4 = 15) (en_6_6 : rd M0 6 6 = 1) (a1 : Int) (ha1 : 0 ≤ a1 ∧ a1 ≤ 59)  : Tr l K 39 mX5_orders 0 [(0, (2, 6)), (1, (0, a1))] [] M0 (q_X5_orders_6_w10 M0) := by
  have hS : St Tru ws_X5_orders_6_w10 as_X5_orders_6_w10 M0 M0 := St.rf hI
  refine Tr.iconst (pc := 0) d_X5_orders_0 (by decide) ?_
  refine Tr.istore_n (pc := 1) (i := 2) (ls2 := [(2, (0, (-1))), (0, (2, 6)), (1, (0, a1))]) d_X5_orders_1 rfl (by decide) rfl ?_
  refine Tr.iconst (pc := 2) d_X5_orders_2 (by decide) ?_
  refine Tr.istore_n (pc := 3) (i := 3) (ls2 := [(3, (0, (-1))), (2, (0, (-1))), (0, (2, 6)), (1, (0, a1))]) d_X5_orders_3 rfl (by decide) rfl ?_
  refine Tr.iconst (pc := 4) d_X5_orders_4 (by decide) ?_
  refine Tr.istore (pc := 5) (i := 4) (ls2 := [(4, (0, 0)), (3, (0, (-1))), (2, (0, (-1))), (0, (2, 6)), (1, (0, a1))]) d_X5_orders_5 (by decide) rfl ?_
  have J7 : ∀ (n7 : Nat) (M : Mem) (p7_2 p7_3 p7_4 : Int), St Tru ws_X5_orders_6_w10 as_X5_orders_6_w10 M0 M → ((-1) ≤ p7_2 ∧ p7_2 ≤ 59) → ((-1) ≤ p7_3 ∧ p7_3 ≤ 59) → (0 ≤ p7_4 ∧ p7_4 ≤ 61) → rd M 6 6 = 1 → (61 - p7_4).toNat < n7 → Tr l K 39 mX5_orders 7 [(0, (2, 6)), (1, (0, a1)), (2, (0, p7_2)), (3, (0, p7_3)), (4, (0, p7_4))] [] M (q_X5_orders_6_w10 M0) := by
    intro n7
    induction n7 with
    | zero => intro M p7_2 p7_3 p7_4 hS bp7_2 bp7_3 bp7_4 k7_6_6 hm7; exact absurd hm7 (Nat.not_lt_zero _)
    | succ n7 J7 =>
      intro M p7_2 p7_3 p7_4 hS bp7_2 bp7_3 bp7_4 k7_6_6 hm7
      refine Tr.iload (pc := 7) (i := 4) d_X5_orders_7 rfl ?_
      refine Tr.bipush (pc := 9) d_X5_orders_9 rfl (by decide) ?_
      refine Tr.icmp_gt (pc := 11) (tgt := 111) d_X5_orders_11 rfl (fun c11 => ?_) (fun c11 => ?_)
      · refine Tr.iload_n (pc := 111) (i := 2) d_X5_orders_111 rfl rfl ?_
        exact Tr.iret (pc := 112) d_X5_orders_112 rfl ⟨hS, _, rfl, by omega, by omega, fun _ => k7_6_6⟩
      · refine Tr.aload_n (pc := 14) (i := 0) d_X5_orders_14 rfl rfl ?_
        refine Tr.callV (pc := 15) (as := []) d_X5_orders_15 s_5_154 ok_X5_isOrder rfl rfl (Nat.le_of_ble_eq_true rfl) (Nat.le_of_ble_eq_true rfl) (by decide) (ty_6 hS.1.1) ?_
        refine Tr.imp (Tr.deep (by decide) (sp_X5_isOrder_6 hS.1 ((St.kp hS (by decide) (by decide) (by decide)).trans en_6_2))) ?_
        rintro M15 _ ⟨h15, r15, rfl, lr15, ur15⟩
        have hS := St.tr hS h15 (by decide) (by decide)
        refine Tr.sc [(0, r15)] rfl ?_
        refine Tr.if_eq (pc := 18) (tgt := 111) d_X5_orders_18 rfl (fun c18 => ?_) (fun c18 => ?_)
        · refine Tr.iload_n (pc := 111) (i := 2) d_X5_orders_111 rfl rfl ?_
          exact Tr.iret (pc := 112) d_X5_orders_112 rfl ⟨hS, _, rfl, by omega, by omega, fun _ => ((St.kp h15 (by decide) (by decide) (by decide)).trans k7_6_6)⟩
        · refine Tr.aload_n (pc := 21) (i := 0) d_X5_orders_21 rfl rfl ?_
          refine Tr.getf (pc := 22) d_X5_orders_22 f_5_32 (by decide) (by decide) (ty_6 hS.1.1) ?_
          refine Tr.tp 15 ((St.kp hS (by decide) (by decide) (by decide)).trans en_6_4) ?_
          refine Tr.getf (pc := 25) d_X5_orders_25 f_5_157 (by decide) (by decide) (ty_15 hS.1.1) ?_
          refine Tr.gen (P := fun v => 0 ≤ v ∧ v ≤ 60) (ir_15_0 hS.1.2.1) (fun r25 er25 br25 => ?_)
          refine Tr.bipush (pc := 28) d_X5_orders_28 rfl (by decide) ?_
          refine Tr.icmp_lt (pc := 30) (tgt := 42) d_X5_orders_30 rfl (fun c30 => ?_) (fun c30 => ?_)
          · refine Tr.aload_n (pc := 42) (i := 0) d_X5_orders_42 rfl rfl ?_
            refine Tr.getf (pc := 43) d_X5_orders_43 f_5_32 (by decide) (by decide) (ty_6 hS.1.1) ?_
            refine Tr.tp 15 ((St.kp hS (by decide) (by decide) (by decide)).trans en_6_4) ?_
            refine Tr.aload_n (pc := 46) (i := 0) d_X5_orders_46 rfl rfl ?_
            refine Tr.getf (pc := 47) d_X5_orders_47 f_5_18 (by decide) (by decide) (ty_6 hS.1.1) ?_
            refine Tr.tp 2 ((St.kp hS (by decide) (by decide) (by decide)).trans en_6_2) ?_
            refine Tr.getf (pc := 50) d_X5_orders_50 f_5_68 (by decide) (by decide) (ty_2 hS.1.1) ?_
            refine Tr.tp 5 (fx_2_2 hS.1.1) ?_
            refine Tr.aload_n (pc := 53) (i := 0) d_X5_orders_53 rfl rfl ?_
            refine Tr.getf (pc := 54) d_X5_orders_54 f_5_36 (by decide) (by decide) (ty_6 hS.1.1) ?_
            refine Tr.gen (P := fun v => 0 ≤ v ∧ v ≤ 900) (ir_6_5 hS.1.2.1) (fun r54 er54 br54 => ?_)
            refine Tr.iald (pc := 57) d_X5_orders_57 (ty_5 hS.1.1) (by omega) (by omega) ?_
            refine Tr.gen (P := fun v => (-2147483648) ≤ v ∧ v ≤ 2147483647) (ar_5 hS.1.2.1 _) (fun r57 er57 br57 => ?_)
            refine Tr.iload_n (pc := 58) (i := 1) d_X5_orders_58 rfl rfl ?_
            refine Tr.callV (pc := 59) (as := [_, _]) d_X5_orders_59 s_5_160 ok_X4_open rfl rfl (Nat.le_of_ble_eq_true rfl) (Nat.le_of_ble_eq_true rfl) (by decide) (ty_15 hS.1.1) ?_
            refine Tr.imp (Tr.deep (by decide) (sp_X4_open_15_w1 hS.1 r57 (by omega) a1 (by omega) (by have h9 := er25; omega))) ?_
            rintro M59 _ ⟨h59, r59, rfl, lr59, ur59⟩
            have hS := St.tr hS h59 (by decide) (by decide)
            refine Tr.sc [(0, r59)] rfl ?_
            refine Tr.istore (pc := 62) (i := 5) (ls2 := [(5, (0, r59)), (0, (2, 6)), (1, (0, a1)), (2, (0, p7_2)), (3, (0, p7_3)), (4, (0, p7_4))]) d_X5_orders_62 (by decide) rfl ?_
            refine Tr.iload_n (pc := 64) (i := 3) d_X5_orders_64 rfl rfl ?_
            have J85 : ∀ (M : Mem) (p85_2 : Int), St Tru ws_X5_orders_6_w10 as_X5_orders_6_w10 M0 M → ((-1) ≤ p85_2 ∧ p85_2 ≤ 59) → rd M 5 r54 = r57 → rd M 6 5 = r54 → rd M 6 6 = 1 → Tr l K 39 mX5_orders 85 [(0, (2, 6)), (1, (0, a1)), (2, (0, p85_2)), (4, (0, p7_4)), (5, (0, r59))] [] M (q_X5_orders_6_w10 M0) := by
              intro M p85_2 hS bp85_2 k85_5_r5410 k85_6_5 k85_6_6
              refine Tr.iload (pc := 85) (i := 5) d_X5_orders_85 rfl ?_
              refine Tr.istore_n (pc := 87) (i := 3) (ls2 := [(3, (0, r59)), (0, (2, 6)), (1, (0, a1)), (2, (0, p85_2)), (4, (0, p7_4)), (5, (0, r59))]) d_X5_orders_87 rfl (by decide) rfl ?_
              refine Tr.aload_n (pc := 88) (i := 0) d_X5_orders_88 rfl rfl ?_
              refine Tr.callV (pc := 89) (as := []) d_X5_orders_89 s_5_74 ok_X5_goOn rfl rfl (Nat.le_of_ble_eq_true rfl) (Nat.le_of_ble_eq_true rfl) (by decide) (ty_6 hS.1.1) ?_
              refine Tr.imp (Tr.deep (by decide) (sp_X5_goOn_6 hS.1 )) ?_
              rintro M89 _ ⟨h89, r89, rfl, lr89, ur89⟩
              have hS := St.tr hS h89 (by decide) (by decide)
              refine Tr.sc [(0, r89)] rfl ?_
              refine Tr.pop (pc := 92) d_X5_orders_92 ne01 ?_
              refine Tr.aload_n (pc := 93) (i := 0) d_X5_orders_93 rfl rfl ?_
              refine Tr.iload (pc := 94) (i := 5) d_X5_orders_94 rfl ?_
              refine Tr.callV (pc := 96) (as := [_]) d_X5_orders_96 s_5_166 ok_X5_order rfl rfl (Nat.le_of_ble_eq_true rfl) (Nat.le_of_ble_eq_true rfl) (by decide) (ty_6 hS.1.1) ?_
              refine Tr.imp (Tr.deep (by decide) (sp_X5_order_6_w10 hS.1 hE ((St.kp hS (by decide) (by decide) (by decide)).trans en_6_2) ((St.kp hS (by decide) (by decide) (by decide)).trans en_6_3) ((St.kp hS (by decide) (by decide) (by decide)).trans en_6_4) ((St.kp h89 (by decide) (by decide) (by decide)).trans k85_6_6) r59 (by omega))) ?_
              rintro M96 _ ⟨h96, r96, rfl, lr96, ur96, x96_6_6⟩
              have hS := St.tr hS h96 (by decide) (by decide)
              refine Tr.sc [(0, r96)] rfl ?_
              refine Tr.if_ne (pc := 99) (tgt := 105) d_X5_orders_99 rfl (fun c99 => ?_) (fun c99 => ?_)
              · refine Tr.iincV (pc := 105) (n2 := (p7_4 + 1)) (ls2 := [(4, (0, (p7_4 + 1))), (3, (0, r59)), (0, (2, 6)), (1, (0, a1)), (2, (0, p85_2)), (5, (0, r59))]) d_X5_orders_105 rfl (by decide) ((w32_id (by omega)).trans (by omega)) rfl ?_
                refine Tr.goto (pc := 108) (tgt := 7) d_X5_orders_108 rfl ?_
                refine Tr.pick [2, 3, 4, 1, 0] (ls2 := [(0, (2, 6)), (1, (0, a1)), (2, (0, p85_2)), (3, (0, r59)), (4, (0, (p7_4 + 1)))]) rfl ?_
                exact J7 _ _ _ _ hS (by omega) (by omega) (by omega) (x96_6_6 (by omega)) (by omega)
              · refine Tr.bipush (pc := 102) d_X5_orders_102 rfl (by decide) ?_
                exact Tr.iret (pc := 104) d_X5_orders_104 rfl ⟨hS, _, rfl, by omega, by omega, fun hq => absurd hq (by omega)⟩
            refine Tr.if_ge (pc := 65) (tgt := 74) d_X5_orders_65 rfl (fun c65 => ?_) (fun c65 => ?_)
            · refine Tr.aload_n (pc := 74) (i := 0) d_X5_orders_74 rfl rfl ?_
              refine Tr.getf (pc := 75) d_X5_orders_75 f_5_32 (by decide) (by decide) (ty_6 hS.1.1) ?_
              refine Tr.tp 15 ((St.kp hS (by decide) (by decide) (by decide)).trans en_6_4) ?_
              refine Tr.getf (pc := 78) d_X5_orders_78 f_5_163 (by decide) (by decide) (ty_15 hS.1.1) ?_
              refine Tr.tp 21 (fx_15_6 hS.1.1) ?_
              refine Tr.iload_n (pc := 81) (i := 3) d_X5_orders_81 rfl rfl ?_
              refine Tr.iload (pc := 82) (i := 5) d_X5_orders_82 rfl ?_
              refine Tr.iastS (pc := 84) (P := St Tru ws_X5_orders_6_w10 as_X5_orders_6_w10 M0) d_X5_orders_84 (ty_21 hS.1.1) (by omega) (by omega) (sa_21 hS (by decide) (by omega) trivial) (fun M84 hS w84 => ?_)
              refine Tr.pick [1, 2, 3, 5, 0] (ls2 := [(0, (2, 6)), (1, (0, a1)), (2, (0, p7_2)), (4, (0, p7_4)), (5, (0, r59))]) rfl ?_
              exact J85 _ _ hS (by omega) ((Wr.b w84 rfl).trans ((St.ka h59 (by decide) (by decide) (by decide)).trans er57)) ((Wr.b w84 rfl).trans ((St.kp h59 (by decide) (by decide) (by decide)).trans er54)) ((Wr.b w84 rfl).trans ((St.kp h59 (by decide) (by decide) (by decide)).trans ((St.kp h15 (by decide) (by decide) (by decide)).trans k7_6_6)))
            · refine Tr.iload (pc := 68) (i := 5) d_X5_orders_68 rfl ?_
              refine Tr.istore_n (pc := 70) (i := 2) (ls2 := [(2, (0, r59)), (5, (0, r59)), (0, (2, 6)), (1, (0, a1)), (3, (0, p7_3)), (4, (0, p7_4))]) d_X5_orders_70 rfl (by decide) rfl ?_
              refine Tr.goto (pc := 71) (tgt := 85) d_X5_orders_71 rfl ?_
              refine Tr.pick [2, 3, 0, 5, 1] (ls2 := [(0, (2, 6)), (1, (0, a1)), (2, (0, r59)), (4, (0, p7_4)), (5, (0, r59))]) rfl ?_
              exact J85 _ _ hS (by omega) ((St.ka h59 (by decide) (by decide) (by decide)).trans er57) ((St.kp h59 (by decide) (by decide) (by decide)).trans er54) ((St.kp h59 (by decide) (by decide) (by decide)).trans ((St.kp h15 (by decide) (by decide) (by decide)).trans k7_6_6))
          · refine Tr.aload_n (pc := 33) (i := 0) d_X5_orders_33 rfl rfl ?_
            refine Tr.iconst (pc := 34) d_X5_orders_34 (by decide) ?_
            refine Tr.callV (pc := 35) (as := [_]) d_X5_orders_35 s_5_56 ok_X5_refuse rfl rfl (Nat.le_of_ble_eq_true rfl) (Nat.le_of_ble_eq_true rfl) (by decide) (ty_6 hS.1.1) ?_
            refine Tr.imp (Tr.deep (by decide) (sp_X5_refuse_6_w2 hS.1 ((St.kp hS (by decide) (by decide) (by decide)).trans en_6_2) 5 (by omega))) ?_
            rintro M35 _ ⟨h35, r35, rfl, lr35, ur35⟩
            have hS := St.tr hS h35 (by decide) (by decide)
            refine Tr.sc [(0, r35)] rfl ?_
            refine Tr.pop (pc := 38) d_X5_orders_38 ne01 ?_
            refine Tr.bipush (pc := 39) d_X5_orders_39 rfl (by decide) ?_
            exact Tr.iret (pc := 41) d_X5_orders_41 rfl ⟨hS, _, rfl, by omega, by omega, fun hq => absurd hq (by omega)⟩
  refine Tr.pick [3, 4, 2, 1, 0] (ls2 := [(0, (2, 6)), (1, (0, a1)), (2, (0, (-1))), (3, (0, (-1))), (4, (0, 0))]) rfl ?_
  exact J7 _ _ _ _ _ hS (by omega) (by omega) (by omega) en_6_6 (Nat.lt_succ_self _)

def ws_X5_block_6_w9 : List (Int × Int) := [(6, 0), (6, 1), (6, 5), (6, 6), (15, 0), (15, 11)]
def as_X5_block_6_w9 : List Int := [16, 17, 18, 19, 20, 21, 22, 24, 25]
def q_X5_block_6_w9 (M0 M' : Mem) (r : Option PV) : Prop := St Tru ws_X5_block_6_w9 as_X5_block_6_w9 M0 M' ∧ ∃ v : Int, r = some (0, v) ∧ (-2) ≤ v ∧ v ≤ 59 ∧ (((-1) ≤ v ∧ v ≤ 1000000) → rd M' 6 6 = 0)
set_option maxRecDepth 100000 in
set_option maxHeartbeats 4000000 in
theorem sp_X5_block_6_w9 {l : Launch} {K : EC} {M0 : Mem} {xq : Int} (hI : In Tru M0) (hE : e_all K xq) (en_6_2 : rd M0 6 2 = 2) (en_6_3 : rd M0 6 3 = 7) (en_6_4 : rd M0 6 4 = 15) (en_6_6 : rd M0 6 6 = 0) (a1 : Int) (ha1 : 0 ≤ a1 ∧ a1 ≤ 59)  : Tr l K 40 mX5_block 0 [(0, (2, 6)), (1, (0, a1))] [] M0 (q_X5_block_6_w9 M0) := by
  have hS : St Tru ws_X5_block_6_w9 as_X5_block_6_w9 M0 M0 := St.rf hI
  refine Tr.aload_n (pc := 0) (i := 0) d_X5_block_0 rfl rfl ?_
  refine Tr.bipush (pc := 1) d_X5_block_1 rfl (by decide) ?_
  refine Tr.callV (pc := 3) (as := [_]) d_X5_block_3 s_5_206 ok_X5_takeOpening rfl rfl (Nat.le_of_ble_eq_true rfl) (Nat.le_of_ble_eq_true rfl) (by decide) (ty_6 hS.1.1) ?_
  refine Tr.imp (Tr.deep (by decide) (sp_X5_takeOpening_6_w18 hS.1 ((St.kp hS (by decide) (by decide) (by decide)).trans en_6_2) en_6_6 123 (by omega))) ?_
  rintro M3 _ ⟨h3, r3, rfl, lr3, ur3, x3_6_6⟩
  have hS := St.tr hS h3 (by decide) (by decide)
  refine Tr.sc [(0, r3)] rfl ?_
  refine Tr.if_ne (pc := 6) (tgt := 12) d_X5_block_6 rfl (fun c6 => ?_) (fun c6 => ?_)
  · refine Tr.aload_n (pc := 12) (i := 0) d_X5_block_12 rfl rfl ?_
    refine Tr.iload_n (pc := 13) (i := 1) d_X5_block_13 rfl rfl ?_
    refine Tr.callV (pc := 14) (as := [_]) d_X5_block_14 s_5_46 ok_X5_orders rfl rfl (Nat.le_of_ble_eq_true rfl) (Nat.le_of_ble_eq_true rfl) (by decide) (ty_6 hS.1.1) ?_
    refine Tr.imp (Tr.deep (by decide) (sp_X5_orders_6_w10 hS.1 hE ((St.kp hS (by decide) (by decide) (by decide)).trans en_6_2) ((St.kp hS (by decide) (by decide) (by decide)).trans en_6_3) ((St.kp hS (by decide) (by decide) (by decide)).trans en_6_4) (x3_6_6 (by omega)) a1 (by omega))) ?_
    rintro M14 _ ⟨h14, r14, rfl, lr14, ur14, x14_6_6⟩
    have hS := St.tr hS h14 (by decide) (by decide)
    refine Tr.sc [(0, r14)] rfl ?_
    refine Tr.istore_n (pc := 17) (i := 2) (ls2 := [(2, (0, r14)), (0, (2, 6)), (1, (0, a1))]) d_X5_block_17 rfl (by decide) rfl ?_
    refine Tr.iload_n (pc := 18) (i := 2) d_X5_block_18 rfl rfl ?_
    refine Tr.bipush (pc := 19) d_X5_block_19 rfl (by decide) ?_
    refine Tr.icmp_eq (pc := 21) (tgt := 33) d_X5_block_21 rfl (fun c21 => ?_) (fun c21 => ?_)
    · refine Tr.bipush (pc := 33) d_X5_block_33 rfl (by decide) ?_
      exact Tr.iret (pc := 35) d_X5_block_35 rfl ⟨hS, _, rfl, by omega, by omega, fun hq => absurd hq (by omega)⟩
    · refine Tr.aload_n (pc := 24) (i := 0) d_X5_block_24 rfl rfl ?_
      refine Tr.bipush (pc := 25) d_X5_block_25 rfl (by decide) ?_
      refine Tr.callV (pc := 27) (as := [_]) d_X5_block_27 s_5_209 ok_X5_takeClosing rfl rfl (Nat.le_of_ble_eq_true rfl) (Nat.le_of_ble_eq_true rfl) (by decide) (ty_6 hS.1.1) ?_
      refine Tr.imp (Tr.deep (by decide) (sp_X5_takeClosing_6_w23 hS.1 ((St.kp hS (by decide) (by decide) (by decide)).trans en_6_2) (x14_6_6 (by omega)) 125 (by omega))) ?_
      rintro M27 _ ⟨h27, r27, rfl, lr27, ur27, x27_6_6⟩
      have hS := St.tr hS h27 (by decide) (by decide)
      refine Tr.sc [(0, r27)] rfl ?_
      refine Tr.if_ne (pc := 30) (tgt := 36) d_X5_block_30 rfl (fun c30 => ?_) (fun c30 => ?_)
      · refine Tr.iload_n (pc := 36) (i := 2) d_X5_block_36 rfl rfl ?_
        exact Tr.iret (pc := 37) d_X5_block_37 rfl ⟨hS, _, rfl, by omega, by omega, fun _ => (x27_6_6 (by omega))⟩
      · refine Tr.bipush (pc := 33) d_X5_block_33 rfl (by decide) ?_
        exact Tr.iret (pc := 35) d_X5_block_35 rfl ⟨hS, _, rfl, by omega, by omega, fun hq => absurd hq (by omega)⟩
  · refine Tr.bipush (pc := 9) d_X5_block_9 rfl (by decide) ?_
    exact Tr.iret (pc := 11) d_X5_block_11 rfl ⟨hS, _, rfl, by omega, by omega, fun hq => absurd hq (by omega)⟩

def ws_X5_yesBlock_6_w9 : List (Int × Int) := [(6, 0), (6, 1), (6, 5), (6, 6), (15, 0), (15, 11)]
def as_X5_yesBlock_6_w9 : List Int := [16, 17, 18, 19, 20, 21, 22, 24, 25]
def q_X5_yesBlock_6_w9 (M0 M' : Mem) (r : Option PV) : Prop := St Tru ws_X5_yesBlock_6_w9 as_X5_yesBlock_6_w9 M0 M' ∧ ∃ v : Int, r = some (0, v) ∧ 0 ≤ v ∧ v ≤ 1 ∧ ((1 ≤ v ∧ v ≤ 1) → rd M' 6 6 = 0)
set_option maxRecDepth 100000 in
set_option maxHeartbeats 4000000 in
theorem sp_X5_yesBlock_6_w9 {l : Launch} {K : EC} {M0 : Mem} {xq : Int} (hI : In Tru M0) (hE : e_all K xq) (en_6_2 : rd M0 6 2 = 2) (en_6_3 : rd M0 6 3 = 7) (en_6_4 : rd M0 6 4 = 15) (en_6_6 : rd M0 6 6 = 0) (a1 : Int) (ha1 : 0 ≤ a1 ∧ a1 ≤ 59)  : Tr l K 41 mX5_yesBlock 0 [(0, (2, 6)), (1, (0, a1))] [] M0 (q_X5_yesBlock_6_w9 M0) := by
  have hS : St Tru ws_X5_yesBlock_6_w9 as_X5_yesBlock_6_w9 M0 M0 := St.rf hI
  refine Tr.aload_n (pc := 0) (i := 0) d_X5_yesBlock_0 rfl rfl ?_
  refine Tr.iload_n (pc := 1) (i := 1) d_X5_yesBlock_1 rfl rfl ?_
  refine Tr.callV (pc := 2) (as := [_]) d_X5_yesBlock_2 s_5_197 ok_X5_block rfl rfl (Nat.le_of_ble_eq_true rfl) (Nat.le_of_ble_eq_true rfl) (by decide) (ty_6 hS.1.1) ?_
  refine Tr.imp (Tr.deep (by decide) (sp_X5_block_6_w9 hS.1 hE ((St.kp hS (by decide) (by decide) (by decide)).trans en_6_2) ((St.kp hS (by decide) (by decide) (by decide)).trans en_6_3) ((St.kp hS (by decide) (by decide) (by decide)).trans en_6_4) en_6_6 a1 (by omega))) ?_
  rintro M2 _ ⟨h2, r2, rfl, lr2, ur2, x2_6_6⟩
  have hS := St.tr hS h2 (by decide) (by decide)
  refine Tr.sc [(0, r2)] rfl ?_
  refine Tr.istore_n (pc := 5) (i := 2) (ls2 := [(2, (0, r2)), (0, (2, 6)), (1, (0, a1))]) d_X5_yesBlock_5 rfl (by decide) rfl ?_
  refine Tr.aload_n (pc := 6) (i := 0) d_X5_yesBlock_6 rfl rfl ?_
  refine Tr.getf (pc := 7) d_X5_yesBlock_7 f_5_32 (by decide) (by decide) (ty_6 hS.1.1) ?_
  refine Tr.tp 15 ((St.kp hS (by decide) (by decide) (by decide)).trans en_6_4) ?_
  refine Tr.getf (pc := 10) d_X5_yesBlock_10 f_5_200 (by decide) (by decide) (ty_15 hS.1.1) ?_
  refine Tr.tp 19 (fx_15_4 hS.1.1) ?_
  refine Tr.iload_n (pc := 13) (i := 1) d_X5_yesBlock_13 rfl rfl ?_
  refine Tr.iload_n (pc := 14) (i := 2) d_X5_yesBlock_14 rfl rfl ?_
  refine Tr.iastS (pc := 15) (P := St Tru ws_X5_yesBlock_6_w9 as_X5_yesBlock_6_w9 M0) d_X5_yesBlock_15 (ty_19 hS.1.1) (by omega) (by omega) (sa_19 hS (by decide) (by omega) trivial) (fun M15 hS w15 => ?_)
  refine Tr.iload_n (pc := 16) (i := 2) d_X5_yesBlock_16 rfl rfl ?_
  refine Tr.bipush (pc := 17) d_X5_yesBlock_17 rfl (by decide) ?_
  refine Tr.icmp_eq (pc := 19) (tgt := 26) d_X5_yesBlock_19 rfl (fun c19 => ?_) (fun c19 => ?_)
  · refine Tr.iconst (pc := 26) d_X5_yesBlock_26 (by decide) ?_
    exact Tr.zret (pc := 27) d_X5_yesBlock_27 rfl (by omega) ⟨hS, _, rfl, by omega, by omega, fun hq => absurd hq (by omega)⟩
  · refine Tr.iconst (pc := 22) d_X5_yesBlock_22 (by decide) ?_
    refine Tr.goto (pc := 23) (tgt := 27) d_X5_yesBlock_23 rfl ?_
    exact Tr.zret (pc := 27) d_X5_yesBlock_27 rfl (by omega) ⟨hS, _, rfl, by omega, by omega, fun _ => ((Wr.b w15 rfl).trans (x2_6_6 (by omega)))⟩

def ws_X5_noBlock_6_w15 : List (Int × Int) := [(6, 0), (6, 1), (6, 5), (6, 6), (15, 0), (15, 11)]
def as_X5_noBlock_6_w15 : List Int := [16, 17, 18, 19, 20, 21, 22, 24, 25]
def q_X5_noBlock_6_w15 (M0 M' : Mem) (r : Option PV) : Prop := St Tru ws_X5_noBlock_6_w15 as_X5_noBlock_6_w15 M0 M' ∧ ∃ v : Int, r = some (0, v) ∧ 0 ≤ v ∧ v ≤ 1 ∧ ((1 ≤ v ∧ v ≤ 1) → rd M' 6 6 = 0)
set_option maxRecDepth 100000 in
set_option maxHeartbeats 4000000 in
theorem sp_X5_noBlock_6_w15 {l : Launch} {K : EC} {M0 : Mem} {xq : Int} (hI : In Tru M0) (hE : e_all K xq) (en_6_2 : rd M0 6 2 = 2) (en_6_3 : rd M0 6 3 = 7) (en_6_4 : rd M0 6 4 = 15) (en_6_6 : rd M0 6 6 = 0) (a1 : Int) (ha1 : 0 ≤ a1 ∧ a1 ≤ 59)  : Tr l K 41 mX5_noBlock 0 [(0, (2, 6)), (1, (0, a1))] [] M0 (q_X5_noBlock_6_w15 M0) := by
  have hS : St Tru ws_X5_noBlock_6_w15 as_X5_noBlock_6_w15 M0 M0 := St.rf hI
  refine Tr.aload_n (pc := 0) (i := 0) d_X5_noBlock_0 rfl rfl ?_
  refine Tr.bipush (pc := 1) d_X5_noBlock_1 rfl (by decide) ?_
  refine Tr.callV (pc := 3) (as := [_]) d_X5_noBlock_3 s_5_71 ok_X5_isOwn rfl rfl (Nat.le_of_ble_eq_true rfl) (Nat.le_of_ble_eq_true rfl) (by decide) (ty_6 hS.1.1) ?_
  refine Tr.imp (Tr.deep (by decide) (sp_X5_isOwn_6 hS.1 ((St.kp hS (by decide) (by decide) (by decide)).trans en_6_2) 13 (by omega))) ?_
  rintro M3 _ ⟨h3, r3, rfl, lr3, ur3⟩
  have hS := St.tr hS h3 (by decide) (by decide)
  refine Tr.sc [(0, r3)] rfl ?_
  refine Tr.if_ne (pc := 6) (tgt := 11) d_X5_noBlock_6 rfl (fun c6 => ?_) (fun c6 => ?_)
  · refine Tr.aload_n (pc := 11) (i := 0) d_X5_noBlock_11 rfl rfl ?_
    refine Tr.callV (pc := 12) (as := []) d_X5_noBlock_12 s_5_74 ok_X5_goOn rfl rfl (Nat.le_of_ble_eq_true rfl) (Nat.le_of_ble_eq_true rfl) (by decide) (ty_6 hS.1.1) ?_
    refine Tr.imp (Tr.deep (by decide) (sp_X5_goOn_6 hS.1 )) ?_
    rintro M12 _ ⟨h12, r12, rfl, lr12, ur12⟩
    have hS := St.tr hS h12 (by decide) (by decide)
    refine Tr.sc [(0, r12)] rfl ?_
    refine Tr.pop (pc := 15) d_X5_noBlock_15 ne01 ?_
    refine Tr.aload_n (pc := 16) (i := 0) d_X5_noBlock_16 rfl rfl ?_
    refine Tr.iload_n (pc := 17) (i := 1) d_X5_noBlock_17 rfl rfl ?_
    refine Tr.callV (pc := 18) (as := [_]) d_X5_noBlock_18 s_5_197 ok_X5_block rfl rfl (Nat.le_of_ble_eq_true rfl) (Nat.le_of_ble_eq_true rfl) (by decide) (ty_6 hS.1.1) ?_
    refine Tr.imp (Tr.deep (by decide) (sp_X5_block_6_w9 hS.1 hE ((St.kp hS (by decide) (by decide) (by decide)).trans en_6_2) ((St.kp hS (by decide) (by decide) (by decide)).trans en_6_3) ((St.kp hS (by decide) (by decide) (by decide)).trans en_6_4) ((St.kp h12 (by decide) (by decide) (by decide)).trans ((St.kp h3 (by decide) (by decide) (by decide)).trans en_6_6)) a1 (by omega))) ?_
    rintro M18 _ ⟨h18, r18, rfl, lr18, ur18, x18_6_6⟩
    have hS := St.tr hS h18 (by decide) (by decide)
    refine Tr.sc [(0, r18)] rfl ?_
    refine Tr.istore_n (pc := 21) (i := 2) (ls2 := [(2, (0, r18)), (0, (2, 6)), (1, (0, a1))]) d_X5_noBlock_21 rfl (by decide) rfl ?_
    refine Tr.aload_n (pc := 22) (i := 0) d_X5_noBlock_22 rfl rfl ?_
    refine Tr.getf (pc := 23) d_X5_noBlock_23 f_5_32 (by decide) (by decide) (ty_6 hS.1.1) ?_
    refine Tr.tp 15 ((St.kp hS (by decide) (by decide) (by decide)).trans en_6_4) ?_
    refine Tr.getf (pc := 26) d_X5_noBlock_26 f_5_203 (by decide) (by decide) (ty_15 hS.1.1) ?_
    refine Tr.tp 20 (fx_15_5 hS.1.1) ?_
    refine Tr.iload_n (pc := 29) (i := 1) d_X5_noBlock_29 rfl rfl ?_
    refine Tr.iload_n (pc := 30) (i := 2) d_X5_noBlock_30 rfl rfl ?_
    refine Tr.iastS (pc := 31) (P := St Tru ws_X5_noBlock_6_w15 as_X5_noBlock_6_w15 M0) d_X5_noBlock_31 (ty_20 hS.1.1) (by omega) (by omega) (sa_20 hS (by decide) (by omega) trivial) (fun M31 hS w31 => ?_)
    refine Tr.iload_n (pc := 32) (i := 2) d_X5_noBlock_32 rfl rfl ?_
    refine Tr.bipush (pc := 33) d_X5_noBlock_33 rfl (by decide) ?_
    refine Tr.icmp_eq (pc := 35) (tgt := 42) d_X5_noBlock_35 rfl (fun c35 => ?_) (fun c35 => ?_)
    · refine Tr.iconst (pc := 42) d_X5_noBlock_42 (by decide) ?_
      exact Tr.zret (pc := 43) d_X5_noBlock_43 rfl (by omega) ⟨hS, _, rfl, by omega, by omega, fun hq => absurd hq (by omega)⟩
    · refine Tr.iconst (pc := 38) d_X5_noBlock_38 (by decide) ?_
      refine Tr.goto (pc := 39) (tgt := 43) d_X5_noBlock_39 rfl ?_
      exact Tr.zret (pc := 43) d_X5_noBlock_43 rfl (by omega) ⟨hS, _, rfl, by omega, by omega, fun _ => ((Wr.b w31 rfl).trans (x18_6_6 (by omega)))⟩
  · refine Tr.iconst (pc := 9) d_X5_noBlock_9 (by decide) ?_
    exact Tr.zret (pc := 10) d_X5_noBlock_10 rfl (by omega) ⟨hS, _, rfl, by omega, by omega, fun _ => ((St.kp h3 (by decide) (by decide) (by decide)).trans en_6_6)⟩

def ws_X5_order_6_w9 : List (Int × Int) := [(6, 0), (6, 1), (6, 5), (6, 6), (15, 0), (15, 11)]
def as_X5_order_6_w9 : List Int := [16, 17, 18, 19, 20, 21, 22, 24, 25]
def q_X5_order_6_w9 (M0 M' : Mem) (r : Option PV) : Prop := St Tru ws_X5_order_6_w9 as_X5_order_6_w9 M0 M' ∧ ∃ v : Int, r = some (0, v) ∧ 0 ≤ v ∧ v ≤ 1 ∧ ((1 ≤ v ∧ v ≤ 1) → rd M' 6 6 = 0)
set_option maxRecDepth 100000 in
set_option maxHeartbeats 4000000 in
theorem sp_X5_order_6_w9 {l : Launch} {K : EC} {M0 : Mem} {xq : Int} (hI : In Tru M0) (hE : e_all K xq) (en_6_2 : rd M0 6 2 = 2) (en_6_3 : rd M0 6 3 = 7) (en_6_4 : rd M0 6 4 = 15) (en_6_6 : rd M0 6 6 = 0) (a1 : Int) (ha1 : 0 ≤ a1 ∧ a1 ≤ 59)  : Tr l K 42 mX5_order 0 [(0, (2, 6)), (1, (0, a1))] [] M0 (q_X5_order_6_w9 M0) := by
  have hS : St Tru ws_X5_order_6_w9 as_X5_order_6_w9 M0 M0 := St.rf hI
  refine Tr.aload_n (pc := 0) (i := 0) d_X5_order_0 rfl rfl ?_
  refine Tr.getf (pc := 1) d_X5_order_1 f_5_32 (by decide) (by decide) (ty_6 hS.1.1) ?_
  refine Tr.tp 15 ((St.kp hS (by decide) (by decide) (by decide)).trans en_6_4) ?_
  refine Tr.getf (pc := 4) d_X5_order_4 f_5_169 (by decide) (by decide) (ty_15 hS.1.1) ?_
  refine Tr.tp 16 (fx_15_1 hS.1.1) ?_
  refine Tr.iload_n (pc := 7) (i := 1) d_X5_order_7 rfl rfl ?_
  refine Tr.iald (pc := 8) d_X5_order_8 (ty_16 hS.1.1) (by omega) (by omega) ?_
  refine Tr.gen (P := fun v => (-2147483648) ≤ v ∧ v ≤ 2147483647) (ar_16 hS.1.2.1 _) (fun r8 er8 br8 => ?_)
  rcases (show (r8 < 5 ∨ 11 < r8) ∨ r8 = 5 ∨ r8 = 6 ∨ r8 = 7 ∨ r8 = 8 ∨ r8 = 9 ∨ r8 = 10 ∨ r8 = 11 by omega) with c9 | c9 | c9 | c9 | c9 | c9 | c9 | c9
  · refine Tr.tswOut (pc := 9) (tgt := 198) d_X5_order_9 c9 rfl ?_
    refine Tr.aload_n (pc := 198) (i := 0) d_X5_order_198 rfl rfl ?_
    refine Tr.callV (pc := 199) (as := []) d_X5_order_199 s_5_177 ok_X5_test rfl rfl (Nat.le_of_ble_eq_true rfl) (Nat.le_of_ble_eq_true rfl) (by decide) (ty_6 hS.1.1) ?_
    refine Tr.imp (Tr.deep (by decide) (sp_X5_test_6_w9 hS.1 hE ((St.kp hS (by decide) (by decide) (by decide)).trans en_6_2) ((St.kp hS (by decide) (by decide) (by decide)).trans en_6_3) ((St.kp hS (by decide) (by decide) (by decide)).trans en_6_4) en_6_6)) ?_
    rintro M199 _ ⟨h199, r199, rfl, lr199, ur199, x199_6_6⟩
    have hS := St.tr hS h199 (by decide) (by decide)
    refine Tr.sc [(0, r199)] rfl ?_
    refine Tr.if_eq (pc := 202) (tgt := 217) d_X5_order_202 rfl (fun c202 => ?_) (fun c202 => ?_)
    · refine Tr.iconst (pc := 217) d_X5_order_217 (by decide) ?_
      exact Tr.zret (pc := 218) d_X5_order_218 rfl (by omega) ⟨hS, _, rfl, by omega, by omega, fun hq => absurd hq (by omega)⟩
    · refine Tr.aload_n (pc := 205) (i := 0) d_X5_order_205 rfl rfl ?_
      refine Tr.iload_n (pc := 206) (i := 1) d_X5_order_206 rfl rfl ?_
      refine Tr.callV (pc := 207) (as := [_]) d_X5_order_207 s_5_180 ok_X5_yesBlock rfl rfl (Nat.le_of_ble_eq_true rfl) (Nat.le_of_ble_eq_true rfl) (by decide) (ty_6 hS.1.1) ?_
      refine Tr.imp (Tr.deep (by decide) (sp_X5_yesBlock_6_w9 hS.1 hE ((St.kp hS (by decide) (by decide) (by decide)).trans en_6_2) ((St.kp hS (by decide) (by decide) (by decide)).trans en_6_3) ((St.kp hS (by decide) (by decide) (by decide)).trans en_6_4) (x199_6_6 (by omega)) a1 (by omega))) ?_
      rintro M207 _ ⟨h207, r207, rfl, lr207, ur207, x207_6_6⟩
      have hS := St.tr hS h207 (by decide) (by decide)
      refine Tr.sc [(0, r207)] rfl ?_
      refine Tr.if_eq (pc := 210) (tgt := 217) d_X5_order_210 rfl (fun c210 => ?_) (fun c210 => ?_)
      · refine Tr.iconst (pc := 217) d_X5_order_217 (by decide) ?_
        exact Tr.zret (pc := 218) d_X5_order_218 rfl (by omega) ⟨hS, _, rfl, by omega, by omega, fun hq => absurd hq (by omega)⟩
      · refine Tr.iconst (pc := 213) d_X5_order_213 (by decide) ?_
        refine Tr.goto (pc := 214) (tgt := 218) d_X5_order_214 rfl ?_
        exact Tr.zret (pc := 218) d_X5_order_218 rfl (by omega) ⟨hS, _, rfl, by omega, by omega, fun _ => (x207_6_6 (by omega))⟩
  · refine Tr.tp 5 c9 ?_
    refine Tr.tswIn (pc := 9) (off := 43) (tgt := 52) d_X5_order_9 (by decide) (by decide) rfl rfl ?_
    refine Tr.aload_n (pc := 52) (i := 0) d_X5_order_52 rfl rfl ?_
    refine Tr.iload_n (pc := 53) (i := 1) d_X5_order_53 rfl rfl ?_
    refine Tr.iconst (pc := 54) d_X5_order_54 (by decide) ?_
    refine Tr.callV (pc := 55) (as := [_, _]) d_X5_order_55 s_5_170 ok_X5_about rfl rfl (Nat.le_of_ble_eq_true rfl) (Nat.le_of_ble_eq_true rfl) (by decide) (ty_6 hS.1.1) ?_
    refine Tr.imp (Tr.deep (by decide) (sp_X5_about_6_v2_w1 hS.1 hE ((St.kp hS (by decide) (by decide) (by decide)).trans en_6_2) ((St.kp hS (by decide) (by decide) (by decide)).trans en_6_3) ((St.kp hS (by decide) (by decide) (by decide)).trans en_6_4) a1 (by omega))) ?_
    rintro M55 _ ⟨h55, r55, rfl, lr55, ur55⟩
    have hS := St.tr hS h55 (by decide) (by decide)
    refine Tr.sc [(0, r55)] rfl ?_
    refine Tr.if_eq (pc := 58) (tgt := 90) d_X5_order_58 rfl (fun c58 => ?_) (fun c58 => ?_)
    · refine Tr.iconst (pc := 90) d_X5_order_90 (by decide) ?_
      exact Tr.zret (pc := 91) d_X5_order_91 rfl (by omega) ⟨hS, _, rfl, by omega, by omega, fun hq => absurd hq (by omega)⟩
    · refine Tr.aload_n (pc := 61) (i := 0) d_X5_order_61 rfl rfl ?_
      refine Tr.bipush (pc := 62) d_X5_order_62 rfl (by decide) ?_
      refine Tr.callV (pc := 64) (as := [_]) d_X5_order_64 s_5_81 ok_X5_takeSign rfl rfl (Nat.le_of_ble_eq_true rfl) (Nat.le_of_ble_eq_true rfl) (by decide) (ty_6 hS.1.1) ?_
      refine Tr.imp (Tr.deep (by decide) (sp_X5_takeSign_6_w3 hS.1 ((St.kp hS (by decide) (by decide) (by decide)).trans en_6_2) 61 (by omega))) ?_
      rintro M64 _ ⟨h64, r64, rfl, lr64, ur64⟩
      have hS := St.tr hS h64 (by decide) (by decide)
      refine Tr.sc [(0, r64)] rfl ?_
      refine Tr.if_eq (pc := 67) (tgt := 90) d_X5_order_67 rfl (fun c67 => ?_) (fun c67 => ?_)
      · refine Tr.iconst (pc := 90) d_X5_order_90 (by decide) ?_
        exact Tr.zret (pc := 91) d_X5_order_91 rfl (by omega) ⟨hS, _, rfl, by omega, by omega, fun hq => absurd hq (by omega)⟩
      · refine Tr.aload_n (pc := 70) (i := 0) d_X5_order_70 rfl rfl ?_
        refine Tr.callV (pc := 71) (as := []) d_X5_order_71 s_5_174 ok_X5_sum rfl rfl (Nat.le_of_ble_eq_true rfl) (Nat.le_of_ble_eq_true rfl) (by decide) (ty_6 hS.1.1) ?_
        refine Tr.imp (Tr.deep (by decide) (sp_X5_sum_6_w9 hS.1 hE ((St.kp hS (by decide) (by decide) (by decide)).trans en_6_2) ((St.kp hS (by decide) (by decide) (by decide)).trans en_6_3) ((St.kp hS (by decide) (by decide) (by decide)).trans en_6_4) ((St.kp h64 (by decide) (by decide) (by decide)).trans ((St.kp h55 (by decide) (by decide) (by decide)).trans en_6_6)))) ?_
        rintro M71 _ ⟨h71, r71, rfl, lr71, ur71, x71_6_6⟩
        have hS := St.tr hS h71 (by decide) (by decide)
        refine Tr.sc [(0, r71)] rfl ?_
        refine Tr.if_eq (pc := 74) (tgt := 90) d_X5_order_74 rfl (fun c74 => ?_) (fun c74 => ?_)
        · refine Tr.iconst (pc := 90) d_X5_order_90 (by decide) ?_
          exact Tr.zret (pc := 91) d_X5_order_91 rfl (by omega) ⟨hS, _, rfl, by omega, by omega, fun hq => absurd hq (by omega)⟩
        · refine Tr.aload_n (pc := 77) (i := 0) d_X5_order_77 rfl rfl ?_
          refine Tr.bipush (pc := 78) d_X5_order_78 rfl (by decide) ?_
          refine Tr.callV (pc := 80) (as := [_]) d_X5_order_80 s_5_81 ok_X5_takeSign rfl rfl (Nat.le_of_ble_eq_true rfl) (Nat.le_of_ble_eq_true rfl) (by decide) (ty_6 hS.1.1) ?_
          refine Tr.imp (Tr.deep (by decide) (sp_X5_takeSign_6 hS.1 ((St.kp hS (by decide) (by decide) (by decide)).trans en_6_2) 59 (by omega))) ?_
          rintro M80 _ ⟨h80, r80, rfl, lr80, ur80⟩
          have hS := St.tr hS h80 (by decide) (by decide)
          refine Tr.sc [(0, r80)] rfl ?_
          refine Tr.if_eq (pc := 83) (tgt := 90) d_X5_order_83 rfl (fun c83 => ?_) (fun c83 => ?_)
          · refine Tr.iconst (pc := 90) d_X5_order_90 (by decide) ?_
            exact Tr.zret (pc := 91) d_X5_order_91 rfl (by omega) ⟨hS, _, rfl, by omega, by omega, fun hq => absurd hq (by omega)⟩
          · refine Tr.iconst (pc := 86) d_X5_order_86 (by decide) ?_
            refine Tr.goto (pc := 87) (tgt := 91) d_X5_order_87 rfl ?_
            exact Tr.zret (pc := 91) d_X5_order_91 rfl (by omega) ⟨hS, _, rfl, by omega, by omega, fun _ => ((St.kp h80 (by decide) (by decide) (by decide)).trans (x71_6_6 (by omega)))⟩
  · refine Tr.tp 6 c9 ?_
    refine Tr.tswIn (pc := 9) (off := 83) (tgt := 92) d_X5_order_9 (by decide) (by decide) rfl rfl ?_
    refine Tr.aload_n (pc := 92) (i := 0) d_X5_order_92 rfl rfl ?_
    refine Tr.iload_n (pc := 93) (i := 1) d_X5_order_93 rfl rfl ?_
    refine Tr.iconst (pc := 94) d_X5_order_94 (by decide) ?_
    refine Tr.callV (pc := 95) (as := [_, _]) d_X5_order_95 s_5_170 ok_X5_about rfl rfl (Nat.le_of_ble_eq_true rfl) (Nat.le_of_ble_eq_true rfl) (by decide) (ty_6 hS.1.1) ?_
    refine Tr.imp (Tr.deep (by decide) (sp_X5_about_6_v0_w1 hS.1 hE ((St.kp hS (by decide) (by decide) (by decide)).trans en_6_2) ((St.kp hS (by decide) (by decide) (by decide)).trans en_6_3) ((St.kp hS (by decide) (by decide) (by decide)).trans en_6_4) a1 (by omega))) ?_
    rintro M95 _ ⟨h95, r95, rfl, lr95, ur95⟩
    have hS := St.tr hS h95 (by decide) (by decide)
    refine Tr.sc [(0, r95)] rfl ?_
    refine Tr.if_eq (pc := 98) (tgt := 121) d_X5_order_98 rfl (fun c98 => ?_) (fun c98 => ?_)
    · refine Tr.iconst (pc := 121) d_X5_order_121 (by decide) ?_
      exact Tr.zret (pc := 122) d_X5_order_122 rfl (by omega) ⟨hS, _, rfl, by omega, by omega, fun hq => absurd hq (by omega)⟩
    · refine Tr.aload_n (pc := 101) (i := 0) d_X5_order_101 rfl rfl ?_
      refine Tr.callV (pc := 102) (as := []) d_X5_order_102 s_5_174 ok_X5_sum rfl rfl (Nat.le_of_ble_eq_true rfl) (Nat.le_of_ble_eq_true rfl) (by decide) (ty_6 hS.1.1) ?_
      refine Tr.imp (Tr.deep (by decide) (sp_X5_sum_6_w9 hS.1 hE ((St.kp hS (by decide) (by decide) (by decide)).trans en_6_2) ((St.kp hS (by decide) (by decide) (by decide)).trans en_6_3) ((St.kp hS (by decide) (by decide) (by decide)).trans en_6_4) ((St.kp h95 (by decide) (by decide) (by decide)).trans en_6_6))) ?_
      rintro M102 _ ⟨h102, r102, rfl, lr102, ur102, x102_6_6⟩
      have hS := St.tr hS h102 (by decide) (by decide)
      refine Tr.sc [(0, r102)] rfl ?_
      refine Tr.if_eq (pc := 105) (tgt := 121) d_X5_order_105 rfl (fun c105 => ?_) (fun c105 => ?_)
      · refine Tr.iconst (pc := 121) d_X5_order_121 (by decide) ?_
        exact Tr.zret (pc := 122) d_X5_order_122 rfl (by omega) ⟨hS, _, rfl, by omega, by omega, fun hq => absurd hq (by omega)⟩
      · refine Tr.aload_n (pc := 108) (i := 0) d_X5_order_108 rfl rfl ?_
        refine Tr.bipush (pc := 109) d_X5_order_109 rfl (by decide) ?_
        refine Tr.callV (pc := 111) (as := [_]) d_X5_order_111 s_5_81 ok_X5_takeSign rfl rfl (Nat.le_of_ble_eq_true rfl) (Nat.le_of_ble_eq_true rfl) (by decide) (ty_6 hS.1.1) ?_
        refine Tr.imp (Tr.deep (by decide) (sp_X5_takeSign_6 hS.1 ((St.kp hS (by decide) (by decide) (by decide)).trans en_6_2) 59 (by omega))) ?_
        rintro M111 _ ⟨h111, r111, rfl, lr111, ur111⟩
        have hS := St.tr hS h111 (by decide) (by decide)
        refine Tr.sc [(0, r111)] rfl ?_
        refine Tr.if_eq (pc := 114) (tgt := 121) d_X5_order_114 rfl (fun c114 => ?_) (fun c114 => ?_)
        · refine Tr.iconst (pc := 121) d_X5_order_121 (by decide) ?_
          exact Tr.zret (pc := 122) d_X5_order_122 rfl (by omega) ⟨hS, _, rfl, by omega, by omega, fun hq => absurd hq (by omega)⟩
        · refine Tr.iconst (pc := 117) d_X5_order_117 (by decide) ?_
          refine Tr.goto (pc := 118) (tgt := 122) d_X5_order_118 rfl ?_
          exact Tr.zret (pc := 122) d_X5_order_122 rfl (by omega) ⟨hS, _, rfl, by omega, by omega, fun _ => ((St.kp h111 (by decide) (by decide) (by decide)).trans (x102_6_6 (by omega)))⟩
  · refine Tr.tp 7 c9 ?_
    refine Tr.tswIn (pc := 9) (off := 114) (tgt := 123) d_X5_order_9 (by decide) (by decide) rfl rfl ?_
    refine Tr.aload_n (pc := 123) (i := 0) d_X5_order_123 rfl rfl ?_
    refine Tr.iload_n (pc := 124) (i := 1) d_X5_order_124 rfl rfl ?_
    refine Tr.iconst (pc := 125) d_X5_order_125 (by decide) ?_
    refine Tr.callV (pc := 126) (as := [_, _]) d_X5_order_126 s_5_170 ok_X5_about rfl rfl (Nat.le_of_ble_eq_true rfl) (Nat.le_of_ble_eq_true rfl) (by decide) (ty_6 hS.1.1) ?_
    refine Tr.imp (Tr.deep (by decide) (sp_X5_about_6_v0_w1 hS.1 hE ((St.kp hS (by decide) (by decide) (by decide)).trans en_6_2) ((St.kp hS (by decide) (by decide) (by decide)).trans en_6_3) ((St.kp hS (by decide) (by decide) (by decide)).trans en_6_4) a1 (by omega))) ?_
    rintro M126 _ ⟨h126, r126, rfl, lr126, ur126⟩
    have hS := St.tr hS h126 (by decide) (by decide)
    refine Tr.sc [(0, r126)] rfl ?_
    refine Tr.if_eq (pc := 129) (tgt := 145) d_X5_order_129 rfl (fun c129 => ?_) (fun c129 => ?_)
    · refine Tr.iconst (pc := 145) d_X5_order_145 (by decide) ?_
      exact Tr.zret (pc := 146) d_X5_order_146 rfl (by omega) ⟨hS, _, rfl, by omega, by omega, fun hq => absurd hq (by omega)⟩
    · refine Tr.aload_n (pc := 132) (i := 0) d_X5_order_132 rfl rfl ?_
      refine Tr.bipush (pc := 133) d_X5_order_133 rfl (by decide) ?_
      refine Tr.callV (pc := 135) (as := [_]) d_X5_order_135 s_5_81 ok_X5_takeSign rfl rfl (Nat.le_of_ble_eq_true rfl) (Nat.le_of_ble_eq_true rfl) (by decide) (ty_6 hS.1.1) ?_
      refine Tr.imp (Tr.deep (by decide) (sp_X5_takeSign_6 hS.1 ((St.kp hS (by decide) (by decide) (by decide)).trans en_6_2) 59 (by omega))) ?_
      rintro M135 _ ⟨h135, r135, rfl, lr135, ur135⟩
      have hS := St.tr hS h135 (by decide) (by decide)
      refine Tr.sc [(0, r135)] rfl ?_
      refine Tr.if_eq (pc := 138) (tgt := 145) d_X5_order_138 rfl (fun c138 => ?_) (fun c138 => ?_)
      · refine Tr.iconst (pc := 145) d_X5_order_145 (by decide) ?_
        exact Tr.zret (pc := 146) d_X5_order_146 rfl (by omega) ⟨hS, _, rfl, by omega, by omega, fun hq => absurd hq (by omega)⟩
      · refine Tr.iconst (pc := 141) d_X5_order_141 (by decide) ?_
        refine Tr.goto (pc := 142) (tgt := 146) d_X5_order_142 rfl ?_
        exact Tr.zret (pc := 146) d_X5_order_146 rfl (by omega) ⟨hS, _, rfl, by omega, by omega, fun _ => ((St.kp h135 (by decide) (by decide) (by decide)).trans ((St.kp h126 (by decide) (by decide) (by decide)).trans en_6_6))⟩
  · refine Tr.tp 8 c9 ?_
    refine Tr.tswIn (pc := 9) (off := 114) (tgt := 123) d_X5_order_9 (by decide) (by decide) rfl rfl ?_
    refine Tr.aload_n (pc := 123) (i := 0) d_X5_order_123 rfl rfl ?_
    refine Tr.iload_n (pc := 124) (i := 1) d_X5_order_124 rfl rfl ?_
    refine Tr.iconst (pc := 125) d_X5_order_125 (by decide) ?_
    refine Tr.callV (pc := 126) (as := [_, _]) d_X5_order_126 s_5_170 ok_X5_about rfl rfl (Nat.le_of_ble_eq_true rfl) (Nat.le_of_ble_eq_true rfl) (by decide) (ty_6 hS.1.1) ?_
    refine Tr.imp (Tr.deep (by decide) (sp_X5_about_6_v0_w1 hS.1 hE ((St.kp hS (by decide) (by decide) (by decide)).trans en_6_2) ((St.kp hS (by decide) (by decide) (by decide)).trans en_6_3) ((St.kp hS (by decide) (by decide) (by decide)).trans en_6_4) a1 (by omega))) ?_
    rintro M126 _ ⟨h126, r126, rfl, lr126, ur126⟩
    have hS := St.tr hS h126 (by decide) (by decide)
    refine Tr.sc [(0, r126)] rfl ?_
    refine Tr.if_eq (pc := 129) (tgt := 145) d_X5_order_129 rfl (fun c129 => ?_) (fun c129 => ?_)
    · refine Tr.iconst (pc := 145) d_X5_order_145 (by decide) ?_
      exact Tr.zret (pc := 146) d_X5_order_146 rfl (by omega) ⟨hS, _, rfl, by omega, by omega, fun hq => absurd hq (by omega)⟩
    · refine Tr.aload_n (pc := 132) (i := 0) d_X5_order_132 rfl rfl ?_
      refine Tr.bipush (pc := 133) d_X5_order_133 rfl (by decide) ?_
      refine Tr.callV (pc := 135) (as := [_]) d_X5_order_135 s_5_81 ok_X5_takeSign rfl rfl (Nat.le_of_ble_eq_true rfl) (Nat.le_of_ble_eq_true rfl) (by decide) (ty_6 hS.1.1) ?_
      refine Tr.imp (Tr.deep (by decide) (sp_X5_takeSign_6 hS.1 ((St.kp hS (by decide) (by decide) (by decide)).trans en_6_2) 59 (by omega))) ?_
      rintro M135 _ ⟨h135, r135, rfl, lr135, ur135⟩
      have hS := St.tr hS h135 (by decide) (by decide)
      refine Tr.sc [(0, r135)] rfl ?_
      refine Tr.if_eq (pc := 138) (tgt := 145) d_X5_order_138 rfl (fun c138 => ?_) (fun c138 => ?_)
      · refine Tr.iconst (pc := 145) d_X5_order_145 (by decide) ?_
        exact Tr.zret (pc := 146) d_X5_order_146 rfl (by omega) ⟨hS, _, rfl, by omega, by omega, fun hq => absurd hq (by omega)⟩
      · refine Tr.iconst (pc := 141) d_X5_order_141 (by decide) ?_
        refine Tr.goto (pc := 142) (tgt := 146) d_X5_order_142 rfl ?_
        exact Tr.zret (pc := 146) d_X5_order_146 rfl (by omega) ⟨hS, _, rfl, by omega, by omega, fun _ => ((St.kp h135 (by decide) (by decide) (by decide)).trans ((St.kp h126 (by decide) (by decide) (by decide)).trans en_6_6))⟩
  · refine Tr.tp 9 c9 ?_
    refine Tr.tswIn (pc := 9) (off := 138) (tgt := 147) d_X5_order_9 (by decide) (by decide) rfl rfl ?_
    refine Tr.aload_n (pc := 147) (i := 0) d_X5_order_147 rfl rfl ?_
    refine Tr.callV (pc := 148) (as := []) d_X5_order_148 s_5_174 ok_X5_sum rfl rfl (Nat.le_of_ble_eq_true rfl) (Nat.le_of_ble_eq_true rfl) (by decide) (ty_6 hS.1.1) ?_
    refine Tr.imp (Tr.deep (by decide) (sp_X5_sum_6_w9 hS.1 hE ((St.kp hS (by decide) (by decide) (by decide)).trans en_6_2) ((St.kp hS (by decide) (by decide) (by decide)).trans en_6_3) ((St.kp hS (by decide) (by decide) (by decide)).trans en_6_4) en_6_6)) ?_
    rintro M148 _ ⟨h148, r148, rfl, lr148, ur148, x148_6_6⟩
    have hS := St.tr hS h148 (by decide) (by decide)
    refine Tr.sc [(0, r148)] rfl ?_
    refine Tr.if_eq (pc := 151) (tgt := 167) d_X5_order_151 rfl (fun c151 => ?_) (fun c151 => ?_)
    · refine Tr.iconst (pc := 167) d_X5_order_167 (by decide) ?_
      exact Tr.zret (pc := 168) d_X5_order_168 rfl (by omega) ⟨hS, _, rfl, by omega, by omega, fun hq => absurd hq (by omega)⟩
    · refine Tr.aload_n (pc := 154) (i := 0) d_X5_order_154 rfl rfl ?_
      refine Tr.bipush (pc := 155) d_X5_order_155 rfl (by decide) ?_
      refine Tr.callV (pc := 157) (as := [_]) d_X5_order_157 s_5_81 ok_X5_takeSign rfl rfl (Nat.le_of_ble_eq_true rfl) (Nat.le_of_ble_eq_true rfl) (by decide) (ty_6 hS.1.1) ?_
      refine Tr.imp (Tr.deep (by decide) (sp_X5_takeSign_6 hS.1 ((St.kp hS (by decide) (by decide) (by decide)).trans en_6_2) 59 (by omega))) ?_
      rintro M157 _ ⟨h157, r157, rfl, lr157, ur157⟩
      have hS := St.tr hS h157 (by decide) (by decide)
      refine Tr.sc [(0, r157)] rfl ?_
      refine Tr.if_eq (pc := 160) (tgt := 167) d_X5_order_160 rfl (fun c160 => ?_) (fun c160 => ?_)
      · refine Tr.iconst (pc := 167) d_X5_order_167 (by decide) ?_
        exact Tr.zret (pc := 168) d_X5_order_168 rfl (by omega) ⟨hS, _, rfl, by omega, by omega, fun hq => absurd hq (by omega)⟩
      · refine Tr.iconst (pc := 163) d_X5_order_163 (by decide) ?_
        refine Tr.goto (pc := 164) (tgt := 168) d_X5_order_164 rfl ?_
        exact Tr.zret (pc := 168) d_X5_order_168 rfl (by omega) ⟨hS, _, rfl, by omega, by omega, fun _ => ((St.kp h157 (by decide) (by decide) (by decide)).trans (x148_6_6 (by omega)))⟩
  · refine Tr.tp 10 c9 ?_
    refine Tr.tswIn (pc := 9) (off := 138) (tgt := 147) d_X5_order_9 (by decide) (by decide) rfl rfl ?_
    refine Tr.aload_n (pc := 147) (i := 0) d_X5_order_147 rfl rfl ?_
    refine Tr.callV (pc := 148) (as := []) d_X5_order_148 s_5_174 ok_X5_sum rfl rfl (Nat.le_of_ble_eq_true rfl) (Nat.le_of_ble_eq_true rfl) (by decide) (ty_6 hS.1.1) ?_
    refine Tr.imp (Tr.deep (by decide) (sp_X5_sum_6_w9 hS.1 hE ((St.kp hS (by decide) (by decide) (by decide)).trans en_6_2) ((St.kp hS (by decide) (by decide) (by decide)).trans en_6_3) ((St.kp hS (by decide) (by decide) (by decide)).trans en_6_4) en_6_6)) ?_
    rintro M148 _ ⟨h148, r148, rfl, lr148, ur148, x148_6_6⟩
    have hS := St.tr hS h148 (by decide) (by decide)
    refine Tr.sc [(0, r148)] rfl ?_
    refine Tr.if_eq (pc := 151) (tgt := 167) d_X5_order_151 rfl (fun c151 => ?_) (fun c151 => ?_)
    · refine Tr.iconst (pc := 167) d_X5_order_167 (by decide) ?_
      exact Tr.zret (pc := 168) d_X5_order_168 rfl (by omega) ⟨hS, _, rfl, by omega, by omega, fun hq => absurd hq (by omega)⟩
    · refine Tr.aload_n (pc := 154) (i := 0) d_X5_order_154 rfl rfl ?_
      refine Tr.bipush (pc := 155) d_X5_order_155 rfl (by decide) ?_
      refine Tr.callV (pc := 157) (as := [_]) d_X5_order_157 s_5_81 ok_X5_takeSign rfl rfl (Nat.le_of_ble_eq_true rfl) (Nat.le_of_ble_eq_true rfl) (by decide) (ty_6 hS.1.1) ?_
      refine Tr.imp (Tr.deep (by decide) (sp_X5_takeSign_6 hS.1 ((St.kp hS (by decide) (by decide) (by decide)).trans en_6_2) 59 (by omega))) ?_
      rintro M157 _ ⟨h157, r157, rfl, lr157, ur157⟩
      have hS := St.tr hS h157 (by decide) (by decide)
      refine Tr.sc [(0, r157)] rfl ?_
      refine Tr.if_eq (pc := 160) (tgt := 167) d_X5_order_160 rfl (fun c160 => ?_) (fun c160 => ?_)
      · refine Tr.iconst (pc := 167) d_X5_order_167 (by decide) ?_
        exact Tr.zret (pc := 168) d_X5_order_168 rfl (by omega) ⟨hS, _, rfl, by omega, by omega, fun hq => absurd hq (by omega)⟩
      · refine Tr.iconst (pc := 163) d_X5_order_163 (by decide) ?_
        refine Tr.goto (pc := 164) (tgt := 168) d_X5_order_164 rfl ?_
        exact Tr.zret (pc := 168) d_X5_order_168 rfl (by omega) ⟨hS, _, rfl, by omega, by omega, fun _ => ((St.kp h157 (by decide) (by decide) (by decide)).trans (x148_6_6 (by omega)))⟩
  · refine Tr.tp 11 c9 ?_
    refine Tr.tswIn (pc := 9) (off := 160) (tgt := 169) d_X5_order_9 (by decide) (by decide) rfl rfl ?_
    refine Tr.aload_n (pc := 169) (i := 0) d_X5_order_169 rfl rfl ?_
    refine Tr.callV (pc := 170) (as := []) d_X5_order_170 s_5_177 ok_X5_test rfl rfl (Nat.le_of_ble_eq_true rfl) (Nat.le_of_ble_eq_true rfl) (by decide) (ty_6 hS.1.1) ?_
    refine Tr.imp (Tr.deep (by decide) (sp_X5_test_6_w9 hS.1 hE ((St.kp hS (by decide) (by decide) (by decide)).trans en_6_2) ((St.kp hS (by decide) (by decide) (by decide)).trans en_6_3) ((St.kp hS (by decide) (by decide) (by decide)).trans en_6_4) en_6_6)) ?_
    rintro M170 _ ⟨h170, r170, rfl, lr170, ur170, x170_6_6⟩
    have hS := St.tr hS h170 (by decide) (by decide)
    refine Tr.sc [(0, r170)] rfl ?_
    refine Tr.if_eq (pc := 173) (tgt := 196) d_X5_order_173 rfl (fun c173 => ?_) (fun c173 => ?_)
    · refine Tr.iconst (pc := 196) d_X5_order_196 (by decide) ?_
      exact Tr.zret (pc := 197) d_X5_order_197 rfl (by omega) ⟨hS, _, rfl, by omega, by omega, fun hq => absurd hq (by omega)⟩
    · refine Tr.aload_n (pc := 176) (i := 0) d_X5_order_176 rfl rfl ?_
      refine Tr.iload_n (pc := 177) (i := 1) d_X5_order_177 rfl rfl ?_
      refine Tr.callV (pc := 178) (as := [_]) d_X5_order_178 s_5_180 ok_X5_yesBlock rfl rfl (Nat.le_of_ble_eq_true rfl) (Nat.le_of_ble_eq_true rfl) (by decide) (ty_6 hS.1.1) ?_
      refine Tr.imp (Tr.deep (by decide) (sp_X5_yesBlock_6_w9 hS.1 hE ((St.kp hS (by decide) (by decide) (by decide)).trans en_6_2) ((St.kp hS (by decide) (by decide) (by decide)).trans en_6_3) ((St.kp hS (by decide) (by decide) (by decide)).trans en_6_4) (x170_6_6 (by omega)) a1 (by omega))) ?_
      rintro M178 _ ⟨h178, r178, rfl, lr178, ur178, x178_6_6⟩
      have hS := St.tr hS h178 (by decide) (by decide)
      refine Tr.sc [(0, r178)] rfl ?_
      refine Tr.if_eq (pc := 181) (tgt := 196) d_X5_order_181 rfl (fun c181 => ?_) (fun c181 => ?_)
      · refine Tr.iconst (pc := 196) d_X5_order_196 (by decide) ?_
        exact Tr.zret (pc := 197) d_X5_order_197 rfl (by omega) ⟨hS, _, rfl, by omega, by omega, fun hq => absurd hq (by omega)⟩
      · refine Tr.aload_n (pc := 184) (i := 0) d_X5_order_184 rfl rfl ?_
        refine Tr.iload_n (pc := 185) (i := 1) d_X5_order_185 rfl rfl ?_
        refine Tr.callV (pc := 186) (as := [_]) d_X5_order_186 s_5_183 ok_X5_noBlock rfl rfl (Nat.le_of_ble_eq_true rfl) (Nat.le_of_ble_eq_true rfl) (by decide) (ty_6 hS.1.1) ?_
        refine Tr.imp (Tr.deep (by decide) (sp_X5_noBlock_6_w15 hS.1 hE ((St.kp hS (by decide) (by decide) (by decide)).trans en_6_2) ((St.kp hS (by decide) (by decide) (by decide)).trans en_6_3) ((St.kp hS (by decide) (by decide) (by decide)).trans en_6_4) (x178_6_6 (by omega)) a1 (by omega))) ?_
        rintro M186 _ ⟨h186, r186, rfl, lr186, ur186, x186_6_6⟩
        have hS := St.tr hS h186 (by decide) (by decide)
        refine Tr.sc [(0, r186)] rfl ?_
        refine Tr.if_eq (pc := 189) (tgt := 196) d_X5_order_189 rfl (fun c189 => ?_) (fun c189 => ?_)
        · refine Tr.iconst (pc := 196) d_X5_order_196 (by decide) ?_
          exact Tr.zret (pc := 197) d_X5_order_197 rfl (by omega) ⟨hS, _, rfl, by omega, by omega, fun hq => absurd hq (by omega)⟩
        · refine Tr.iconst (pc := 192) d_X5_order_192 (by decide) ?_
          refine Tr.goto (pc := 193) (tgt := 197) d_X5_order_193 rfl ?_
          exact Tr.zret (pc := 197) d_X5_order_197 rfl (by omega) ⟨hS, _, rfl, by omega, by omega, fun _ => (x186_6_6 (by omega))⟩
end
/-! 43.30 -/
section
def ws_X5_orders_6_w9 : List (Int × Int) := [(6, 0), (6, 1), (6, 5), (6, 6), (15, 0), (15, 11)]
def as_X5_orders_6_w9 : List Int := [16, 17, 18, 19, 20, 21, 22, 24, 25]
def q_X5_orders_6_w9 (M0 M' : Mem) (r : Option PV) : Prop := St Tru ws_X5_orders_6_w9 as_X5_orders_6_w9 M0 M' ∧ ∃ v : Int, r = some (0, v) ∧ (-2) ≤ v ∧ v ≤ 59 ∧ (((-1) ≤ v ∧ v ≤ 1000000) → rd M' 6 6 = 0)
set_option maxRecDepth 100000 in
set_option maxHeartbeats 4000000 in
theorem sp_X5_orders_6_w9 {l : Launch} {K : EC} {M0 : Mem} {xq : Int} (hI : In Tru M0) (hE : e_all K xq) (en_6_2 : rd M0 6 2 = 2) (en_6_3 : rd M0 6 3 = 7) (en_6_4 : rd M0 6 4 = 15) (en_6_6 : rd M0 6 6 = 0) (a1 : Int) (ha1 : (-1) ≤ a1 ∧ a1 ≤ (-1))  : Tr l K 43 mX5_orders 0 [(0, (2, 6)), (1, (0, a1))] [] M0 (q_X5_orders_6_w9 M0) := by
  have hS : St Tru ws_X5_orders_6_w9 as_X5_orders_6_w9 M0 M0 := St.rf hI
  refine Tr.iconst (pc := 0) d_X5_orders_0 (by decide) ?_
  refine Tr.istore_n (pc := 1) (i := 2) (ls2 := [(2, (0, (-1))), (0, (2, 6)), (1, (0, a1))]) d_X5_orders_1 rfl (by decide) rfl ?_
  refine Tr.iconst (pc := 2) d_X5_orders_2 (by decide) ?_
  refine Tr.istore_n (pc := 3) (i := 3) (ls2 := [(3, (0, (-1))), (2, (0, (-1))), (0, (2, 6)), (1, (0, a1))]) d_X5_orders_3 rfl (by decide) rfl ?_
  refine Tr.iconst (pc := 4) d_X5_orders_4 (by decide) ?_
  refine Tr.istore (pc := 5) (i := 4) (ls2 := [(4, (0, 0)), (3, (0, (-1))), (2, (0, (-1))), (0, (2, 6)), (1, (0, a1))]) d_X5_orders_5 (by decide) rfl ?_
  have J7 : ∀ (n7 : Nat) (M : Mem) (p7_2 p7_3 p7_4 : Int), St Tru ws_X5_orders_6_w9 as_X5_orders_6_w9 M0 M → ((-1) ≤ p7_2 ∧ p7_2 ≤ 59) → ((-1) ≤ p7_3 ∧ p7_3 ≤ 59) → (0 ≤ p7_4 ∧ p7_4 ≤ 61) → rd M 6 6 = 0 → (61 - p7_4).toNat < n7 → Tr l K 43 mX5_orders 7 [(0, (2, 6)), (1, (0, a1)), (2, (0, p7_2)), (3, (0, p7_3)), (4, (0, p7_4))] [] M (q_X5_orders_6_w9 M0) := by
    intro n7
    induction n7 with
    | zero => intro M p7_2 p7_3 p7_4 hS bp7_2 bp7_3 bp7_4 k7_6_6 hm7; exact absurd hm7 (Nat.not_lt_zero _)
    | succ n7 J7 =>
      intro M p7_2 p7_3 p7_4 hS bp7_2 bp7_3 bp7_4 k7_6_6 hm7
      refine Tr.iload (pc := 7) (i := 4) d_X5_orders_7 rfl ?_
      refine Tr.bipush (pc := 9) d_X5_orders_9 rfl (by decide) ?_
      refine Tr.icmp_gt (pc := 11) (tgt := 111) d_X5_orders_11 rfl (fun c11 => ?_) (fun c11 => ?_)
      · refine Tr.iload_n (pc := 111) (i := 2) d_X5_orders_111 rfl rfl ?_
        exact Tr.iret (pc := 112) d_X5_orders_112 rfl ⟨hS, _, rfl, by omega, by omega, fun _ => k7_6_6⟩
      · refine Tr.aload_n (pc := 14) (i := 0) d_X5_orders_14 rfl rfl ?_
        refine Tr.callV (pc := 15) (as := []) d_X5_orders_15 s_5_154 ok_X5_isOrder rfl rfl (Nat.le_of_ble_eq_true rfl) (Nat.le_of_ble_eq_true rfl) (by decide) (ty_6 hS.1.1) ?_
        refine Tr.imp (Tr.deep (by decide) (sp_X5_isOrder_6 hS.1 ((St.kp hS (by decide) (by decide) (by decide)).trans en_6_2))) ?_
        rintro M15 _ ⟨h15, r15, rfl, lr15, ur15⟩
        have hS := St.tr hS h15 (by decide) (by decide)
        refine Tr.sc [(0, r15)] rfl ?_
        refine Tr.if_eq (pc := 18) (tgt := 111) d_X5_orders_18 rfl (fun c18 => ?_) (fun c18 => ?_)
        · refine Tr.iload_n (pc := 111) (i := 2) d_X5_orders_111 rfl rfl ?_
          exact Tr.iret (pc := 112) d_X5_orders_112 rfl ⟨hS, _, rfl, by omega, by omega, fun _ => ((St.kp h15 (by decide) (by decide) (by decide)).trans k7_6_6)⟩
        · refine Tr.aload_n (pc := 21) (i := 0) d_X5_orders_21 rfl rfl ?_
          refine Tr.getf (pc := 22) d_X5_orders_22 f_5_32 (by decide) (by decide) (ty_6 hS.1.1) ?_
          refine Tr.tp 15 ((St.kp hS (by decide) (by decide) (by decide)).trans en_6_4) ?_
          refine Tr.getf (pc := 25) d_X5_orders_25 f_5_157 (by decide) (by decide) (ty_15 hS.1.1) ?_
          refine Tr.gen (P := fun v => 0 ≤ v ∧ v ≤ 60) (ir_15_0 hS.1.2.1) (fun r25 er25 br25 => ?_)
          refine Tr.bipush (pc := 28) d_X5_orders_28 rfl (by decide) ?_
          refine Tr.icmp_lt (pc := 30) (tgt := 42) d_X5_orders_30 rfl (fun c30 => ?_) (fun c30 => ?_)
          · refine Tr.aload_n (pc := 42) (i := 0) d_X5_orders_42 rfl rfl ?_
            refine Tr.getf (pc := 43) d_X5_orders_43 f_5_32 (by decide) (by decide) (ty_6 hS.1.1) ?_
            refine Tr.tp 15 ((St.kp hS (by decide) (by decide) (by decide)).trans en_6_4) ?_
            refine Tr.aload_n (pc := 46) (i := 0) d_X5_orders_46 rfl rfl ?_
            refine Tr.getf (pc := 47) d_X5_orders_47 f_5_18 (by decide) (by decide) (ty_6 hS.1.1) ?_
            refine Tr.tp 2 ((St.kp hS (by decide) (by decide) (by decide)).trans en_6_2) ?_
            refine Tr.getf (pc := 50) d_X5_orders_50 f_5_68 (by decide) (by decide) (ty_2 hS.1.1) ?_
            refine Tr.tp 5 (fx_2_2 hS.1.1) ?_
            refine Tr.aload_n (pc := 53) (i := 0) d_X5_orders_53 rfl rfl ?_
            refine Tr.getf (pc := 54) d_X5_orders_54 f_5_36 (by decide) (by decide) (ty_6 hS.1.1) ?_
            refine Tr.gen (P := fun v => 0 ≤ v ∧ v ≤ 900) (ir_6_5 hS.1.2.1) (fun r54 er54 br54 => ?_)
            refine Tr.iald (pc := 57) d_X5_orders_57 (ty_5 hS.1.1) (by omega) (by omega) ?_
            refine Tr.gen (P := fun v => (-2147483648) ≤ v ∧ v ≤ 2147483647) (ar_5 hS.1.2.1 _) (fun r57 er57 br57 => ?_)
            refine Tr.iload_n (pc := 58) (i := 1) d_X5_orders_58 rfl rfl ?_
            refine Tr.tp (-1) (by omega) ?_
            refine Tr.callV (pc := 59) (as := [_, _]) d_X5_orders_59 s_5_160 ok_X4_open rfl rfl (Nat.le_of_ble_eq_true rfl) (Nat.le_of_ble_eq_true rfl) (by decide) (ty_15 hS.1.1) ?_
            refine Tr.imp (Tr.deep (by decide) (sp_X4_open_15 hS.1 r57 (by omega) (-1) (by omega) (by have h9 := er25; omega))) ?_
            rintro M59 _ ⟨h59, r59, rfl, lr59, ur59⟩
            have hS := St.tr hS h59 (by decide) (by decide)
            refine Tr.sc [(0, r59)] rfl ?_
            refine Tr.istore (pc := 62) (i := 5) (ls2 := [(5, (0, r59)), (0, (2, 6)), (1, (0, a1)), (2, (0, p7_2)), (3, (0, p7_3)), (4, (0, p7_4))]) d_X5_orders_62 (by decide) rfl ?_
            refine Tr.iload_n (pc := 64) (i := 3) d_X5_orders_64 rfl rfl ?_
            have J85 : ∀ (M : Mem) (p85_2 : Int), St Tru ws_X5_orders_6_w9 as_X5_orders_6_w9 M0 M → ((-1) ≤ p85_2 ∧ p85_2 ≤ 59) → rd M 5 r54 = r57 → rd M 6 5 = r54 → rd M 6 6 = 0 → Tr l K 43 mX5_orders 85 [(0, (2, 6)), (1, (0, a1)), (2, (0, p85_2)), (4, (0, p7_4)), (5, (0, r59))] [] M (q_X5_orders_6_w9 M0) := by
              intro M p85_2 hS bp85_2 k85_5_r5410 k85_6_5 k85_6_6
              refine Tr.iload (pc := 85) (i := 5) d_X5_orders_85 rfl ?_
              refine Tr.istore_n (pc := 87) (i := 3) (ls2 := [(3, (0, r59)), (0, (2, 6)), (1, (0, a1)), (2, (0, p85_2)), (4, (0, p7_4)), (5, (0, r59))]) d_X5_orders_87 rfl (by decide) rfl ?_
              refine Tr.aload_n (pc := 88) (i := 0) d_X5_orders_88 rfl rfl ?_
              refine Tr.callV (pc := 89) (as := []) d_X5_orders_89 s_5_74 ok_X5_goOn rfl rfl (Nat.le_of_ble_eq_true rfl) (Nat.le_of_ble_eq_true rfl) (by decide) (ty_6 hS.1.1) ?_
              refine Tr.imp (Tr.deep (by decide) (sp_X5_goOn_6 hS.1 )) ?_
              rintro M89 _ ⟨h89, r89, rfl, lr89, ur89⟩
              have hS := St.tr hS h89 (by decide) (by decide)
              refine Tr.sc [(0, r89)] rfl ?_
              refine Tr.pop (pc := 92) d_X5_orders_92 ne01 ?_
              refine Tr.aload_n (pc := 93) (i := 0) d_X5_orders_93 rfl rfl ?_
              refine Tr.iload (pc := 94) (i := 5) d_X5_orders_94 rfl ?_
              refine Tr.callV (pc := 96) (as := [_]) d_X5_orders_96 s_5_166 ok_X5_order rfl rfl (Nat.le_of_ble_eq_true rfl) (Nat.le_of_ble_eq_true rfl) (by decide) (ty_6 hS.1.1) ?_
              refine Tr.imp (Tr.deep (by decide) (sp_X5_order_6_w9 hS.1 hE ((St.kp hS (by decide) (by decide) (by decide)).trans en_6_2) ((St.kp hS (by decide) (by decide) (by decide)).trans en_6_3) ((St.kp hS (by decide) (by decide) (by decide)).trans en_6_4) ((St.kp h89 (by decide) (by decide) (by decide)).trans k85_6_6) r59 (by omega))) ?_
              rintro M96 _ ⟨h96, r96, rfl, lr96, ur96, x96_6_6⟩
              have hS := St.tr hS h96 (by decide) (by decide)
              refine Tr.sc [(0, r96)] rfl ?_
              refine Tr.if_ne (pc := 99) (tgt := 105) d_X5_orders_99 rfl (fun c99 => ?_) (fun c99 => ?_)
              · refine Tr.iincV (pc := 105) (n2 := (p7_4 + 1)) (ls2 := [(4, (0, (p7_4 + 1))), (3, (0, r59)), (0, (2, 6)), (1, (0, a1)), (2, (0, p85_2)), (5, (0, r59))]) d_X5_orders_105 rfl (by decide) ((w32_id (by omega)).trans (by omega)) rfl ?_
                refine Tr.goto (pc := 108) (tgt := 7) d_X5_orders_108 rfl ?_
                refine Tr.pick [2, 3, 4, 1, 0] (ls2 := [(0, (2, 6)), (1, (0, a1)), (2, (0, p85_2)), (3, (0, r59)), (4, (0, (p7_4 + 1)))]) rfl ?_
                exact J7 _ _ _ _ hS (by omega) (by omega) (by omega) (x96_6_6 (by omega)) (by omega)
              · refine Tr.bipush (pc := 102) d_X5_orders_102 rfl (by decide) ?_
                exact Tr.iret (pc := 104) d_X5_orders_104 rfl ⟨hS, _, rfl, by omega, by omega, fun hq => absurd hq (by omega)⟩
            refine Tr.if_ge (pc := 65) (tgt := 74) d_X5_orders_65 rfl (fun c65 => ?_) (fun c65 => ?_)
            · refine Tr.aload_n (pc := 74) (i := 0) d_X5_orders_74 rfl rfl ?_
              refine Tr.getf (pc := 75) d_X5_orders_75 f_5_32 (by decide) (by decide) (ty_6 hS.1.1) ?_
              refine Tr.tp 15 ((St.kp hS (by decide) (by decide) (by decide)).trans en_6_4) ?_
              refine Tr.getf (pc := 78) d_X5_orders_78 f_5_163 (by decide) (by decide) (ty_15 hS.1.1) ?_
              refine Tr.tp 21 (fx_15_6 hS.1.1) ?_
              refine Tr.iload_n (pc := 81) (i := 3) d_X5_orders_81 rfl rfl ?_
              refine Tr.iload (pc := 82) (i := 5) d_X5_orders_82 rfl ?_
              refine Tr.iastS (pc := 84) (P := St Tru ws_X5_orders_6_w9 as_X5_orders_6_w9 M0) d_X5_orders_84 (ty_21 hS.1.1) (by omega) (by omega) (sa_21 hS (by decide) (by omega) trivial) (fun M84 hS w84 => ?_)
              refine Tr.pick [1, 2, 3, 5, 0] (ls2 := [(0, (2, 6)), (1, (0, a1)), (2, (0, p7_2)), (4, (0, p7_4)), (5, (0, r59))]) rfl ?_
              exact J85 _ _ hS (by omega) ((Wr.b w84 rfl).trans ((St.ka h59 (by decide) (by decide) (by decide)).trans er57)) ((Wr.b w84 rfl).trans ((St.kp h59 (by decide) (by decide) (by decide)).trans er54)) ((Wr.b w84 rfl).trans ((St.kp h59 (by decide) (by decide) (by decide)).trans ((St.kp h15 (by decide) (by decide) (by decide)).trans k7_6_6)))
            · refine Tr.iload (pc := 68) (i := 5) d_X5_orders_68 rfl ?_
              refine Tr.istore_n (pc := 70) (i := 2) (ls2 := [(2, (0, r59)), (5, (0, r59)), (0, (2, 6)), (1, (0, a1)), (3, (0, p7_3)), (4, (0, p7_4))]) d_X5_orders_70 rfl (by decide) rfl ?_
              refine Tr.goto (pc := 71) (tgt := 85) d_X5_orders_71 rfl ?_
              refine Tr.pick [2, 3, 0, 5, 1] (ls2 := [(0, (2, 6)), (1, (0, a1)), (2, (0, r59)), (4, (0, p7_4)), (5, (0, r59))]) rfl ?_
              exact J85 _ _ hS (by omega) ((St.ka h59 (by decide) (by decide) (by decide)).trans er57) ((St.kp h59 (by decide) (by decide) (by decide)).trans er54) ((St.kp h59 (by decide) (by decide) (by decide)).trans ((St.kp h15 (by decide) (by decide) (by decide)).trans k7_6_6))
          · refine Tr.aload_n (pc := 33) (i := 0) d_X5_orders_33 rfl rfl ?_
            refine Tr.iconst (pc := 34) d_X5_orders_34 (by decide) ?_
            refine Tr.callV (pc := 35) (as := [_]) d_X5_orders_35 s_5_56 ok_X5_refuse rfl rfl (Nat.le_of_ble_eq_true rfl) (Nat.le_of_ble_eq_true rfl) (by decide) (ty_6 hS.1.1) ?_
            refine Tr.imp (Tr.deep (by decide) (sp_X5_refuse_6_w2 hS.1 ((St.kp hS (by decide) (by decide) (by decide)).trans en_6_2) 5 (by omega))) ?_
            rintro M35 _ ⟨h35, r35, rfl, lr35, ur35⟩
            have hS := St.tr hS h35 (by decide) (by decide)
            refine Tr.sc [(0, r35)] rfl ?_
            refine Tr.pop (pc := 38) d_X5_orders_38 ne01 ?_
            refine Tr.bipush (pc := 39) d_X5_orders_39 rfl (by decide) ?_
            exact Tr.iret (pc := 41) d_X5_orders_41 rfl ⟨hS, _, rfl, by omega, by omega, fun hq => absurd hq (by omega)⟩
  refine Tr.pick [3, 4, 2, 1, 0] (ls2 := [(0, (2, 6)), (1, (0, a1)), (2, (0, (-1))), (3, (0, (-1))), (4, (0, 0))]) rfl ?_
  exact J7 _ _ _ _ _ hS (by omega) (by omega) (by omega) en_6_6 (Nat.lt_succ_self _)

def ws_X4_behind_15_w13 : List (Int × Int) := []
def as_X4_behind_15_w13 : List Int := []
def q_X4_behind_15_w13 (M0 M' : Mem) (r : Option PV) : Prop := St Tru ws_X4_behind_15_w13 as_X4_behind_15_w13 M0 M' ∧ ∃ v : Int, r = some (0, v) ∧ 0 ≤ v ∧ v ≤ 60
set_option maxRecDepth 100000 in
set_option maxHeartbeats 4000000 in
theorem sp_X4_behind_15_w13 {l : Launch} {K : EC} {M0 : Mem} (hI : In Tru M0)  (a1 : Int) (ha1 : 0 ≤ a1 ∧ a1 ≤ 59)  : Tr l K 0 mX4_behind 0 [(0, (2, 15)), (1, (0, a1))] [] M0 (q_X4_behind_15_w13 M0) := by
  have hS : St Tru ws_X4_behind_15_w13 as_X4_behind_15_w13 M0 M0 := St.rf hI
  refine Tr.aload_n (pc := 0) (i := 0) d_X4_behind_0 rfl rfl ?_
  refine Tr.getf (pc := 1) d_X4_behind_1 f_4_27 (by decide) (by decide) (ty_15 hS.1.1) ?_
  refine Tr.tp 21 (fx_15_6 hS.1.1) ?_
  refine Tr.iload_n (pc := 4) (i := 1) d_X4_behind_4 rfl rfl ?_
  refine Tr.iald (pc := 5) d_X4_behind_5 (ty_21 hS.1.1) (by omega) (by omega) ?_
  refine Tr.gen (P := fun v => (-1) ≤ v ∧ v ≤ 59) (ar_21 hS.1.2.1 _) (fun r5 er5 br5 => ?_)
  refine Tr.if_lt (pc := 6) (tgt := 16) d_X4_behind_6 rfl (fun c6 => ?_) (fun c6 => ?_)
  · refine Tr.aload_n (pc := 16) (i := 0) d_X4_behind_16 rfl rfl ?_
    refine Tr.getf (pc := 17) d_X4_behind_17 f_4_30 (by decide) (by decide) (ty_15 hS.1.1) ?_
    refine Tr.tp 22 (fx_15_7 hS.1.1) ?_
    refine Tr.iload_n (pc := 20) (i := 1) d_X4_behind_20 rfl rfl ?_
    refine Tr.iald (pc := 21) d_X4_behind_21 (ty_22 hS.1.1) (by omega) (by omega) ?_
    refine Tr.gen (P := fun v => (-1) ≤ v ∧ v ≤ 59) (ar_22 hS.1.2.1 _) (fun r21 er21 br21 => ?_)
    refine Tr.istore_n (pc := 22) (i := 2) (ls2 := [(2, (0, r21)), (0, (2, 15)), (1, (0, a1))]) d_X4_behind_22 rfl (by decide) rfl ?_
    refine Tr.iload_n (pc := 23) (i := 2) d_X4_behind_23 rfl rfl ?_
    refine Tr.if_ge (pc := 24) (tgt := 32) d_X4_behind_24 rfl (fun c24 => ?_) (fun c24 => ?_)
    · refine Tr.aload_n (pc := 32) (i := 0) d_X4_behind_32 rfl rfl ?_
      refine Tr.getf (pc := 33) d_X4_behind_33 f_4_9 (by decide) (by decide) (ty_15 hS.1.1) ?_
      refine Tr.tp 16 (fx_15_1 hS.1.1) ?_
      refine Tr.iload_n (pc := 36) (i := 2) d_X4_behind_36 rfl rfl ?_
      refine Tr.iald (pc := 37) d_X4_behind_37 (ty_16 hS.1.1) (by omega) (by omega) ?_
      refine Tr.gen (P := fun v => (-2147483648) ≤ v ∧ v ≤ 2147483647) (ar_16 hS.1.2.1 _) (fun r37 er37 br37 => ?_)
      refine Tr.bipush (pc := 38) d_X4_behind_38 rfl (by decide) ?_
      refine Tr.icmp_ne (pc := 40) (tgt := 47) d_X4_behind_40 rfl (fun c40 => ?_) (fun c40 => ?_)
      · refine Tr.aload_n (pc := 47) (i := 0) d_X4_behind_47 rfl rfl ?_
        refine Tr.getf (pc := 48) d_X4_behind_48 f_4_33 (by decide) (by decide) (ty_15 hS.1.1) ?_
        refine Tr.tp 23 (fx_15_8 hS.1.1) ?_
        refine Tr.iload_n (pc := 51) (i := 2) d_X4_behind_51 rfl rfl ?_
        refine Tr.iald (pc := 52) d_X4_behind_52 (ty_23 hS.1.1) (by omega) (by omega) ?_
        refine Tr.gen (P := fun v => 0 ≤ v ∧ v ≤ 60) (ar_23 hS.1.2.1 _) (fun r52 er52 br52 => ?_)
        exact Tr.iret (pc := 53) d_X4_behind_53 rfl ⟨hS, _, rfl, by omega, by omega⟩
      · refine Tr.iload_n (pc := 43) (i := 2) d_X4_behind_43 rfl rfl ?_
        refine Tr.goto (pc := 44) (tgt := 53) d_X4_behind_44 rfl ?_
        exact Tr.iret (pc := 53) d_X4_behind_53 rfl ⟨hS, _, rfl, by omega, by omega⟩
    · refine Tr.aload_n (pc := 27) (i := 0) d_X4_behind_27 rfl rfl ?_
      refine Tr.getf (pc := 28) d_X4_behind_28 f_4_45 (by decide) (by decide) (ty_15 hS.1.1) ?_
      refine Tr.gen (P := fun v => 0 ≤ v ∧ v ≤ 60) (ir_15_0 hS.1.2.1) (fun r28 er28 br28 => ?_)
      exact Tr.iret (pc := 31) d_X4_behind_31 rfl ⟨hS, _, rfl, by omega, by omega⟩
  · refine Tr.aload_n (pc := 9) (i := 0) d_X4_behind_9 rfl rfl ?_
    refine Tr.getf (pc := 10) d_X4_behind_10 f_4_27 (by decide) (by decide) (ty_15 hS.1.1) ?_
    refine Tr.tp 21 (fx_15_6 hS.1.1) ?_
    refine Tr.iload_n (pc := 13) (i := 1) d_X4_behind_13 rfl rfl ?_
    refine Tr.iald (pc := 14) d_X4_behind_14 (ty_21 hS.1.1) (by omega) (by omega) ?_
    refine Tr.tp r5 er5 ?_
    exact Tr.iret (pc := 15) d_X4_behind_15 rfl ⟨hS, _, rfl, by omega, by omega⟩

def ws_X4_link_15 : List (Int × Int) := []
def as_X4_link_15 : List Int := [18, 19, 20, 23]
def q_X4_link_15 (M0 M' : Mem) (r : Option PV) : Prop := St Tru ws_X4_link_15 as_X4_link_15 M0 M' ∧ r = none ∧ Yn15 M'
set_option maxRecDepth 100000 in
set_option maxHeartbeats 4000000 in
theorem sp_X4_link_15 {l : Launch} {K : EC} {M0 : Mem} (hI : In Tru M0)    : Tr l K 1 mX4_link 0 [(0, (2, 15))] [] M0 (q_X4_link_15 M0) := by
  have hS : St Tru ws_X4_link_15 as_X4_link_15 M0 M0 := St.rf hI
  refine Tr.aload_n (pc := 0) (i := 0) d_X4_link_0 rfl rfl ?_
  refine Tr.getf (pc := 1) d_X4_link_1 f_4_18 (by decide) (by decide) (ty_15 hS.1.1) ?_
  refine Tr.tp 18 (fx_15_3 hS.1.1) ?_
  refine Tr.aload_n (pc := 4) (i := 0) d_X4_link_4 rfl rfl ?_
  refine Tr.getf (pc := 5) d_X4_link_5 f_4_45 (by decide) (by decide) (ty_15 hS.1.1) ?_
  refine Tr.gen (P := fun v => 0 ≤ v ∧ v ≤ 60) (ir_15_0 hS.1.2.1) (fun r5 er5 br5 => ?_)
  refine Tr.aload_n (pc := 8) (i := 0) d_X4_link_8 rfl rfl ?_
  refine Tr.getf (pc := 9) d_X4_link_9 f_4_49 (by decide) (by decide) (ty_15 hS.1.1) ?_
  refine Tr.gen (P := fun v => 0 ≤ v ∧ v ≤ 900) (ir_15_11 hS.1.2.1) (fun r9 er9 br9 => ?_)
  refine Tr.iastS (pc := 12) (P := St Tru ws_X4_link_15 as_X4_link_15 M0) d_X4_link_12 (ty_18 hS.1.1) (by omega) (by omega) (sa_18 hS (by decide) (by omega) trivial) (fun M12 hS w12 => ?_)
  refine Tr.iconst (pc := 13) d_X4_link_13 (by decide) ?_
  refine Tr.istore_n (pc := 14) (i := 1) (ls2 := [(1, (0, 0)), (0, (2, 15))]) d_X4_link_14 rfl (by decide) rfl ?_
  have J15 : ∀ (n15 : Nat) (M : Mem) (p15_1 : Int), St Tru ws_X4_link_15 as_X4_link_15 M0 M → (0 ≤ p15_1 ∧ p15_1 ≤ 60) → rd M 15 0 = r5 → rd M 15 11 = r9 → rd M 18 r5 = r9 → (∀ k : Int, 0 ≤ k → k < p15_1 → 0 ≤ rd M 19 k ∧ 0 ≤ rd M 20 k) → (60 - p15_1).toNat < n15 → Tr l K 1 mX4_link 15 [(0, (2, 15)), (1, (0, p15_1))] [] M (q_X4_link_15 M0) := by
    intro n15
    induction n15 with
    | zero => intro M p15_1 hS bp15_1 k15_15_0 k15_15_11 k15_18_r510 tp15_0 hm15; exact absurd hm15 (Nat.not_lt_zero _)
    | succ n15 J15 =>
      intro M p15_1 hS bp15_1 k15_15_0 k15_15_11 k15_18_r510 tp15_0 hm15
      refine Tr.iload_n (pc := 15) (i := 1) d_X4_link_15 rfl rfl ?_
      refine Tr.aload_n (pc := 16) (i := 0) d_X4_link_16 rfl rfl ?_
      refine Tr.getf (pc := 17) d_X4_link_17 f_4_45 (by decide) (by decide) (ty_15 hS.1.1) ?_
      refine Tr.tp r5 k15_15_0 ?_
      refine Tr.icmp_ge (pc := 20) (tgt := 107) d_X4_link_20 rfl (fun c20 => ?_) (fun c20 => ?_)
      · have hyn : Yn15 M := fun k k0 k1 => tp15_0 k k0 (by omega)
        exact Tr.vret (pc := 107) d_X4_link_107 rfl ⟨hS, rfl, hyn⟩
      · refine Tr.aload_n (pc := 23) (i := 0) d_X4_link_23 rfl rfl ?_
        refine Tr.getf (pc := 24) d_X4_link_24 f_4_33 (by decide) (by decide) (ty_15 hS.1.1) ?_
        refine Tr.tp 23 (fx_15_8 hS.1.1) ?_
        refine Tr.iload_n (pc := 27) (i := 1) d_X4_link_27 rfl rfl ?_
        refine Tr.aload_n (pc := 28) (i := 0) d_X4_link_28 rfl rfl ?_
        refine Tr.iload_n (pc := 29) (i := 1) d_X4_link_29 rfl rfl ?_
        refine Tr.callV (pc := 30) (as := [_]) d_X4_link_30 s_4_52 ok_X4_behind rfl rfl (Nat.le_of_ble_eq_true rfl) (Nat.le_of_ble_eq_true rfl) (by decide) (ty_15 hS.1.1) ?_
        refine Tr.imp (Tr.deep (by decide) (sp_X4_behind_15_w13 hS.1 p15_1 (by omega))) ?_
        rintro M30 _ ⟨h30, r30, rfl, lr30, ur30⟩
        have hS := St.tr hS h30 (by decide) (by decide)
        refine Tr.sc [(0, r30), (0, p15_1), (2, 23)] rfl ?_
        refine Tr.iastS (pc := 33) (P := St Tru ws_X4_link_15 as_X4_link_15 M0) d_X4_link_33 (ty_23 hS.1.1) (by omega) (by omega) (sa_23 hS (by decide) (by omega) trivial) (fun M33 hS w33 => ?_)
        refine Tr.aload_n (pc := 34) (i := 0) d_X4_link_34 rfl rfl ?_
        refine Tr.getf (pc := 35) d_X4_link_35 f_4_9 (by decide) (by decide) (ty_15 hS.1.1) ?_
        refine Tr.tp 16 (fx_15_1 hS.1.1) ?_
        refine Tr.iload_n (pc := 38) (i := 1) d_X4_link_38 rfl rfl ?_
        refine Tr.iald (pc := 39) d_X4_link_39 (ty_16 hS.1.1) (by omega) (by omega) ?_
        refine Tr.gen (P := fun v => (-2147483648) ≤ v ∧ v ≤ 2147483647) (ar_16 hS.1.2.1 _) (fun r39 er39 br39 => ?_)
        refine Tr.bipush (pc := 40) d_X4_link_40 rfl (by decide) ?_
        have J50 : ∀ (M : Mem) (q50_0 : Int), St Tru ws_X4_link_15 as_X4_link_15 M0 M → (0 ≤ q50_0 ∧ q50_0 ≤ 1) → rd M 15 0 = r5 → rd M 15 11 = r9 → rd M 16 p15_1 = r39 → rd M 18 r5 = r9 → rd M 23 p15_1 = r30 → (∀ k : Int, 0 ≤ k → k < p15_1 → 0 ≤ rd M 19 k ∧ 0 ≤ rd M 20 k) → Tr l K 1 mX4_link 50 [(0, (2, 15)), (1, (0, p15_1))] [(0, q50_0)] M (q_X4_link_15 M0) := by
          intro M q50_0 hS bq50_0 k50_15_0 k50_15_11 k50_16_p15_110 k50_18_r510 k50_23_p15_110 tp50_0
          refine Tr.istore_n (pc := 50) (i := 2) (ls2 := [(2, (0, q50_0)), (0, (2, 15)), (1, (0, p15_1))]) d_X4_link_50 rfl (by decide) rfl ?_
          refine Tr.aload_n (pc := 51) (i := 0) d_X4_link_51 rfl rfl ?_
          refine Tr.getf (pc := 52) d_X4_link_52 f_4_21 (by decide) (by decide) (ty_15 hS.1.1) ?_
          refine Tr.tp 19 (fx_15_4 hS.1.1) ?_
          refine Tr.iload_n (pc := 55) (i := 1) d_X4_link_55 rfl rfl ?_
          refine Tr.iald (pc := 56) d_X4_link_56 (ty_19 hS.1.1) (by omega) (by omega) ?_
          refine Tr.gen (P := fun v => (-2147483648) ≤ v ∧ v ≤ 2147483647) (ar_19 hS.1.2.1 _) (fun r56 er56 br56 => ?_)
          have J80 : ∀ (M : Mem), St Tru ws_X4_link_15 as_X4_link_15 M0 M → rd M 15 0 = r5 → rd M 15 11 = r9 → rd M 16 p15_1 = r39 → rd M 18 r5 = r9 → rd M 23 p15_1 = r30 → (∀ k : Int, 0 ≤ k → k < p15_1 → 0 ≤ rd M 19 k ∧ 0 ≤ rd M 20 k) → (0 ≤ rd M 19 p15_1) → Tr l K 1 mX4_link 80 [(0, (2, 15)), (1, (0, p15_1))] [] M (q_X4_link_15 M0) := by
            intro M  hS  k80_15_0 k80_15_11 k80_16_p15_110 k80_18_r510 k80_23_p15_110 tp80_0 tp80_1
            refine Tr.aload_n (pc := 80) (i := 0) d_X4_link_80 rfl rfl ?_
            refine Tr.getf (pc := 81) d_X4_link_81 f_4_24 (by decide) (by decide) (ty_15 hS.1.1) ?_
            refine Tr.tp 20 (fx_15_5 hS.1.1) ?_
            refine Tr.iload_n (pc := 84) (i := 1) d_X4_link_84 rfl rfl ?_
            refine Tr.iald (pc := 85) d_X4_link_85 (ty_20 hS.1.1) (by omega) (by omega) ?_
            refine Tr.gen (P := fun v => (-2147483648) ≤ v ∧ v ≤ 2147483647) (ar_20 hS.1.2.1 _) (fun r85 er85 br85 => ?_)
            have J101 : ∀ (M : Mem), St Tru ws_X4_link_15 as_X4_link_15 M0 M → rd M 15 0 = r5 → rd M 15 11 = r9 → rd M 16 p15_1 = r39 → rd M 18 r5 = r9 → rd M 23 p15_1 = r30 → (∀ k : Int, 0 ≤ k → k < p15_1 + 1 → 0 ≤ rd M 19 k ∧ 0 ≤ rd M 20 k) → Tr l K 1 mX4_link 101 [(0, (2, 15)), (1, (0, p15_1))] [] M (q_X4_link_15 M0) := by
              intro M  hS  k101_15_0 k101_15_11 k101_16_p15_110 k101_18_r510 k101_23_p15_110 tp101_0
              refine Tr.iincV (pc := 101) (n2 := (p15_1 + 1)) (ls2 := [(1, (0, (p15_1 + 1))), (0, (2, 15))]) d_X4_link_101 rfl (by decide) ((w32_id (by omega)).trans (by omega)) rfl ?_
              refine Tr.goto (pc := 104) (tgt := 15) d_X4_link_104 rfl ?_
              refine Tr.pick [1, 0] (ls2 := [(0, (2, 15)), (1, (0, (p15_1 + 1)))]) rfl ?_
              exact J15 _ _ hS (by omega) k101_15_0 k101_15_11 k101_18_r510 (fun k k0 k1 => tp101_0 k k0 (by omega)) (by omega)
            refine Tr.if_ge (pc := 86) (tgt := 101) d_X4_link_86 rfl (fun c86 => ?_) (fun c86 => ?_)
            · refine Tr.pick [0, 1] (ls2 := [(0, (2, 15)), (1, (0, p15_1))]) rfl ?_
              exact J101 _ hS k80_15_0 k80_15_11 k80_16_p15_110 k80_18_r510 k80_23_p15_110 (fun k k0 k1 => by by_cases hk : k = p15_1; rw [hk]; exact ⟨tp80_1, (by have h9 : rd M 20 p15_1 = r85 := er85; omega)⟩; exact tp80_0 k k0 (by omega))
            · refine Tr.aload_n (pc := 89) (i := 0) d_X4_link_89 rfl rfl ?_
              refine Tr.getf (pc := 90) d_X4_link_90 f_4_24 (by decide) (by decide) (ty_15 hS.1.1) ?_
              refine Tr.tp 20 (fx_15_5 hS.1.1) ?_
              refine Tr.iload_n (pc := 93) (i := 1) d_X4_link_93 rfl rfl ?_
              refine Tr.aload_n (pc := 94) (i := 0) d_X4_link_94 rfl rfl ?_
              refine Tr.getf (pc := 95) d_X4_link_95 f_4_33 (by decide) (by decide) (ty_15 hS.1.1) ?_
              refine Tr.tp 23 (fx_15_8 hS.1.1) ?_
              refine Tr.iload_n (pc := 98) (i := 1) d_X4_link_98 rfl rfl ?_
              refine Tr.iald (pc := 99) d_X4_link_99 (ty_23 hS.1.1) (by omega) (by omega) ?_
              refine Tr.tp r30 k80_23_p15_110 ?_
              refine Tr.iastS (pc := 100) (P := St Tru ws_X4_link_15 as_X4_link_15 M0) d_X4_link_100 (ty_20 hS.1.1) (by omega) (by omega) (sa_20 hS (by decide) (by omega) trivial) (fun M100 hS w100 => ?_)
              refine Tr.pick [0, 1] (ls2 := [(0, (2, 15)), (1, (0, p15_1))]) rfl ?_
              exact J101 _ hS ((Wr.b w100 rfl).trans k80_15_0) ((Wr.b w100 rfl).trans k80_15_11) ((Wr.b w100 rfl).trans k80_16_p15_110) ((Wr.b w100 rfl).trans k80_18_r510) ((Wr.b w100 rfl).trans k80_23_p15_110) (fun k k0 k1 => by by_cases hk : k = p15_1; rw [hk, show rd M100 19 p15_1 = rd M 19 p15_1 from ((Wr.b w100 rfl).trans rfl), w100.1]; exact ⟨tp80_1, by omega⟩; rw [Wr.i (y := 19) w100 hk, Wr.i (y := 20) w100 hk]; exact tp80_0 k k0 (by omega))
          refine Tr.if_ge (pc := 57) (tgt := 80) d_X4_link_57 rfl (fun c57 => ?_) (fun c57 => ?_)
          · refine Tr.pick [1, 2] (ls2 := [(0, (2, 15)), (1, (0, p15_1))]) rfl ?_
            exact J80 _ hS k50_15_0 k50_15_11 k50_16_p15_110 k50_18_r510 k50_23_p15_110 (fun k k0 k1 => tp50_0 k k0 k1) (by have h9 : rd M 19 p15_1 = r56 := er56; omega)
          · refine Tr.aload_n (pc := 60) (i := 0) d_X4_link_60 rfl rfl ?_
            refine Tr.getf (pc := 61) d_X4_link_61 f_4_21 (by decide) (by decide) (ty_15 hS.1.1) ?_
            refine Tr.tp 19 (fx_15_4 hS.1.1) ?_
            refine Tr.iload_n (pc := 64) (i := 1) d_X4_link_64 rfl rfl ?_
            refine Tr.iload_n (pc := 65) (i := 2) d_X4_link_65 rfl rfl ?_
            have J79 : ∀ (M : Mem) (q79_2 : Int), St Tru ws_X4_link_15 as_X4_link_15 M0 M → (0 ≤ q79_2 ∧ q79_2 ≤ 60) → rd M 15 0 = r5 → rd M 15 11 = r9 → rd M 16 p15_1 = r39 → rd M 18 r5 = r9 → rd M 19 p15_1 = r56 → rd M 23 p15_1 = r30 → (p15_1 = p15_1) → (∀ k : Int, 0 ≤ k → k < p15_1 → 0 ≤ rd M 19 k ∧ 0 ≤ rd M 20 k) → Tr l K 1 mX4_link 79 [(0, (2, 15)), (1, (0, p15_1))] [(0, q79_2), (0, p15_1), (2, 19)] M (q_X4_link_15 M0) := by
              intro M q79_2 hS bq79_2 k79_15_0 k79_15_11 k79_16_p15_110 k79_18_r510 k79_19_p15_110 k79_23_p15_110 t79_0 tp79_0
              refine Tr.iastS (pc := 79) (P := St Tru ws_X4_link_15 as_X4_link_15 M0) d_X4_link_79 (ty_19 hS.1.1) (by omega) (by omega) (sa_19 hS (by decide) (by omega) trivial) (fun M79 hS w79 => ?_)
              refine Tr.pick [0, 1] (ls2 := [(0, (2, 15)), (1, (0, p15_1))]) rfl ?_
              exact J80 _ hS ((Wr.b w79 rfl).trans k79_15_0) ((Wr.b w79 rfl).trans k79_15_11) ((Wr.b w79 rfl).trans k79_16_p15_110) ((Wr.b w79 rfl).trans k79_18_r510) ((Wr.b w79 rfl).trans k79_23_p15_110) (fun k k0 k1 => by rw [Wr.i (y := 19) w79 (show k ≠ p15_1 by omega), Wr.i (y := 20) w79 (show k ≠ p15_1 by omega)]; exact tp79_0 k k0 k1) (by rw [w79.1]; omega)
            refine Tr.if_eq (pc := 66) (tgt := 73) d_X4_link_66 rfl (fun c66 => ?_) (fun c66 => ?_)
            · refine Tr.aload_n (pc := 73) (i := 0) d_X4_link_73 rfl rfl ?_
              refine Tr.getf (pc := 74) d_X4_link_74 f_4_33 (by decide) (by decide) (ty_15 hS.1.1) ?_
              refine Tr.tp 23 (fx_15_8 hS.1.1) ?_
              refine Tr.iload_n (pc := 77) (i := 1) d_X4_link_77 rfl rfl ?_
              refine Tr.iald (pc := 78) d_X4_link_78 (ty_23 hS.1.1) (by omega) (by omega) ?_
              refine Tr.tp r30 k50_23_p15_110 ?_
              refine Tr.pick [1, 2] (ls2 := [(0, (2, 15)), (1, (0, p15_1))]) rfl ?_
              exact J79 _ _ hS (by omega) k50_15_0 k50_15_11 k50_16_p15_110 k50_18_r510 er56 k50_23_p15_110 (by omega) (fun k k0 k1 => tp50_0 k k0 k1)
            · refine Tr.iload_n (pc := 69) (i := 1) d_X4_link_69 rfl rfl ?_
              refine Tr.goto (pc := 70) (tgt := 79) d_X4_link_70 rfl ?_
              refine Tr.pick [1, 2] (ls2 := [(0, (2, 15)), (1, (0, p15_1))]) rfl ?_
              exact J79 _ _ hS (by omega) k50_15_0 k50_15_11 k50_16_p15_110 k50_18_r510 er56 k50_23_p15_110 (by omega) (fun k k0 k1 => tp50_0 k k0 k1)
        refine Tr.icmp_ne (pc := 42) (tgt := 49) d_X4_link_42 rfl (fun c42 => ?_) (fun c42 => ?_)
        · refine Tr.iconst (pc := 49) d_X4_link_49 (by decide) ?_
          refine Tr.pick [0, 1] (ls2 := [(0, (2, 15)), (1, (0, p15_1))]) rfl ?_
          exact J50 _ _ hS (by omega) ((Wr.b w33 rfl).trans ((St.kp h30 (by decide) (by decide) (by decide)).trans k15_15_0)) ((Wr.b w33 rfl).trans ((St.kp h30 (by decide) (by decide) (by decide)).trans k15_15_11)) er39 ((Wr.b w33 rfl).trans ((St.ka h30 (by decide) (by decide) (by decide)).trans k15_18_r510)) w33.1 (fun k k0 k1 => by rw [show rd M33 19 k = rd M 19 k from ((Wr.b w33 rfl).trans ((St.ka h30 (by decide) (by decide) (by decide)).trans rfl)), show rd M33 20 k = rd M 20 k from ((Wr.b w33 rfl).trans ((St.ka h30 (by decide) (by decide) (by decide)).trans rfl))]; exact tp15_0 k k0 k1)
        · refine Tr.iconst (pc := 45) d_X4_link_45 (by decide) ?_
          refine Tr.goto (pc := 46) (tgt := 50) d_X4_link_46 rfl ?_
          refine Tr.pick [0, 1] (ls2 := [(0, (2, 15)), (1, (0, p15_1))]) rfl ?_
          exact J50 _ _ hS (by omega) ((Wr.b w33 rfl).trans ((St.kp h30 (by decide) (by decide) (by decide)).trans k15_15_0)) ((Wr.b w33 rfl).trans ((St.kp h30 (by decide) (by decide) (by decide)).trans k15_15_11)) er39 ((Wr.b w33 rfl).trans ((St.ka h30 (by decide) (by decide) (by decide)).trans k15_18_r510)) w33.1 (fun k k0 k1 => by rw [show rd M33 19 k = rd M 19 k from ((Wr.b w33 rfl).trans ((St.ka h30 (by decide) (by decide) (by decide)).trans rfl)), show rd M33 20 k = rd M 20 k from ((Wr.b w33 rfl).trans ((St.ka h30 (by decide) (by decide) (by decide)).trans rfl))]; exact tp15_0 k k0 k1)
  refine Tr.pick [1, 0] (ls2 := [(0, (2, 15)), (1, (0, 0))]) rfl ?_
  exact J15 _ _ _ hS (by omega) ((Wr.b w12 rfl).trans er5) ((Wr.b w12 rfl).trans er9) w12.1 (fun k k0 k1 => absurd k1 (by omega)) (Nat.lt_succ_self _)

def ws_X5_read_6_2_7 : List (Int × Int) := [(6, 0), (6, 1), (6, 2), (6, 3), (6, 4), (6, 5), (6, 6), (7, 0), (7, 1), (7, 2), (7, 3), (8, 0), (8, 1), (8, 2), (15, 0), (15, 11)]
def as_X5_read_6_2_7 : List Int := [8, 9, 10, 11, 12, 13, 14, 16, 17, 18, 19, 20, 21, 22, 23, 24, 25]
def q_X5_read_6_2_7 (M0 M' : Mem) (r : Option PV) : Prop := St Tru ws_X5_read_6_2_7 as_X5_read_6_2_7 M0 M' ∧ rd M' 6 2 = 2 ∧ rd M' 6 3 = 7 ∧ rd M' 6 4 = 15 ∧ ∃ v : Int, r = some (0, v) ∧ 0 ≤ v ∧ v ≤ 1 ∧ (v = 1 → Yn15 M')
set_option maxRecDepth 100000 in
set_option maxHeartbeats 4000000 in
theorem sp_X5_read_6_2_7 {l : Launch} {K : EC} {M0 : Mem} {xq : Int} (hI : In Tru M0) (hE : e_all K xq)    : Tr l K 44 mX5_read 0 [(0, (2, 6)), (1, (2, 2)), (2, (2, 7))] [] M0 (q_X5_read_6_2_7 M0) := by
  have hS : St Tru ws_X5_read_6_2_7 as_X5_read_6_2_7 M0 M0 := St.rf hI
  refine Tr.aload_n (pc := 0) (i := 0) d_X5_read_0 rfl rfl ?_
  refine Tr.aload_n (pc := 1) (i := 1) d_X5_read_1 rfl rfl ?_
  refine Tr.putfS (pc := 2) (P := St Tru ws_X5_read_6_2_7 as_X5_read_6_2_7 M0) d_X5_read_2 f_5_18 (by decide) (by decide) (ty_6 hS.1.1) (st_6_2 hS (by decide) (by omega) trivial) (fun M2 hS w2 => ?_)
  refine Tr.aload_n (pc := 5) (i := 0) d_X5_read_5 rfl rfl ?_
  refine Tr.aload_n (pc := 6) (i := 2) d_X5_read_6 rfl rfl ?_
  refine Tr.putfS (pc := 7) (P := St Tru ws_X5_read_6_2_7 as_X5_read_6_2_7 M0) d_X5_read_7 f_5_22 (by decide) (by decide) (ty_6 hS.1.1) (st_6_3 hS (by decide) (by omega) trivial) (fun M7 hS w7 => ?_)
  refine Tr.aload_n (pc := 10) (i := 0) d_X5_read_10 rfl rfl ?_
  refine Tr.aload_n (pc := 11) (i := 2) d_X5_read_11 rfl rfl ?_
  refine Tr.getf (pc := 12) d_X5_read_12 f_5_26 (by decide) (by decide) (ty_7 hS.1.1) ?_
  refine Tr.tp 15 (fx_7_11 hS.1.1) ?_
  refine Tr.putfS (pc := 15) (P := St Tru ws_X5_read_6_2_7 as_X5_read_6_2_7 M0) d_X5_read_15 f_5_32 (by decide) (by decide) (ty_6 hS.1.1) (st_6_4 hS (by decide) (by omega) trivial) (fun M15 hS w15 => ?_)
  refine Tr.aload_n (pc := 18) (i := 0) d_X5_read_18 rfl rfl ?_
  refine Tr.getf (pc := 19) d_X5_read_19 f_5_22 (by decide) (by decide) (ty_6 hS.1.1) ?_
  refine Tr.tp 7 ((Wr.b w15 rfl).trans w7.1) ?_
  refine Tr.callV (pc := 22) (as := []) d_X5_read_22 s_5_33 ok_X3_clear rfl rfl (Nat.le_of_ble_eq_true rfl) (Nat.le_of_ble_eq_true rfl) (by decide) (ty_7 hS.1.1) ?_
  refine Tr.imp (Tr.deep (by decide) (sp_X3_clear_7 hS.1 )) ?_
  rintro M22 _ ⟨h22, rfl⟩
  have hS := St.tr hS h22 (by decide) (by decide)
  refine Tr.sc [] rfl ?_
  refine Tr.aload_n (pc := 25) (i := 0) d_X5_read_25 rfl rfl ?_
  refine Tr.iconst (pc := 26) d_X5_read_26 (by decide) ?_
  refine Tr.putfS (pc := 27) (P := St Tru ws_X5_read_6_2_7 as_X5_read_6_2_7 M0) d_X5_read_27 f_5_36 (by decide) (by decide) (ty_6 hS.1.1) (st_6_5 hS (by decide) (by omega) trivial) (fun M27 hS w27 => ?_)
  refine Tr.aload_n (pc := 30) (i := 0) d_X5_read_30 rfl rfl ?_
  refine Tr.iconst (pc := 31) d_X5_read_31 (by decide) ?_
  refine Tr.putfS (pc := 32) (P := St Tru ws_X5_read_6_2_7 as_X5_read_6_2_7 M0) d_X5_read_32 f_5_39 (by decide) (by decide) (ty_6 hS.1.1) (st_6_6 hS (by decide) (by omega) trivial) (fun M32 hS w32 => ?_)
  refine Tr.aload_n (pc := 35) (i := 0) d_X5_read_35 rfl rfl ?_
  refine Tr.iconst (pc := 36) d_X5_read_36 (by decide) ?_
  refine Tr.putfS (pc := 37) (P := St Tru ws_X5_read_6_2_7 as_X5_read_6_2_7 M0) d_X5_read_37 f_5_9 (by decide) (by decide) (ty_6 hS.1.1) (st_6_0 hS (by decide) (by omega) trivial) (fun M37 hS w37 => ?_)
  refine Tr.aload_n (pc := 40) (i := 0) d_X5_read_40 rfl rfl ?_
  refine Tr.iconst (pc := 41) d_X5_read_41 (by decide) ?_
  refine Tr.putfS (pc := 42) (P := St Tru ws_X5_read_6_2_7 as_X5_read_6_2_7 M0) d_X5_read_42 f_5_15 (by decide) (by decide) (ty_6 hS.1.1) (st_6_1 hS (by decide) (by omega) trivial) (fun M42 hS w42 => ?_)
  refine Tr.aload_n (pc := 45) (i := 0) d_X5_read_45 rfl rfl ?_
  refine Tr.callV (pc := 46) (as := []) d_X5_read_46 s_5_42 ok_X5_declarations rfl rfl (Nat.le_of_ble_eq_true rfl) (Nat.le_of_ble_eq_true rfl) (by decide) (ty_6 hS.1.1) ?_
  refine Tr.imp (Tr.deep (by decide) (sp_X5_declarations_6_w1 hS.1 hE ((Wr.b w42 rfl).trans ((Wr.b w37 rfl).trans ((Wr.b w32 rfl).trans ((Wr.b w27 rfl).trans ((St.kp h22 (by decide) (by decide) (by decide)).trans ((Wr.b w15 rfl).trans ((Wr.b w7 rfl).trans w2.1))))))) ((Wr.b w42 rfl).trans ((Wr.b w37 rfl).trans ((Wr.b w32 rfl).trans ((Wr.b w27 rfl).trans ((St.kp h22 (by decide) (by decide) (by decide)).trans ((Wr.b w15 rfl).trans w7.1)))))))) ?_
  rintro M46 _ ⟨h46, r46, rfl, lr46, ur46⟩
  have hS := St.tr hS h46 (by decide) (by decide)
  refine Tr.sc [(0, r46)] rfl ?_
  refine Tr.if_eq (pc := 49) (tgt := 62) d_X5_read_49 rfl (fun c49 => ?_) (fun c49 => ?_)
  · refine Tr.iconst (pc := 62) d_X5_read_62 (by decide) ?_
    exact Tr.zret (pc := 63) d_X5_read_63 rfl (by omega) ⟨hS, ((St.kp h46 (by decide) (by decide) (by decide)).trans ((Wr.b w42 rfl).trans ((Wr.b w37 rfl).trans ((Wr.b w32 rfl).trans ((Wr.b w27 rfl).trans ((St.kp h22 (by decide) (by decide) (by decide)).trans ((Wr.b w15 rfl).trans ((Wr.b w7 rfl).trans w2.1)))))))), ((St.kp h46 (by decide) (by decide) (by decide)).trans ((Wr.b w42 rfl).trans ((Wr.b w37 rfl).trans ((Wr.b w32 rfl).trans ((Wr.b w27 rfl).trans ((St.kp h22 (by decide) (by decide) (by decide)).trans ((Wr.b w15 rfl).trans w7.1))))))), ((St.kp h46 (by decide) (by decide) (by decide)).trans ((Wr.b w42 rfl).trans ((Wr.b w37 rfl).trans ((Wr.b w32 rfl).trans ((Wr.b w27 rfl).trans ((St.kp h22 (by decide) (by decide) (by decide)).trans w15.1)))))), _, rfl, by omega, by omega, (fun hv => absurd hv (by omega))⟩
  · refine Tr.aload_n (pc := 52) (i := 0) d_X5_read_52 rfl rfl ?_
    refine Tr.iconst (pc := 53) d_X5_read_53 (by decide) ?_
    refine Tr.callV (pc := 54) (as := [_]) d_X5_read_54 s_5_46 ok_X5_orders rfl rfl (Nat.le_of_ble_eq_true rfl) (Nat.le_of_ble_eq_true rfl) (by decide) (ty_6 hS.1.1) ?_
    refine Tr.imp (Tr.deep (by decide) (sp_X5_orders_6_w9 hS.1 hE ((St.kp h46 (by decide) (by decide) (by decide)).trans ((Wr.b w42 rfl).trans ((Wr.b w37 rfl).trans ((Wr.b w32 rfl).trans ((Wr.b w27 rfl).trans ((St.kp h22 (by decide) (by decide) (by decide)).trans ((Wr.b w15 rfl).trans ((Wr.b w7 rfl).trans w2.1)))))))) ((St.kp h46 (by decide) (by decide) (by decide)).trans ((Wr.b w42 rfl).trans ((Wr.b w37 rfl).trans ((Wr.b w32 rfl).trans ((Wr.b w27 rfl).trans ((St.kp h22 (by decide) (by decide) (by decide)).trans ((Wr.b w15 rfl).trans w7.1))))))) ((St.kp h46 (by decide) (by decide) (by decide)).trans ((Wr.b w42 rfl).trans ((Wr.b w37 rfl).trans ((Wr.b w32 rfl).trans ((Wr.b w27 rfl).trans ((St.kp h22 (by decide) (by decide) (by decide)).trans w15.1)))))) ((St.kp h46 (by decide) (by decide) (by decide)).trans ((Wr.b w42 rfl).trans ((Wr.b w37 rfl).trans w32.1))) (-1) (by omega))) ?_
    rintro M54 _ ⟨h54, r54, rfl, lr54, ur54, x54_6_6⟩
    have hS := St.tr hS h54 (by decide) (by decide)
    refine Tr.sc [(0, r54)] rfl ?_
    refine Tr.bipush (pc := 57) d_X5_read_57 rfl (by decide) ?_
    refine Tr.icmp_ne (pc := 59) (tgt := 64) d_X5_read_59 rfl (fun c59 => ?_) (fun c59 => ?_)
    · refine Tr.aload_n (pc := 64) (i := 0) d_X5_read_64 rfl rfl ?_
      refine Tr.getf (pc := 65) d_X5_read_65 f_5_18 (by decide) (by decide) (ty_6 hS.1.1) ?_
      refine Tr.tp 2 ((St.kp h54 (by decide) (by decide) (by decide)).trans ((St.kp h46 (by decide) (by decide) (by decide)).trans ((Wr.b w42 rfl).trans ((Wr.b w37 rfl).trans ((Wr.b w32 rfl).trans ((Wr.b w27 rfl).trans ((St.kp h22 (by decide) (by decide) (by decide)).trans ((Wr.b w15 rfl).trans ((Wr.b w7 rfl).trans w2.1))))))))) ?_
      refine Tr.getf (pc := 68) d_X5_read_68 f_5_50 (by decide) (by decide) (ty_2 hS.1.1) ?_
      refine Tr.tp 3 (fx_2_0 hS.1.1) ?_
      refine Tr.aload_n (pc := 71) (i := 0) d_X5_read_71 rfl rfl ?_
      refine Tr.getf (pc := 72) d_X5_read_72 f_5_36 (by decide) (by decide) (ty_6 hS.1.1) ?_
      refine Tr.gen (P := fun v => 0 ≤ v ∧ v ≤ 900) (ir_6_5 hS.1.2.1) (fun r72 er72 br72 => ?_)
      refine Tr.iald (pc := 75) d_X5_read_75 (ty_3 hS.1.1) (by omega) (by omega) ?_
      refine Tr.gen (P := fun v => (-2147483648) ≤ v ∧ v ≤ 2147483647) (ar_3 hS.1.2.1 _) (fun r75 er75 br75 => ?_)
      refine Tr.if_eq (pc := 76) (tgt := 85) d_X5_read_76 rfl (fun c76 => ?_) (fun c76 => ?_)
      · refine Tr.aload_n (pc := 85) (i := 0) d_X5_read_85 rfl rfl ?_
        refine Tr.getf (pc := 86) d_X5_read_86 f_5_32 (by decide) (by decide) (ty_6 hS.1.1) ?_
        refine Tr.tp 15 ((St.kp h54 (by decide) (by decide) (by decide)).trans ((St.kp h46 (by decide) (by decide) (by decide)).trans ((Wr.b w42 rfl).trans ((Wr.b w37 rfl).trans ((Wr.b w32 rfl).trans ((Wr.b w27 rfl).trans ((St.kp h22 (by decide) (by decide) (by decide)).trans w15.1))))))) ?_
        refine Tr.callV (pc := 89) (as := []) d_X5_read_89 s_5_60 ok_X4_link rfl rfl (Nat.le_of_ble_eq_true rfl) (Nat.le_of_ble_eq_true rfl) (by decide) (ty_15 hS.1.1) ?_
        refine Tr.imp (Tr.deep (by decide) (sp_X4_link_15 hS.1 )) ?_
        rintro M89 _ ⟨h89, rfl, f89_Y15⟩
        have hS := St.tr hS h89 (by decide) (by decide)
        refine Tr.sc [] rfl ?_
        refine Tr.iconst (pc := 92) d_X5_read_92 (by decide) ?_
        exact Tr.zret (pc := 93) d_X5_read_93 rfl (by omega) ⟨hS, ((St.kp h89 (by decide) (by decide) (by decide)).trans ((St.kp h54 (by decide) (by decide) (by decide)).trans ((St.kp h46 (by decide) (by decide) (by decide)).trans ((Wr.b w42 rfl).trans ((Wr.b w37 rfl).trans ((Wr.b w32 rfl).trans ((Wr.b w27 rfl).trans ((St.kp h22 (by decide) (by decide) (by decide)).trans ((Wr.b w15 rfl).trans ((Wr.b w7 rfl).trans w2.1)))))))))), ((St.kp h89 (by decide) (by decide) (by decide)).trans ((St.kp h54 (by decide) (by decide) (by decide)).trans ((St.kp h46 (by decide) (by decide) (by decide)).trans ((Wr.b w42 rfl).trans ((Wr.b w37 rfl).trans ((Wr.b w32 rfl).trans ((Wr.b w27 rfl).trans ((St.kp h22 (by decide) (by decide) (by decide)).trans ((Wr.b w15 rfl).trans w7.1))))))))), ((St.kp h89 (by decide) (by decide) (by decide)).trans ((St.kp h54 (by decide) (by decide) (by decide)).trans ((St.kp h46 (by decide) (by decide) (by decide)).trans ((Wr.b w42 rfl).trans ((Wr.b w37 rfl).trans ((Wr.b w32 rfl).trans ((Wr.b w27 rfl).trans ((St.kp h22 (by decide) (by decide) (by decide)).trans w15.1)))))))), _, rfl, by omega, by omega, (fun _ => f89_Y15)⟩
      · refine Tr.aload_n (pc := 79) (i := 0) d_X5_read_79 rfl rfl ?_
        refine Tr.iconst (pc := 80) d_X5_read_80 (by decide) ?_
        refine Tr.callV (pc := 81) (as := [_]) d_X5_read_81 s_5_56 ok_X5_refuse rfl rfl (Nat.le_of_ble_eq_true rfl) (Nat.le_of_ble_eq_true rfl) (by decide) (ty_6 hS.1.1) ?_
        refine Tr.imp (Tr.deep (by decide) (sp_X5_refuse_6_w1 hS.1 ((St.kp h54 (by decide) (by decide) (by decide)).trans ((St.kp h46 (by decide) (by decide) (by decide)).trans ((Wr.b w42 rfl).trans ((Wr.b w37 rfl).trans ((Wr.b w32 rfl).trans ((Wr.b w27 rfl).trans ((St.kp h22 (by decide) (by decide) (by decide)).trans ((Wr.b w15 rfl).trans ((Wr.b w7 rfl).trans w2.1))))))))) 1 (by omega))) ?_
        rintro M81 _ ⟨h81, r81, rfl, lr81, ur81⟩
        have hS := St.tr hS h81 (by decide) (by decide)
        refine Tr.sc [(0, r81)] rfl ?_
        exact Tr.zret (pc := 84) d_X5_read_84 rfl (by omega) ⟨hS, ((St.kp h81 (by decide) (by decide) (by decide)).trans ((St.kp h54 (by decide) (by decide) (by decide)).trans ((St.kp h46 (by decide) (by decide) (by decide)).trans ((Wr.b w42 rfl).trans ((Wr.b w37 rfl).trans ((Wr.b w32 rfl).trans ((Wr.b w27 rfl).trans ((St.kp h22 (by decide) (by decide) (by decide)).trans ((Wr.b w15 rfl).trans ((Wr.b w7 rfl).trans w2.1)))))))))), ((St.kp h81 (by decide) (by decide) (by decide)).trans ((St.kp h54 (by decide) (by decide) (by decide)).trans ((St.kp h46 (by decide) (by decide) (by decide)).trans ((Wr.b w42 rfl).trans ((Wr.b w37 rfl).trans ((Wr.b w32 rfl).trans ((Wr.b w27 rfl).trans ((St.kp h22 (by decide) (by decide) (by decide)).trans ((Wr.b w15 rfl).trans w7.1))))))))), ((St.kp h81 (by decide) (by decide) (by decide)).trans ((St.kp h54 (by decide) (by decide) (by decide)).trans ((St.kp h46 (by decide) (by decide) (by decide)).trans ((Wr.b w42 rfl).trans ((Wr.b w37 rfl).trans ((Wr.b w32 rfl).trans ((Wr.b w27 rfl).trans ((St.kp h22 (by decide) (by decide) (by decide)).trans w15.1)))))))), _, rfl, by omega, by omega, (fun hv => absurd hv (by omega))⟩
    · refine Tr.iconst (pc := 62) d_X5_read_62 (by decide) ?_
      exact Tr.zret (pc := 63) d_X5_read_63 rfl (by omega) ⟨hS, ((St.kp h54 (by decide) (by decide) (by decide)).trans ((St.kp h46 (by decide) (by decide) (by decide)).trans ((Wr.b w42 rfl).trans ((Wr.b w37 rfl).trans ((Wr.b w32 rfl).trans ((Wr.b w27 rfl).trans ((St.kp h22 (by decide) (by decide) (by decide)).trans ((Wr.b w15 rfl).trans ((Wr.b w7 rfl).trans w2.1))))))))), ((St.kp h54 (by decide) (by decide) (by decide)).trans ((St.kp h46 (by decide) (by decide) (by decide)).trans ((Wr.b w42 rfl).trans ((Wr.b w37 rfl).trans ((Wr.b w32 rfl).trans ((Wr.b w27 rfl).trans ((St.kp h22 (by decide) (by decide) (by decide)).trans ((Wr.b w15 rfl).trans w7.1)))))))), ((St.kp h54 (by decide) (by decide) (by decide)).trans ((St.kp h46 (by decide) (by decide) (by decide)).trans ((Wr.b w42 rfl).trans ((Wr.b w37 rfl).trans ((Wr.b w32 rfl).trans ((Wr.b w27 rfl).trans ((St.kp h22 (by decide) (by decide) (by decide)).trans w15.1))))))), _, rfl, by omega, by omega, (fun hv => absurd hv (by omega))⟩

def ws_X11_text_0_w1 : List (Int × Int) := [(0, 1), (0, 4), (0, 5), (0, 9), (2, 3), (2, 4), (2, 5), (6, 0), (6, 1), (6, 2), (6, 3), (6, 4), (6, 5), (6, 6), (7, 0), (7, 1), (7, 2), (7, 3), (8, 0), (8, 1), (8, 2), (15, 0), (15, 11), (103, 0), (107, 0), (107, 1)]
def as_X11_text_0_w1 : List Int := [3, 4, 5, 8, 9, 10, 11, 12, 13, 14, 16, 17, 18, 19, 20, 21, 22, 23, 24, 25, 47]
def q_X11_text_0_w1 (M0 M' : Mem) (r : Option PV) : Prop := St Tru ws_X11_text_0_w1 as_X11_text_0_w1 M0 M' ∧ rd M' 2 4 = 1 ∧ rd M' 6 2 = 2 ∧ rd M' 6 3 = 7 ∧ rd M' 6 4 = 15 ∧ ∃ v : Int, r = some (0, v) ∧ (-1) ≤ v ∧ v ≤ 60 ∧ (rd M' 0 1 = 0) ∧ ((v = -1 ∧ rd M' 0 4 = 27 ∧ rd M' 0 5 = 7 ∧ rd M' 0 9 = rd M0 0 9) ∨ (0 ≤ v ∧ rd M' 0 4 = 7 ∧ rd M' 0 5 = 27 ∧ rd M' 0 9 = 0)) ∧ (0 ≤ v → Yn15 M')
set_option maxRecDepth 100000 in
set_option maxHeartbeats 4000000 in
theorem sp_X11_text_0_w1 {l : Launch} {K : EC} {M0 : Mem} {xq : Int} (hI : In Tru M0) (hE : e_all K xq) (en_0_4 : rd M0 0 4 = 27) (en_0_5 : rd M0 0 5 = 7)   : Tr l K 45 mX11_text 0 [(0, (2, 0))] [] M0 (q_X11_text_0_w1 M0) := by
  have hS : St Tru ws_X11_text_0_w1 as_X11_text_0_w1 M0 M0 := St.rf hI
  obtain ⟨g0_1, eg0_1⟩ : ∃ v, rd M0 0 1 = v := ⟨_, rfl⟩
  have bg0_1 : 0 ≤ g0_1 ∧ g0_1 ≤ 900 := by rw [← eg0_1]; exact ir_0_1 hI.2.1
  obtain ⟨g0_9, eg0_9⟩ : ∃ v, rd M0 0 9 = v := ⟨_, rfl⟩
  have bg0_9 : 0 ≤ g0_9 ∧ g0_9 ≤ 1 := by rw [← eg0_9]; exact ir_0_9 hI.2.1
  refine Tr.aload_n (pc := 0) (i := 0) d_X11_text_0 rfl rfl ?_
  refine Tr.getf (pc := 1) d_X11_text_1 f_11_16 (by decide) (by decide) (ty_0 hS.1.1) ?_
  refine Tr.tp 2 (fx_0_2 hS.1.1) ?_
  refine Tr.aload_n (pc := 4) (i := 0) d_X11_text_4 rfl rfl ?_
  refine Tr.getf (pc := 5) d_X11_text_5 f_11_9 (by decide) (by decide) (ty_0 hS.1.1) ?_
  refine Tr.tp 1 (fx_0_0 hS.1.1) ?_
  refine Tr.aload_n (pc := 8) (i := 0) d_X11_text_8 rfl rfl ?_
  refine Tr.getf (pc := 9) d_X11_text_9 f_11_84 (by decide) (by decide) (ty_0 hS.1.1) ?_
  refine Tr.tp g0_1 eg0_1 ?_
  refine Tr.callV (pc := 12) (as := [_, _]) d_X11_text_12 s_11_92 ok_X7_takeApart rfl rfl (Nat.le_of_ble_eq_true rfl) (Nat.le_of_ble_eq_true rfl) (by decide) (ty_2 hS.1.1) ?_
  refine Tr.imp (Tr.deep (by decide) (sp_X7_takeApart_2_1 hS.1 hE g0_1 (by omega))) ?_
  rintro M12 _ ⟨h12, o12_2_4, rfl⟩
  have hS := St.tr hS h12 (by decide) (by decide)
  refine Tr.sc [] rfl ?_
  refine Tr.aload_n (pc := 15) (i := 0) d_X11_text_15 rfl rfl ?_
  refine Tr.iconst (pc := 16) d_X11_text_16 (by decide) ?_
  refine Tr.putfS (pc := 17) (P := St Tru ws_X11_text_0_w1 as_X11_text_0_w1 M0) d_X11_text_17 f_11_84 (by decide) (by decide) (ty_0 hS.1.1) (st_0_1 hS (by decide) (by omega) trivial) (fun M17 hS w17 => ?_)
  refine Tr.aload_n (pc := 20) (i := 0) d_X11_text_20 rfl rfl ?_
  refine Tr.getf (pc := 21) d_X11_text_21 f_11_23 (by decide) (by decide) (ty_0 hS.1.1) ?_
  refine Tr.tp 6 (fx_0_3 hS.1.1) ?_
  refine Tr.aload_n (pc := 24) (i := 0) d_X11_text_24 rfl rfl ?_
  refine Tr.getf (pc := 25) d_X11_text_25 f_11_16 (by decide) (by decide) (ty_0 hS.1.1) ?_
  refine Tr.tp 2 (fx_0_2 hS.1.1) ?_
  refine Tr.aload_n (pc := 28) (i := 0) d_X11_text_28 rfl rfl ?_
  refine Tr.getf (pc := 29) d_X11_text_29 f_11_34 (by decide) (by decide) (ty_0 hS.1.1) ?_
  refine Tr.tp 7 ((Wr.b w17 rfl).trans ((St.kp h12 (by decide) (by decide) (by decide)).trans en_0_5)) ?_
  refine Tr.callV (pc := 32) (as := [_, _]) d_X11_text_32 s_11_96 ok_X5_read rfl rfl (Nat.le_of_ble_eq_true rfl) (Nat.le_of_ble_eq_true rfl) (by decide) (ty_6 hS.1.1) ?_
  refine Tr.imp (Tr.deep (by decide) (sp_X5_read_6_2_7 hS.1 hE )) ?_
  rintro M32 _ ⟨h32, o32_6_2, o32_6_3, o32_6_4, r32, rfl, lr32, ur32, f32_Y15⟩
  have hS := St.tr hS h32 (by decide) (by decide)
  refine Tr.sc [(0, r32)] rfl ?_
  refine Tr.if_ne (pc := 35) (tgt := 40) d_X11_text_35 rfl (fun c35 => ?_) (fun c35 => ?_)
  · refine Tr.aload_n (pc := 40) (i := 0) d_X11_text_40 rfl rfl ?_
    refine Tr.getf (pc := 41) d_X11_text_41 f_11_30 (by decide) (by decide) (ty_0 hS.1.1) ?_
    refine Tr.tp 27 ((St.kp h32 (by decide) (by decide) (by decide)).trans ((Wr.b w17 rfl).trans ((St.kp h12 (by decide) (by decide) (by decide)).trans en_0_4))) ?_
    refine Tr.astore_n (pc := 44) (i := 1) (ls2 := [(1, (2, 27)), (0, (2, 0))]) d_X11_text_44 rfl (by decide) rfl ?_
    refine Tr.aload_n (pc := 45) (i := 0) d_X11_text_45 rfl rfl ?_
    refine Tr.aload_n (pc := 46) (i := 0) d_X11_text_46 rfl rfl ?_
    refine Tr.getf (pc := 47) d_X11_text_47 f_11_34 (by decide) (by decide) (ty_0 hS.1.1) ?_
    refine Tr.tp 7 ((St.kp h32 (by decide) (by decide) (by decide)).trans ((Wr.b w17 rfl).trans ((St.kp h12 (by decide) (by decide) (by decide)).trans en_0_5))) ?_
    refine Tr.putfS (pc := 50) (P := St Tru ws_X11_text_0_w1 as_X11_text_0_w1 M0) d_X11_text_50 f_11_30 (by decide) (by decide) (ty_0 hS.1.1) (st_0_4 hS (by decide) (by omega) trivial) (fun M50 hS w50 => ?_)
    refine Tr.aload_n (pc := 53) (i := 0) d_X11_text_53 rfl rfl ?_
    refine Tr.aload_n (pc := 54) (i := 1) d_X11_text_54 rfl rfl ?_
    refine Tr.putfS (pc := 55) (P := St Tru ws_X11_text_0_w1 as_X11_text_0_w1 M0) d_X11_text_55 f_11_34 (by decide) (by decide) (ty_0 hS.1.1) (st_0_5 hS (by decide) (by omega) trivial) (fun M55 hS w55 => ?_)
    refine Tr.aload_n (pc := 58) (i := 0) d_X11_text_58 rfl rfl ?_
    refine Tr.getf (pc := 59) d_X11_text_59 f_11_30 (by decide) (by decide) (ty_0 hS.1.1) ?_
    refine Tr.tp 7 ((Wr.b w55 rfl).trans w50.1) ?_
    refine Tr.getf (pc := 62) d_X11_text_62 f_11_100 (by decide) (by decide) (ty_7 hS.1.1) ?_
    refine Tr.tp 12 (fx_7_8 hS.1.1) ?_
    refine Tr.iconst (pc := 65) d_X11_text_65 (by decide) ?_
    refine Tr.aload_n (pc := 66) (i := 0) d_X11_text_66 rfl rfl ?_
    refine Tr.getf (pc := 67) d_X11_text_67 f_11_37 (by decide) (by decide) (ty_0 hS.1.1) ?_
    refine Tr.tp 47 (fx_0_6 hS.1.1) ?_
    refine Tr.iconst (pc := 70) d_X11_text_70 (by decide) ?_
    refine Tr.iconst (pc := 71) d_X11_text_71 (by decide) ?_
    refine Tr.acopyS (pc := 72) (x := 12) (y := 47) (P := St Tru ws_X11_text_0_w1 as_X11_text_0_w1 M0) d_X11_text_72 ac_11_103 acw.1 acw.2.1 acw.2.2 (ty_12 hS.1.1) (ty_47 hS.1.1) (by omega) (by omega) (by omega) (by omega) (by omega) (Nat.le_of_ble_eq_true rfl) (sw_47 hS (by decide) rfl rfl rfl (fun z i hz => by rw [rd_cpy, if_neg (fun c => hz c.1)]) (fun i => by rw [rd_cpy]; split; exact And.intro (by have := ar_12 hS.1.2.1 (0 + (i - 0)); omega) (by have := ar_12 hS.1.2.1 (0 + (i - 0)); omega); exact ar_47 hS.1.2.1 i) trivial) (fun M72 hS w72 => ?_)
    refine Tr.aload_n (pc := 75) (i := 0) d_X11_text_75 rfl rfl ?_
    refine Tr.iconst (pc := 76) d_X11_text_76 (by decide) ?_
    refine Tr.putzS (pc := 77) (P := St Tru ws_X11_text_0_w1 as_X11_text_0_w1 M0) d_X11_text_77 f_11_109 (by decide) (ty_0 hS.1.1) (by omega) (st_0_9 hS (by decide) (by omega) trivial) (fun M77 hS w77 => ?_)
    refine Tr.aload_n (pc := 80) (i := 0) d_X11_text_80 rfl rfl ?_
    refine Tr.getf (pc := 81) d_X11_text_81 f_11_63 (by decide) (by decide) (ty_0 hS.1.1) ?_
    refine Tr.tp 103 (fx_0_11 hS.1.1) ?_
    refine Tr.callV (pc := 84) (as := []) d_X11_text_84 s_11_113 ok_X10_clear rfl rfl (Nat.le_of_ble_eq_true rfl) (Nat.le_of_ble_eq_true rfl) (by decide) (ty_103 hS.1.1) ?_
    refine Tr.imp (Tr.deep (by decide) (sp_X10_clear_103 hS.1 )) ?_
    rintro M84 _ ⟨h84, rfl⟩
    have hS := St.tr hS h84 (by decide) (by decide)
    refine Tr.sc [] rfl ?_
    refine Tr.aload_n (pc := 87) (i := 0) d_X11_text_87 rfl rfl ?_
    refine Tr.getf (pc := 88) d_X11_text_88 f_11_70 (by decide) (by decide) (ty_0 hS.1.1) ?_
    refine Tr.tp 107 (fx_0_12 hS.1.1) ?_
    refine Tr.callV (pc := 91) (as := []) d_X11_text_91 s_11_114 ok_X2_clear rfl rfl (Nat.le_of_ble_eq_true rfl) (Nat.le_of_ble_eq_true rfl) (by decide) (ty_107 hS.1.1) ?_
    refine Tr.imp (Tr.deep (by decide) (sp_X2_clear_107 hS.1 )) ?_
    rintro M91 _ ⟨h91, rfl⟩
    have hS := St.tr hS h91 (by decide) (by decide)
    refine Tr.sc [] rfl ?_
    refine Tr.aload_n (pc := 94) (i := 0) d_X11_text_94 rfl rfl ?_
    refine Tr.getf (pc := 95) d_X11_text_95 f_11_30 (by decide) (by decide) (ty_0 hS.1.1) ?_
    refine Tr.tp 7 ((St.kp h91 (by decide) (by decide) (by decide)).trans ((St.kp h84 (by decide) (by decide) (by decide)).trans ((Wr.b w77 rfl).trans ((Wa.b w72 rfl).trans ((Wr.b w55 rfl).trans w50.1))))) ?_
    refine Tr.getf (pc := 98) d_X11_text_98 f_11_115 (by decide) (by decide) (ty_7 hS.1.1) ?_
    refine Tr.tp 15 (fx_7_11 hS.1.1) ?_
    refine Tr.getf (pc := 101) d_X11_text_101 f_11_119 (by decide) (by decide) (ty_15 hS.1.1) ?_
    refine Tr.gen (P := fun v => 0 ≤ v ∧ v ≤ 60) (ir_15_0 hS.1.2.1) (fun r101 er101 br101 => ?_)
    have kr_0_1 : rd M91 0 1 = 0 := ((St.kp h91 (by decide) (by decide) (by decide)).trans ((St.kp h84 (by decide) (by decide) (by decide)).trans ((Wr.b w77 rfl).trans ((Wa.b w72 rfl).trans ((Wr.b w55 rfl).trans ((Wr.b w50 rfl).trans ((St.kp h32 (by decide) (by decide) (by decide)).trans w17.1)))))))
    have kr_0_4 : rd M91 0 4 = 7 := ((St.kp h91 (by decide) (by decide) (by decide)).trans ((St.kp h84 (by decide) (by decide) (by decide)).trans ((Wr.b w77 rfl).trans ((Wa.b w72 rfl).trans ((Wr.b w55 rfl).trans w50.1)))))
    have kr_0_5 : rd M91 0 5 = 27 := ((St.kp h91 (by decide) (by decide) (by decide)).trans ((St.kp h84 (by decide) (by decide) (by decide)).trans ((Wr.b w77 rfl).trans ((Wa.b w72 rfl).trans w55.1))))
    have kr_0_9 : rd M91 0 9 = 0 := ((St.kp h91 (by decide) (by decide) (by decide)).trans ((St.kp h84 (by decide) (by decide) (by decide)).trans w77.1))
    exact Tr.iret (pc := 104) d_X11_text_104 rfl ⟨hS, ((St.kp h91 (by decide) (by decide) (by decide)).trans ((St.kp h84 (by decide) (by decide) (by decide)).trans ((Wr.b w77 rfl).trans ((Wa.b w72 rfl).trans ((Wr.b w55 rfl).trans ((Wr.b w50 rfl).trans ((St.kp h32 (by decide) (by decide) (by decide)).trans ((Wr.b w17 rfl).trans o12_2_4)))))))), ((St.kp h91 (by decide) (by decide) (by decide)).trans ((St.kp h84 (by decide) (by decide) (by decide)).trans ((Wr.b w77 rfl).trans ((Wa.b w72 rfl).trans ((Wr.b w55 rfl).trans ((Wr.b w50 rfl).trans o32_6_2)))))), ((St.kp h91 (by decide) (by decide) (by decide)).trans ((St.kp h84 (by decide) (by decide) (by decide)).trans ((Wr.b w77 rfl).trans ((Wa.b w72 rfl).trans ((Wr.b w55 rfl).trans ((Wr.b w50 rfl).trans o32_6_3)))))), ((St.kp h91 (by decide) (by decide) (by decide)).trans ((St.kp h84 (by decide) (by decide) (by decide)).trans ((Wr.b w77 rfl).trans ((Wa.b w72 rfl).trans ((Wr.b w55 rfl).trans ((Wr.b w50 rfl).trans o32_6_4)))))), _, rfl, by omega, by omega, by omega, by omega, (fun _ => (Yn15.of (f32_Y15 (by omega)) (fun j => ((St.ka h91 (by decide) (by decide) (by decide)).trans ((St.ka h84 (by decide) (by decide) (by decide)).trans ((Wr.b w77 rfl).trans ((Wa.b w72 rfl).trans ((Wr.b w55 rfl).trans ((Wr.b w50 rfl).trans rfl))))))) (fun j => ((St.ka h91 (by decide) (by decide) (by decide)).trans ((St.ka h84 (by decide) (by decide) (by decide)).trans ((Wr.b w77 rfl).trans ((Wa.b w72 rfl).trans ((Wr.b w55 rfl).trans ((Wr.b w50 rfl).trans rfl))))))) ((St.kp h91 (by decide) (by decide) (by decide)).trans ((St.kp h84 (by decide) (by decide) (by decide)).trans ((Wr.b w77 rfl).trans ((Wa.b w72 rfl).trans ((Wr.b w55 rfl).trans ((Wr.b w50 rfl).trans rfl))))))))⟩
  · refine Tr.iconst (pc := 38) d_X11_text_38 (by decide) ?_
    have kr_0_1 : rd M32 0 1 = 0 := ((St.kp h32 (by decide) (by decide) (by decide)).trans w17.1)
    have kr_0_4 : rd M32 0 4 = 27 := ((St.kp h32 (by decide) (by decide) (by decide)).trans ((Wr.b w17 rfl).trans ((St.kp h12 (by decide) (by decide) (by decide)).trans en_0_4)))
    have kr_0_5 : rd M32 0 5 = 7 := ((St.kp h32 (by decide) (by decide) (by decide)).trans ((Wr.b w17 rfl).trans ((St.kp h12 (by decide) (by decide) (by decide)).trans en_0_5)))
    have kr_0_9 : rd M32 0 9 = g0_9 := ((St.kp h32 (by decide) (by decide) (by decide)).trans ((Wr.b w17 rfl).trans ((St.kp h12 (by decide) (by decide) (by decide)).trans eg0_9)))
    exact Tr.iret (pc := 39) d_X11_text_39 rfl ⟨hS, ((St.kp h32 (by decide) (by decide) (by decide)).trans ((Wr.b w17 rfl).trans o12_2_4)), o32_6_2, o32_6_3, o32_6_4, _, rfl, by omega, by omega, by omega, by omega, (fun hv => absurd hv (by omega))⟩
end
/-! 50.keep -/
section
/-! what holds between the calls -/
section
variable {l : Launch} {K : EC} {d : Nat} {m : MD} {pc : Nat} {ls : List (Nat × PV)} {st : List PV} {M : Mem} {Q : Mem → Option PV → Prop}
theorem Tr.pop2l {v : PV} (hd : decode m.2.2.1 pc = .ok (.pop2, 1)) (hv : v.1 = 1) (k : Tr l K d m (pc + 1) ls st M Q) : Tr l K d m pc ls (v :: st) M Q :=
  Tr.up (fun _ _ => Ends.sk (fun hM hst hls => oks_t hst) (fun p e R s mid args below meth c H locs cells slots lsA Q hX hf hg hR hM hst hls hS hlv k => lv_pop2_2 (va := e_val K v) hX.1 hX.2.1 hd (by rw [e_vcat]; unfold e_ct; rw [if_pos hv]) k)) k
end
def FrX (M M' : Mem) : Prop := ∀ y j : Int, 120 ≤ y → y < 191 → rd M' y j = rd M y j
def FrM (M M' : Mem) : Prop := ∀ y j : Int, y < 120 ∨ 191 ≤ y → rd M' y j = rd M y j
def XI (M : Mem) : Prop := TW M ∧ ((rd M 0 4 = 7 ∧ rd M 0 5 = 27 ∧ Yn15 M ∧ (rd M 0 9 = 1 → rd M 56 1 = 7)) ∨ (rd M 0 4 = 27 ∧ rd M 0 5 = 7 ∧ Yn35 M ∧ (rd M 0 9 = 1 → rd M 56 1 = 27)))
def MI (M : Mem) : Prop := rd M 120 59 = -1 ∧ ((rd M 120 12 = 0 ∧ Bk0 M) ∨ (rd M 120 12 = 1 ∧ Bk1 M))
def LI (M : Mem) : Prop := In Tru M ∧ XI M ∧ MI M ∧ rd M 0 1 = rd M 120 1 ∧ rd M 113 0 = rd M 120 113
section
variable {q : Mem → Prop} {ws : List (Int × Int)} {as : List Int} {M M' : Mem}
def cX (ws : List (Int × Int)) (as : List Int) : Bool := as.all (fun x => decide (x < 120 ∨ x = 191)) && ws.all (fun c => decide (c.1 < 120))
def cM (ws : List (Int × Int)) (as : List Int) : Bool := as.all (fun x => decide (120 ≤ x ∧ x < 191)) && ws.all (fun c => decide (120 ≤ c.1))
def cR (xs : List Int) (ws : List (Int × Int)) (as : List Int) : Bool := as.all (fun a => xs.all (fun x => decide (a ≠ x))) && ws.all (fun c => xs.all (fun x => decide (c.1 ≠ x)))
theorem St.kr {xs : List Int} (hs : St q ws as M M') (hc : cR xs ws as = true) {x : Int} (hx : x ∈ xs) (h9 : x < 191) (j : Int) : rd M' x j = rd M x j := by
  unfold cR at hc
  rw [Bool.and_eq_true] at hc
  refine hs.2.1 x j h9 (fun c => ?_) (fun c => ?_)
  · exact of_decide_eq_true (List.all_eq_true.mp (List.all_eq_true.mp hc.1 x c) x hx) rfl
  · exact of_decide_eq_true (List.all_eq_true.mp (List.all_eq_true.mp hc.2 (x, j) c) x hx) rfl
theorem St.fx (hs : St q ws as M M') (hc : cX ws as = true) : FrX M M' := by
  unfold cX at hc
  rw [Bool.and_eq_true] at hc
  intro y j h0 h1
  refine hs.2.1 y j h1 (fun c => ?_) (fun c => ?_)
  · have h : y < 120 ∨ y = 191 := of_decide_eq_true (List.all_eq_true.mp hc.1 y c)
    omega
  · have h : y < 120 := of_decide_eq_true (List.all_eq_true.mp hc.2 (y, j) c)
    omega
theorem St.fm (hs : St q ws as M M') (hc : cM ws as = true) : FrM M M' := by
  unfold cM at hc
  rw [Bool.and_eq_true] at hc
  intro y j hy
  rcases Int.lt_or_le y 191 with h9 | h9
  · refine hs.2.1 y j h9 (fun c => ?_) (fun c => ?_)
    · have h : 120 ≤ y ∧ y < 191 := of_decide_eq_true (List.all_eq_true.mp hc.1 y c)
      omega
    · have h : 120 ≤ y := of_decide_eq_true (List.all_eq_true.mp hc.2 (y, j) c)
      omega
  · refine hs.2.2 (fun c => ?_) y j h9
    have h : (120 : Int) ≤ 191 ∧ (191 : Int) < 191 := of_decide_eq_true (List.all_eq_true.mp hc.1 191 c)
    omega
def cXY (ws : List (Int × Int)) (as : List Int) : Bool := cR [15, 19, 20, 35, 39, 40] ws as && (as.all (fun x => decide (x ≠ 0 ∧ x ≠ 56)) && ws.all (fun c => decide (c ≠ (0, 4) ∧ c ≠ (0, 5) ∧ c ≠ (0, 9) ∧ c ≠ (56, 1))))
theorem cXY_a (hc : cXY ws as = true) : cR [15, 19, 20, 35, 39, 40] ws as = true ∧ (∀ x ∈ as, x ≠ 0 ∧ x ≠ 56) ∧ ∀ c ∈ ws, c ≠ (0, 4) ∧ c ≠ (0, 5) ∧ c ≠ (0, 9) ∧ c ≠ (56, 1) := by
  unfold cXY at hc
  rw [Bool.and_eq_true, Bool.and_eq_true] at hc
  exact ⟨hc.1, fun x hx => of_decide_eq_true (List.all_eq_true.mp hc.2.1 x hx), fun c hx => of_decide_eq_true (List.all_eq_true.mp hc.2.2 c hx)⟩
theorem XI.st2 (h : XI M) (hs : St q ws as M M') (hc : cXY ws as = true) (ht : TW M') : XI M' := by
  obtain ⟨h1, h2, h3⟩ := cXY_a hc
  have e4 : rd M' 0 4 = rd M 0 4 := St.kp hs (by decide) (fun c => (h2 _ c).1 rfl) (fun c => (h3 _ c).1 rfl)
  have e5 : rd M' 0 5 = rd M 0 5 := St.kp hs (by decide) (fun c => (h2 _ c).1 rfl) (fun c => (h3 _ c).2.1 rfl)
  have e9 : rd M' 0 9 = rd M 0 9 := St.kp hs (by decide) (fun c => (h2 _ c).1 rfl) (fun c => (h3 _ c).2.2.1 rfl)
  have e6 : rd M' 56 1 = rd M 56 1 := St.kp hs (by decide) (fun c => (h2 _ c).2 rfl) (fun c => (h3 _ c).2.2.2 rfl)
  refine ⟨ht, ?_⟩
  rw [e4, e5, e9, e6]
  rcases h.2 with ⟨a, b, c, d⟩ | ⟨a, b, c, d⟩
  · exact Or.inl ⟨a, b, c.of (fun j => St.kr hs h1 (by decide) (by decide) j) (fun j => St.kr hs h1 (by decide) (by decide) j) (St.kr hs h1 (by decide) (by decide) 0), d⟩
  · exact Or.inr ⟨a, b, c.of (fun j => St.kr hs h1 (by decide) (by decide) j) (fun j => St.kr hs h1 (by decide) (by decide) j) (St.kr hs h1 (by decide) (by decide) 0), d⟩
theorem XI.st (h : XI M) (hs : St q ws as M M') (hc : cXY ws as = true) (hT : chT ws as = true) : XI M' := XI.st2 h hs hc (h.1.st hs hT)
theorem XI.tx7 (h : XI M) (e05 : rd M 0 5 = 27) (hy : Yn15 M) (e56 : rd M 0 9 = 1 → rd M 56 1 = 7) (hs : St q ws as M M') (hT : chT ws as = true) (hc : cR [15, 19, 20, 56] ws as = true) {v : Int} (hz : (v = -1 ∧ rd M' 0 4 = 7 ∧ rd M' 0 5 = 27 ∧ rd M' 0 9 = rd M 0 9) ∨ (0 ≤ v ∧ rd M' 0 4 = 27 ∧ rd M' 0 5 = 7 ∧ rd M' 0 9 = 0)) (hn : 0 ≤ v → Yn35 M') : XI M' := by
  refine ⟨h.1.st hs hT, ?_⟩
  rcases hz with ⟨_, z1, z2, z3⟩ | ⟨z0, z1, z2, z3⟩
  · exact Or.inl ⟨z1, z2, hy.of (fun j => St.kr hs hc (by decide) (by decide) j) (fun j => St.kr hs hc (by decide) (by decide) j) (St.kr hs hc (by decide) (by decide) 0), fun c => (St.kr hs hc (by decide) (by decide) 1).trans (e56 (z3.symm.trans c))⟩
  · exact Or.inr ⟨z1, z2, hn z0, fun c => by rw [z3] at c; cases c⟩
theorem XI.tx27 (h : XI M) (e05 : rd M 0 5 = 7) (hy : Yn35 M) (e56 : rd M 0 9 = 1 → rd M 56 1 = 27) (hs : St q ws as M M') (hT : chT ws as = true) (hc : cR [35, 39, 40, 56] ws as = true) {v : Int} (hz : (v = -1 ∧ rd M' 0 4 = 27 ∧ rd M' 0 5 = 7 ∧ rd M' 0 9 = rd M 0 9) ∨ (0 ≤ v ∧ rd M' 0 4 = 7 ∧ rd M' 0 5 = 27 ∧ rd M' 0 9 = 0)) (hn : 0 ≤ v → Yn15 M') : XI M' := by
  refine ⟨h.1.st hs hT, ?_⟩
  rcases hz with ⟨_, z1, z2, z3⟩ | ⟨z0, z1, z2, z3⟩
  · exact Or.inr ⟨z1, z2, hy.of (fun j => St.kr hs hc (by decide) (by decide) j) (fun j => St.kr hs hc (by decide) (by decide) j) (St.kr hs hc (by decide) (by decide) 0), fun c => (St.kr hs hc (by decide) (by decide) 1).trans (e56 (z3.symm.trans c))⟩
  · exact Or.inl ⟨z1, z2, hn z0, fun c => by rw [z3] at c; cases c⟩
theorem XI.rn7 (e04 : rd M 0 4 = 7) (e05 : rd M 0 5 = 27) (hy : Yn15 M) (hs : St q ws as M M') (hc : cR [15, 19, 20] ws as = true) (h2 : (0, 4) ∉ ws ∧ (0, 5) ∉ ws ∧ 0 ∉ as) (z9 : rd M' 0 9 = 1) (z56 : rd M' 56 1 = 7) (zw : rd M' 100 3 = -1) : XI M' :=
  ⟨Or.inl zw, Or.inl ⟨(St.kp hs (by decide) h2.2.2 h2.1).trans e04, (St.kp hs (by decide) h2.2.2 h2.2.1).trans e05, hy.of (fun j => St.kr hs hc (by decide) (by decide) j) (fun j => St.kr hs hc (by decide) (by decide) j) (St.kr hs hc (by decide) (by decide) 0), fun _ => z56⟩⟩
theorem XI.rn27 (e04 : rd M 0 4 = 27) (e05 : rd M 0 5 = 7) (hy : Yn35 M) (hs : St q ws as M M') (hc : cR [35, 39, 40] ws as = true) (h2 : (0, 4) ∉ ws ∧ (0, 5) ∉ ws ∧ 0 ∉ as) (z9 : rd M' 0 9 = 1) (z56 : rd M' 56 1 = 27) (zw : rd M' 100 3 = -1) : XI M' :=
  ⟨Or.inl zw, Or.inr ⟨(St.kp hs (by decide) h2.2.2 h2.1).trans e04, (St.kp hs (by decide) h2.2.2 h2.2.1).trans e05, hy.of (fun j => St.kr hs hc (by decide) (by decide) j) (fun j => St.kr hs hc (by decide) (by decide) j) (St.kr hs hc (by decide) (by decide) 0), fun _ => z56⟩⟩
theorem XI.fr (h : XI M) (hI : In Tru M) (f : FrM M M') : XI M' := by
  have g : ∀ y j : Int, y < 120 → rd M' y j = rd M y j := fun y j hy => f y j (Or.inl hy)
  refine ⟨?_, ?_⟩
  · have hu := tl_u (St.rf (ws := []) (as := []) hI)
    unfold TW
    rw [g 100 3 (by decide), g 100 2 (by decide), g 63 5 (by decide), f (rd M 63 5) _ (by omega)]
    exact h.1
  · rw [g 0 4 (by decide), g 0 5 (by decide), g 0 9 (by decide), g 56 1 (by decide)]
    rcases h.2 with ⟨a, b, c, d⟩ | ⟨a, b, c, d⟩
    · exact Or.inl ⟨a, b, c.of (fun j => g _ j (by decide)) (fun j => g _ j (by decide)) (g _ _ (by decide)), d⟩
    · exact Or.inr ⟨a, b, c.of (fun j => g _ j (by decide)) (fun j => g _ j (by decide)) (g _ _ (by decide)), d⟩
def cMY (ws : List (Int × Int)) (as : List Int) : Bool := cR [131, 137, 138, 139, 140, 141, 142, 143, 126, 136, 123, 124] ws as && (as.all (fun x => decide (x ≠ 120)) && ws.all (fun c => decide (c ≠ (120, 12))))
theorem MI.st (h : MI M) (hs : St q ws as M M') (hc : cMY ws as = true) (hb : rd M' 120 59 = -1) : MI M' := by
  unfold cMY at hc
  rw [Bool.and_eq_true, Bool.and_eq_true] at hc
  have e : rd M' 120 12 = rd M 120 12 := St.kp hs (by decide) (fun c => of_decide_eq_true (List.all_eq_true.mp hc.2.1 _ c) rfl) (fun c => of_decide_eq_true (List.all_eq_true.mp hc.2.2 _ c) rfl)
  refine ⟨hb, ?_⟩
  rw [e]
  have g := fun (x : Int) (hx : x ∈ ([131, 137, 138, 139, 140, 141, 142, 143, 126, 136, 123, 124] : List Int)) (h9 : x < 191) (j : Int) => St.kr hs hc.1 hx h9 j
  rcases h.2 with ⟨a, b⟩ | ⟨a, b⟩
  · exact Or.inl ⟨a, b.of (g _ (by decide) (by decide)) (g _ (by decide) (by decide)) (g _ (by decide) (by decide)) (g _ (by decide) (by decide)) (g _ (by decide) (by decide)) (g _ (by decide) (by decide)) (g _ (by decide) (by decide)) (g _ (by decide) (by decide)) (g _ (by decide) (by decide) _) (g _ (by decide) (by decide) _) (g _ (by decide) (by decide) _) (g _ (by decide) (by decide) _)⟩
  · exact Or.inr ⟨a, b.of (g _ (by decide) (by decide)) (g _ (by decide) (by decide)) (g _ (by decide) (by decide)) (g _ (by decide) (by decide)) (g _ (by decide) (by decide)) (g _ (by decide) (by decide)) (g _ (by decide) (by decide)) (g _ (by decide) (by decide)) (g _ (by decide) (by decide) _) (g _ (by decide) (by decide) _) (g _ (by decide) (by decide) _) (g _ (by decide) (by decide) _)⟩
theorem MI.tx0 {v : Int} (hb : rd M' 120 59 = -1) (h : (v = -1 ∧ rd M' 120 12 = 0 ∧ Bk0 M') ∨ (0 ≤ v ∧ rd M' 120 12 = 1 ∧ Bk1 M')) : MI M' := ⟨hb, h.imp (fun c => c.2) (fun c => c.2)⟩
theorem MI.tx1 {v : Int} (hb : rd M' 120 59 = -1) (h : (v = -1 ∧ rd M' 120 12 = 1 ∧ Bk1 M') ∨ (0 ≤ v ∧ rd M' 120 12 = 0 ∧ Bk0 M')) : MI M' := ⟨hb, h.symm.imp (fun c => c.2) (fun c => c.2)⟩
theorem MI.fr (h : MI M) (f : FrX M M') : MI M' := by
  refine ⟨(f 120 59 (by decide) (by decide)).trans h.1, ?_⟩
  rw [f 120 12 (by decide) (by decide)]
  have g := fun (x : Int) (h0 : 120 ≤ x) (h9 : x < 191) (j : Int) => f x j h0 h9
  rcases h.2 with ⟨a, b⟩ | ⟨a, b⟩
  · exact Or.inl ⟨a, b.of (g _ (by decide) (by decide)) (g _ (by decide) (by decide)) (g _ (by decide) (by decide)) (g _ (by decide) (by decide)) (g _ (by decide) (by decide)) (g _ (by decide) (by decide)) (g _ (by decide) (by decide)) (g _ (by decide) (by decide)) (g _ (by decide) (by decide) _) (g _ (by decide) (by decide) _) (g _ (by decide) (by decide) _) (g _ (by decide) (by decide) _)⟩
  · exact Or.inr ⟨a, b.of (g _ (by decide) (by decide)) (g _ (by decide) (by decide)) (g _ (by decide) (by decide)) (g _ (by decide) (by decide)) (g _ (by decide) (by decide)) (g _ (by decide) (by decide)) (g _ (by decide) (by decide)) (g _ (by decide) (by decide)) (g _ (by decide) (by decide) _) (g _ (by decide) (by decide) _) (g _ (by decide) (by decide) _) (g _ (by decide) (by decide) _)⟩
end
end
