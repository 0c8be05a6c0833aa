def ws_X11_has_0_w1 : List (Int × Int) := []
def as_X11_has_0_w1 : List Int := []
def q_X11_has_0_w1 (M0 M' : Mem) (r : Option PV) : Prop := St Tru ws_X11_has_0_w1 as_X11_has_0_w1 M0 M' ∧ ∃ v : Int, r = some (0, v) ∧ (-1) ≤ v ∧ v ≤ 60
set_option maxRecDepth 100000 in
set_option maxHeartbeats 4000000 in
theorem sp_X11_has_0_w1 {l : Launch} {K : EC} {M0 : Mem} (hI : In Tru M0) (en_0_4 : rd M0 0 4 = 27) (a1 : Int) (ha1 : (-2147483648) ≤ a1 ∧ a1 ≤ 2147483647)  : Tr l K 0 mX11_has 0 [(0, (2, 0)), (1, (0, a1))] [] M0 (q_X11_has_0_w1 M0) := by
  have hS : St Tru ws_X11_has_0_w1 as_X11_has_0_w1 M0 M0 := St.rf hI
  refine Tr.iload_n (pc := 0) (i := 1) d_X11_has_0 rfl rfl ?_
  rcases (show (a1 < 0 ∨ 5 < a1) ∨ a1 = 0 ∨ a1 = 1 ∨ a1 = 2 ∨ a1 = 3 ∨ a1 = 4 ∨ a1 = 5 by omega) with c1 | c1 | c1 | c1 | c1 | c1 | c1
  · refine Tr.tswOut (pc := 1) (tgt := 77) d_X11_has_1 c1 rfl ?_
    refine Tr.iconst (pc := 77) d_X11_has_77 (by decide) ?_
    exact Tr.iret (pc := 78) d_X11_has_78 rfl ⟨hS, _, rfl, by omega, by omega⟩
  · refine Tr.tp 0 c1 ?_
    refine Tr.tswIn (pc := 1) (off := 39) (tgt := 40) d_X11_has_1 (by decide) (by decide) rfl rfl ?_
    refine Tr.aload_n (pc := 40) (i := 0) d_X11_has_40 rfl rfl ?_
    refine Tr.getf (pc := 41) d_X11_has_41 f_11_30 (by decide) (by decide) (ty_0 hS.1.1) ?_
    refine Tr.tp 27 ((St.kp hS (by decide) (by decide) (by decide)).trans en_0_4) ?_
    refine Tr.getf (pc := 44) d_X11_has_44 f_11_130 (by decide) (by decide) (ty_27 hS.1.1) ?_
    refine Tr.tp 28 (fx_27_4 hS.1.1) ?_
    refine Tr.iload_n (pc := 47) (i := 1) d_X11_has_47 rfl rfl ?_
    refine Tr.tp 0 (by omega) ?_
    refine Tr.iald (pc := 48) d_X11_has_48 (ty_28 hS.1.1) (by omega) (by omega) ?_
    refine Tr.gen (P := fun v => 0 ≤ v ∧ v ≤ 6) (ir_28_0 hS.1.2.1) (fun r48 er48 br48 => ?_)
    exact Tr.iret (pc := 49) d_X11_has_49 rfl ⟨hS, _, rfl, by omega, by omega⟩
  · refine Tr.tp 1 c1 ?_
    refine Tr.tswIn (pc := 1) (off := 39) (tgt := 40) d_X11_has_1 (by decide) (by decide) rfl rfl ?_
    refine Tr.aload_n (pc := 40) (i := 0) d_X11_has_40 rfl rfl ?_
    refine Tr.getf (pc := 41) d_X11_has_41 f_11_30 (by decide) (by decide) (ty_0 hS.1.1) ?_
    refine Tr.tp 27 ((St.kp hS (by decide) (by decide) (by decide)).trans en_0_4) ?_
    refine Tr.getf (pc := 44) d_X11_has_44 f_11_130 (by decide) (by decide) (ty_27 hS.1.1) ?_
    refine Tr.tp 28 (fx_27_4 hS.1.1) ?_
    refine Tr.iload_n (pc := 47) (i := 1) d_X11_has_47 rfl rfl ?_
    refine Tr.tp 1 (by omega) ?_
    refine Tr.iald (pc := 48) d_X11_has_48 (ty_28 hS.1.1) (by omega) (by omega) ?_
    refine Tr.gen (P := fun v => 0 ≤ v ∧ v ≤ 3) (ir_28_1 hS.1.2.1) (fun r48 er48 br48 => ?_)
    exact Tr.iret (pc := 49) d_X11_has_49 rfl ⟨hS, _, rfl, by omega, by omega⟩
  · refine Tr.tp 2 c1 ?_
    refine Tr.tswIn (pc := 1) (off := 39) (tgt := 40) d_X11_has_1 (by decide) (by decide) rfl rfl ?_
    refine Tr.aload_n (pc := 40) (i := 0) d_X11_has_40 rfl rfl ?_
    refine Tr.getf (pc := 41) d_X11_has_41 f_11_30 (by decide) (by decide) (ty_0 hS.1.1) ?_
    refine Tr.tp 27 ((St.kp hS (by decide) (by decide) (by decide)).trans en_0_4) ?_
    refine Tr.getf (pc := 44) d_X11_has_44 f_11_130 (by decide) (by decide) (ty_27 hS.1.1) ?_
    refine Tr.tp 28 (fx_27_4 hS.1.1) ?_
    refine Tr.iload_n (pc := 47) (i := 1) d_X11_has_47 rfl rfl ?_
    refine Tr.tp 2 (by omega) ?_
    refine Tr.iald (pc := 48) d_X11_has_48 (ty_28 hS.1.1) (by omega) (by omega) ?_
    refine Tr.gen (P := fun v => 0 ≤ v ∧ v ≤ 6) (ir_28_2 hS.1.2.1) (fun r48 er48 br48 => ?_)
    exact Tr.iret (pc := 49) d_X11_has_49 rfl ⟨hS, _, rfl, by omega, by omega⟩
  · refine Tr.tp 3 c1 ?_
    refine Tr.tswIn (pc := 1) (off := 49) (tgt := 50) d_X11_has_1 (by decide) (by decide) rfl rfl ?_
    refine Tr.aload_n (pc := 50) (i := 0) d_X11_has_50 rfl rfl ?_
    refine Tr.getf (pc := 51) d_X11_has_51 f_11_30 (by decide) (by decide) (ty_0 hS.1.1) ?_
    refine Tr.tp 27 ((St.kp hS (by decide) (by decide) (by decide)).trans en_0_4) ?_
    refine Tr.getf (pc := 54) d_X11_has_54 f_11_115 (by decide) (by decide) (ty_27 hS.1.1) ?_
    refine Tr.tp 35 (fx_27_11 hS.1.1) ?_
    refine Tr.getf (pc := 57) d_X11_has_57 f_11_119 (by decide) (by decide) (ty_35 hS.1.1) ?_
    refine Tr.gen (P := fun v => 0 ≤ v ∧ v ≤ 60) (ir_35_0 hS.1.2.1) (fun r57 er57 br57 => ?_)
    exact Tr.iret (pc := 60) d_X11_has_60 rfl ⟨hS, _, rfl, by omega, by omega⟩
  · refine Tr.tp 4 c1 ?_
    refine Tr.tswIn (pc := 1) (off := 60) (tgt := 61) d_X11_has_1 (by decide) (by decide) rfl rfl ?_
    refine Tr.aload_n (pc := 61) (i := 0) d_X11_has_61 rfl rfl ?_
    refine Tr.getf (pc := 62) d_X11_has_62 f_11_70 (by decide) (by decide) (ty_0 hS.1.1) ?_
    refine Tr.tp 107 (fx_0_12 hS.1.1) ?_
    refine Tr.getf (pc := 65) d_X11_has_65 f_11_133 (by decide) (by decide) (ty_107 hS.1.1) ?_
    refine Tr.gen (P := fun v => 0 ≤ v ∧ v ≤ 12) (ir_107_0 hS.1.2.1) (fun r65 er65 br65 => ?_)
    exact Tr.iret (pc := 68) d_X11_has_68 rfl ⟨hS, _, rfl, by omega, by omega⟩
  · refine Tr.tp 5 c1 ?_
    refine Tr.tswIn (pc := 1) (off := 68) (tgt := 69) d_X11_has_1 (by decide) (by decide) rfl rfl ?_
    refine Tr.aload_n (pc := 69) (i := 0) d_X11_has_69 rfl rfl ?_
    refine Tr.getf (pc := 70) d_X11_has_70 f_11_77 (by decide) (by decide) (ty_0 hS.1.1) ?_
    refine Tr.tp 113 (fx_0_13 hS.1.1) ?_
    refine Tr.getf (pc := 73) d_X11_has_73 f_11_136 (by decide) (by decide) (ty_113 hS.1.1) ?_
    refine Tr.gen (P := fun v => 0 ≤ v ∧ v ≤ 6) (ir_113_0 hS.1.2.1) (fun r73 er73 br73 => ?_)
    exact Tr.iret (pc := 76) d_X11_has_76 rfl ⟨hS, _, rfl, by omega, by omega⟩

def ws_X3_letterOf_27 : List (Int × Int) := []
def as_X3_letterOf_27 : List Int := []
def q_X3_letterOf_27 (M0 M' : Mem) (r : Option PV) : Prop := St Tru ws_X3_letterOf_27 as_X3_letterOf_27 M0 M' ∧ ∃ v : Int, r = some (0, v) ∧ (-2147483648) ≤ v ∧ v ≤ 2147483647
set_option maxRecDepth 100000 in
set_option maxHeartbeats 4000000 in
theorem sp_X3_letterOf_27 {l : Launch} {K : EC} {M0 : Mem} {xq : Int} (hI : In Tru M0) (hE : e_all K xq)  (a1 : Int) (ha1 : 0 ≤ a1 ∧ a1 ≤ 2) (a2 : Int) (ha2 : 0 ≤ a2 ∧ a2 ≤ 5) (a3 : Int) (ha3 : (-2147483648) ≤ a3 ∧ a3 ≤ 2147483647)  : Tr l K 0 mX3_letterOf 0 [(0, (2, 27)), (1, (0, a1)), (2, (0, a2)), (3, (0, a3))] [] M0 (q_X3_letterOf_27 M0) := by
  have hS : St Tru ws_X3_letterOf_27 as_X3_letterOf_27 M0 M0 := St.rf hI
  refine Tr.aload_n (pc := 0) (i := 0) d_X3_letterOf_0 rfl rfl ?_
  refine Tr.getf (pc := 1) d_X3_letterOf_1 f_3_30 (by decide) (by decide) (ty_27 hS.1.1) ?_
  refine Tr.tp 34 (fx_27_10 hS.1.1) ?_
  refine Tr.gets (pc := 4) d_X3_letterOf_4 sl_3_65 hE.2.2.2.2.1 ?_
  refine Tr.iload_n (pc := 7) (i := 1) d_X3_letterOf_7 rfl rfl ?_
  refine Tr.xld (pc := 8) (i := 2) d_X3_letterOf_8 rfl hE.2.1 (by omega) (by omega) ?_
  refine Tr.gen (P := fun v => 0 ≤ v ∧ v ≤ 9) (xT_b (q := xr_2) (by decide +kernel) (by decide) _) (fun r8 er8 br8 => ?_)
  refine Tr.iload_n (pc := 9) (i := 2) d_X3_letterOf_9 rfl rfl ?_
  refine Tr.iadd (pc := 10) d_X3_letterOf_10 ?_
  refine Tr.tp (a2 + r8) ((w32_id (by omega)).trans (by omega)) ?_
  refine Tr.iald (pc := 11) d_X3_letterOf_11 (ty_34 hS.1.1) (by omega) (by omega) ?_
  refine Tr.gen (P := fun v => (-2147483648) ≤ v ∧ v ≤ 2147483647) (ar_34 hS.1.2.1 _) (fun r11 er11 br11 => ?_)
  refine Tr.istore (pc := 12) (i := 4) (ls2 := [(4, (0, r11)), (0, (2, 27)), (1, (0, a1)), (2, (0, a2)), (3, (0, a3))]) d_X3_letterOf_12 (by decide) rfl ?_
  refine Tr.iconst (pc := 14) d_X3_letterOf_14 (by decide) ?_
  refine Tr.istore (pc := 15) (i := 5) (ls2 := [(5, (0, 0)), (4, (0, r11)), (0, (2, 27)), (1, (0, a1)), (2, (0, a2)), (3, (0, a3))]) d_X3_letterOf_15 (by decide) rfl ?_
  refine Tr.iload (pc := 17) (i := 4) d_X3_letterOf_17 rfl ?_
  refine Tr.istore (pc := 19) (i := 6) (ls2 := [(6, (0, r11)), (5, (0, 0)), (4, (0, r11)), (0, (2, 27)), (1, (0, a1)), (2, (0, a2)), (3, (0, a3))]) d_X3_letterOf_19 (by decide) rfl ?_
  have J21 : ∀ (n21 : Nat) (M : Mem) (p21_5 p21_6 : Int), St Tru ws_X3_letterOf_27 as_X3_letterOf_27 M0 M → (0 ≤ p21_5 ∧ p21_5 ≤ 6) → ((-2147483648) ≤ p21_6 ∧ p21_6 ≤ 2147483647) → rd M 34 (a2 + r8) = r11 → (6 - p21_5).toNat < n21 → Tr l K 0 mX3_letterOf 21 [(3, (0, a3)), (4, (0, r11)), (5, (0, p21_5)), (6, (0, p21_6))] [] M (q_X3_letterOf_27 M0) := by
    intro n21
    induction n21 with
    | zero => intro M p21_5 p21_6 hS bp21_5 bp21_6 k21_34_a21r810 hm21; exact absurd hm21 (Nat.not_lt_zero _)
    | succ n21 J21 =>
      intro M p21_5 p21_6 hS bp21_5 bp21_6 k21_34_a21r810 hm21
      refine Tr.iload (pc := 21) (i := 6) d_X3_letterOf_21 rfl ?_
      have J46 : ∀ (M : Mem), St Tru ws_X3_letterOf_27 as_X3_letterOf_27 M0 M → rd M 34 (a2 + r8) = r11 → Tr l K 0 mX3_letterOf 46 [(3, (0, a3)), (4, (0, r11)), (5, (0, p21_5))] [] M (q_X3_letterOf_27 M0) := by
        intro M  hS  k46_34_a21r810
        refine Tr.iload_n (pc := 46) (i := 3) d_X3_letterOf_46 rfl rfl ?_
        refine Tr.if_lt (pc := 47) (tgt := 56) d_X3_letterOf_47 rfl (fun c47 => ?_) (fun c47 => ?_)
        · refine Tr.iconst (pc := 56) d_X3_letterOf_56 (by decide) ?_
          exact Tr.iret (pc := 57) d_X3_letterOf_57 rfl ⟨hS, _, rfl, by omega, by omega⟩
        · refine Tr.iload_n (pc := 50) (i := 3) d_X3_letterOf_50 rfl rfl ?_
          refine Tr.iload (pc := 51) (i := 5) d_X3_letterOf_51 rfl ?_
          refine Tr.icmp_lt (pc := 53) (tgt := 58) d_X3_letterOf_53 rfl (fun c53 => ?_) (fun c53 => ?_)
          · refine Tr.iload (pc := 58) (i := 5) d_X3_letterOf_58 rfl ?_
            refine Tr.iconst (pc := 60) d_X3_letterOf_60 (by decide) ?_
            refine Tr.isub (pc := 61) d_X3_letterOf_61 ?_
            refine Tr.tp (p21_5 - 1) ((w32_id (by omega)).trans (by omega)) ?_
            refine Tr.istore (pc := 62) (i := 6) (ls2 := [(6, (0, (p21_5 - 1))), (3, (0, a3)), (4, (0, r11)), (5, (0, p21_5))]) d_X3_letterOf_62 (by decide) rfl ?_
            have J64 : ∀ (n64 : Nat) (M : Mem) (p64_4 p64_6 : Int), St Tru ws_X3_letterOf_27 as_X3_letterOf_27 M0 M → ((-2147483648) ≤ p64_4 ∧ p64_4 ≤ 2147483647) → (0 ≤ p64_6 ∧ p64_6 ≤ 5) → rd M 34 (a2 + r8) = r11 → (p64_6 - 0).toNat < n64 → Tr l K 0 mX3_letterOf 64 [(3, (0, a3)), (4, (0, p64_4)), (6, (0, p64_6))] [] M (q_X3_letterOf_27 M0) := by
              intro n64
              induction n64 with
              | zero => intro M p64_4 p64_6 hS bp64_4 bp64_6 k64_34_a21r810 hm64; exact absurd hm64 (Nat.not_lt_zero _)
              | succ n64 J64 =>
                intro M p64_4 p64_6 hS bp64_4 bp64_6 k64_34_a21r810 hm64
                refine Tr.iload (pc := 64) (i := 6) d_X3_letterOf_64 rfl ?_
                refine Tr.iload_n (pc := 66) (i := 3) d_X3_letterOf_66 rfl rfl ?_
                refine Tr.icmp_le (pc := 67) (tgt := 83) d_X3_letterOf_67 rfl (fun c67 => ?_) (fun c67 => ?_)
                · refine Tr.iload (pc := 83) (i := 4) d_X3_letterOf_83 rfl ?_
                  refine Tr.bipush (pc := 85) d_X3_letterOf_85 rfl (by decide) ?_
                  refine Tr.irem (pc := 87) d_X3_letterOf_87 (by omega) ?_
                  refine Tr.gen (P := fun v => (-2147483648) ≤ v ∧ v ≤ 2147483647) (rem32_b _ _ (by omega)) (fun r87 er87 br87 => ?_)
                  refine Tr.bipush (pc := 88) d_X3_letterOf_88 rfl (by decide) ?_
                  refine Tr.iadd (pc := 90) d_X3_letterOf_90 ?_
                  refine Tr.gen (P := fun v => (-2147483648) ≤ v ∧ v ≤ 2147483647) (w32_b _) (fun r90 er90 br90 => ?_)
                  exact Tr.iret (pc := 91) d_X3_letterOf_91 rfl ⟨hS, _, rfl, by omega, by omega⟩
                · refine Tr.iload (pc := 70) (i := 4) d_X3_letterOf_70 rfl ?_
                  refine Tr.bipush (pc := 72) d_X3_letterOf_72 rfl (by decide) ?_
                  refine Tr.idiv (pc := 74) d_X3_letterOf_74 (by omega) ?_
                  refine Tr.gen (P := fun v => (-2147483648) ≤ v ∧ v ≤ 2147483647) (w32_b _) (fun r74 er74 br74 => ?_)
                  refine Tr.istore (pc := 75) (i := 4) (ls2 := [(4, (0, r74)), (3, (0, a3)), (6, (0, p64_6))]) d_X3_letterOf_75 (by decide) rfl ?_
                  refine Tr.iincV (pc := 77) (n2 := (p64_6 - 1)) (ls2 := [(6, (0, (p64_6 - 1))), (4, (0, r74)), (3, (0, a3))]) d_X3_letterOf_77 rfl (by decide) ((w32_id (by omega)).trans (by omega)) rfl ?_
                  refine Tr.goto (pc := 80) (tgt := 64) d_X3_letterOf_80 rfl ?_
                  refine Tr.pick [2, 1, 0] (ls2 := [(3, (0, a3)), (4, (0, r74)), (6, (0, (p64_6 - 1)))]) rfl ?_
                  exact J64 _ _ _ hS (by omega) (by omega) k64_34_a21r810 (by omega)
            refine Tr.pick [1, 2, 0] (ls2 := [(3, (0, a3)), (4, (0, r11)), (6, (0, (p21_5 - 1)))]) rfl ?_
            exact J64 _ _ _ _ hS (by omega) (by omega) k46_34_a21r810 (Nat.lt_succ_self _)
          · refine Tr.iconst (pc := 56) d_X3_letterOf_56 (by decide) ?_
            exact Tr.iret (pc := 57) d_X3_letterOf_57 rfl ⟨hS, _, rfl, by omega, by omega⟩
      refine Tr.if_le (pc := 23) (tgt := 46) d_X3_letterOf_23 rfl (fun c23 => ?_) (fun c23 => ?_)
      · refine Tr.pick [0, 1, 2] (ls2 := [(3, (0, a3)), (4, (0, r11)), (5, (0, p21_5))]) rfl ?_
        exact J46 _ hS k21_34_a21r810
      · refine Tr.iload (pc := 26) (i := 5) d_X3_letterOf_26 rfl ?_
        refine Tr.bipush (pc := 28) d_X3_letterOf_28 rfl (by decide) ?_
        refine Tr.icmp_ge (pc := 30) (tgt := 46) d_X3_letterOf_30 rfl (fun c30 => ?_) (fun c30 => ?_)
        · refine Tr.pick [0, 1, 2] (ls2 := [(3, (0, a3)), (4, (0, r11)), (5, (0, p21_5))]) rfl ?_
          exact J46 _ hS k21_34_a21r810
        · refine Tr.iincV (pc := 33) (n2 := (p21_5 + 1)) (ls2 := [(5, (0, (p21_5 + 1))), (3, (0, a3)), (4, (0, r11)), (6, (0, p21_6))]) d_X3_letterOf_33 rfl (by decide) ((w32_id (by omega)).trans (by omega)) rfl ?_
          refine Tr.iload (pc := 36) (i := 6) d_X3_letterOf_36 rfl ?_
          refine Tr.bipush (pc := 38) d_X3_letterOf_38 rfl (by decide) ?_
          refine Tr.idiv (pc := 40) d_X3_letterOf_40 (by omega) ?_
          refine Tr.gen (P := fun v => v = p21_6 / 27 ∧ (0 ≤ v ∧ v ≤ 79536431)) (div32_l (c := 27) (by omega) (by decide) (by omega) (by omega)) (fun r40 er40 br40 => ?_)
          refine Tr.istore (pc := 41) (i := 6) (ls2 := [(6, (0, r40)), (5, (0, (p21_5 + 1))), (3, (0, a3)), (4, (0, r11))]) d_X3_letterOf_41 (by decide) rfl ?_
          refine Tr.goto (pc := 43) (tgt := 21) d_X3_letterOf_43 rfl ?_
          refine Tr.pick [2, 3, 1, 0] (ls2 := [(3, (0, a3)), (4, (0, r11)), (5, (0, (p21_5 + 1))), (6, (0, r40))]) rfl ?_
          exact J21 _ _ _ hS (by omega) (by omega) k21_34_a21r810 (by omega)
  refine Tr.pick [6, 2, 1, 0] (ls2 := [(3, (0, a3)), (4, (0, r11)), (5, (0, 0)), (6, (0, r11))]) rfl ?_
  exact J21 _ _ _ _ hS (by omega) (by omega) er11 (Nat.lt_succ_self _)

def ws_X11_letter_0_w1 : List (Int × Int) := []
def as_X11_letter_0_w1 : List Int := []
def q_X11_letter_0_w1 (M0 M' : Mem) (r : Option PV) : Prop := St Tru ws_X11_letter_0_w1 as_X11_letter_0_w1 M0 M' ∧ ∃ v : Int, r = some (0, v) ∧ (-2147483648) ≤ v ∧ v ≤ 2147483647
set_option maxRecDepth 100000 in
set_option maxHeartbeats 4000000 in
theorem sp_X11_letter_0_w1 {l : Launch} {K : EC} {M0 : Mem} {xq : Int} (hI : In Tru M0) (hE : e_all K xq) (en_0_4 : rd M0 0 4 = 27) (a1 : Int) (ha1 : (-2147483648) ≤ a1 ∧ a1 ≤ 2147483647) (a2 : Int) (ha2 : (-2147483648) ≤ a2 ∧ a2 ≤ 2147483647) (a3 : Int) (ha3 : (-2147483648) ≤ a3 ∧ a3 ≤ 2147483647)  : Tr l K 1 mX11_letter 0 [(0, (2, 0)), (1, (0, a1)), (2, (0, a2)), (3, (0, a3))] [] M0 (q_X11_letter_0_w1 M0) := by
  have hS : St Tru ws_X11_letter_0_w1 as_X11_letter_0_w1 M0 M0 := St.rf hI
  refine Tr.iload_n (pc := 0) (i := 1) d_X11_letter_0 rfl rfl ?_
  refine Tr.if_lt (pc := 1) (tgt := 26) d_X11_letter_1 rfl (fun c1 => ?_) (fun c1 => ?_)
  · refine Tr.iconst (pc := 26) d_X11_letter_26 (by decide) ?_
    exact Tr.iret (pc := 27) d_X11_letter_27 rfl ⟨hS, _, rfl, by omega, by omega⟩
  · refine Tr.iload_n (pc := 4) (i := 1) d_X11_letter_4 rfl rfl ?_
    refine Tr.iconst (pc := 5) d_X11_letter_5 (by decide) ?_
    refine Tr.icmp_ge (pc := 6) (tgt := 26) d_X11_letter_6 rfl (fun c6 => ?_) (fun c6 => ?_)
    · refine Tr.iconst (pc := 26) d_X11_letter_26 (by decide) ?_
      exact Tr.iret (pc := 27) d_X11_letter_27 rfl ⟨hS, _, rfl, by omega, by omega⟩
    · refine Tr.iload_n (pc := 9) (i := 2) d_X11_letter_9 rfl rfl ?_
      refine Tr.if_lt (pc := 10) (tgt := 26) d_X11_letter_10 rfl (fun c10 => ?_) (fun c10 => ?_)
      · refine Tr.iconst (pc := 26) d_X11_letter_26 (by decide) ?_
        exact Tr.iret (pc := 27) d_X11_letter_27 rfl ⟨hS, _, rfl, by omega, by omega⟩
      · refine Tr.iload_n (pc := 13) (i := 2) d_X11_letter_13 rfl rfl ?_
        refine Tr.aload_n (pc := 14) (i := 0) d_X11_letter_14 rfl rfl ?_
        refine Tr.getf (pc := 15) d_X11_letter_15 f_11_30 (by decide) (by decide) (ty_0 hS.1.1) ?_
        refine Tr.tp 27 ((St.kp hS (by decide) (by decide) (by decide)).trans en_0_4) ?_
        refine Tr.getf (pc := 18) d_X11_letter_18 f_11_130 (by decide) (by decide) (ty_27 hS.1.1) ?_
        refine Tr.tp 28 (fx_27_4 hS.1.1) ?_
        refine Tr.iload_n (pc := 21) (i := 1) d_X11_letter_21 rfl rfl ?_
        refine Tr.iald (pc := 22) d_X11_letter_22 (ty_28 hS.1.1) (by omega) (by omega) ?_
        refine Tr.gen (P := fun v => 0 ≤ v ∧ v ≤ 6) (arp_28 hS.1.2.1 (by omega) (by omega)) (fun r22 er22 br22 => ?_)
        refine Tr.icmp_lt (pc := 23) (tgt := 28) d_X11_letter_23 rfl (fun c23 => ?_) (fun c23 => ?_)
        · refine Tr.aload_n (pc := 28) (i := 0) d_X11_letter_28 rfl rfl ?_
          refine Tr.getf (pc := 29) d_X11_letter_29 f_11_30 (by decide) (by decide) (ty_0 hS.1.1) ?_
          refine Tr.tp 27 ((St.kp hS (by decide) (by decide) (by decide)).trans en_0_4) ?_
          refine Tr.iload_n (pc := 32) (i := 1) d_X11_letter_32 rfl rfl ?_
          refine Tr.iload_n (pc := 33) (i := 2) d_X11_letter_33 rfl rfl ?_
          refine Tr.iload_n (pc := 34) (i := 3) d_X11_letter_34 rfl rfl ?_
          refine Tr.callV (pc := 35) (as := [_, _, _]) d_X11_letter_35 s_11_137 ok_X3_letterOf rfl rfl (Nat.le_of_ble_eq_true rfl) (Nat.le_of_ble_eq_true rfl) (by decide) (ty_27 hS.1.1) ?_
          refine Tr.imp (Tr.deep (by decide) (sp_X3_letterOf_27 hS.1 hE a1 (by omega) a2 (by omega) a3 (by omega))) ?_
          rintro M35 _ ⟨h35, r35, rfl, lr35, ur35⟩
          have hS := St.tr hS h35 (by decide) (by decide)
          refine Tr.sc [(0, r35)] rfl ?_
          exact Tr.iret (pc := 38) d_X11_letter_38 rfl ⟨hS, _, rfl, by omega, by omega⟩
        · refine Tr.iconst (pc := 26) d_X11_letter_26 (by decide) ?_
          exact Tr.iret (pc := 27) d_X11_letter_27 rfl ⟨hS, _, rfl, by omega, by omega⟩

def ws_X11_put_0_w1 : List (Int × Int) := []
def as_X11_put_0_w1 : List Int := [47]
def q_X11_put_0_w1 (M0 M' : Mem) (r : Option PV) : Prop := St Tru ws_X11_put_0_w1 as_X11_put_0_w1 M0 M' ∧ ∃ v : Int, r = some (0, v) ∧ 0 ≤ v ∧ v ≤ 1
set_option maxRecDepth 100000 in
set_option maxHeartbeats 4000000 in
theorem sp_X11_put_0_w1 {l : Launch} {K : EC} {M0 : Mem} (hI : In Tru M0) (en_0_4 : rd M0 0 4 = 27) (a1 : Int) (ha1 : (-2147483648) ≤ a1 ∧ a1 ≤ 2147483647) (a2 : Int) (ha2 : (-2147483648) ≤ a2 ∧ a2 ≤ 2147483647)  : Tr l K 0 mX11_put 0 [(0, (2, 0)), (1, (0, a1)), (2, (0, a2))] [] M0 (q_X11_put_0_w1 M0) := by
  have hS : St Tru ws_X11_put_0_w1 as_X11_put_0_w1 M0 M0 := St.rf hI
  refine Tr.iload_n (pc := 0) (i := 1) d_X11_put_0 rfl rfl ?_
  refine Tr.if_lt (pc := 1) (tgt := 17) d_X11_put_1 rfl (fun c1 => ?_) (fun c1 => ?_)
  · refine Tr.iconst (pc := 17) d_X11_put_17 (by decide) ?_
    exact Tr.zret (pc := 18) d_X11_put_18 rfl (by omega) ⟨hS, _, rfl, by omega, by omega⟩
  · refine Tr.iload_n (pc := 4) (i := 1) d_X11_put_4 rfl rfl ?_
    refine Tr.aload_n (pc := 5) (i := 0) d_X11_put_5 rfl rfl ?_
    refine Tr.getf (pc := 6) d_X11_put_6 f_11_30 (by decide) (by decide) (ty_0 hS.1.1) ?_
    refine Tr.tp 27 ((St.kp hS (by decide) (by decide) (by decide)).trans en_0_4) ?_
    refine Tr.getf (pc := 9) d_X11_put_9 f_11_130 (by decide) (by decide) (ty_27 hS.1.1) ?_
    refine Tr.tp 28 (fx_27_4 hS.1.1) ?_
    refine Tr.iconst (pc := 12) d_X11_put_12 (by decide) ?_
    refine Tr.iald (pc := 13) d_X11_put_13 (ty_28 hS.1.1) (by omega) (by omega) ?_
    refine Tr.gen (P := fun v => 0 ≤ v ∧ v ≤ 3) (ir_28_1 hS.1.2.1) (fun r13 er13 br13 => ?_)
    refine Tr.icmp_lt (pc := 14) (tgt := 19) d_X11_put_14 rfl (fun c14 => ?_) (fun c14 => ?_)
    · refine Tr.iload_n (pc := 19) (i := 2) d_X11_put_19 rfl rfl ?_
      refine Tr.aload_n (pc := 20) (i := 0) d_X11_put_20 rfl rfl ?_
      refine Tr.getf (pc := 21) d_X11_put_21 f_11_30 (by decide) (by decide) (ty_0 hS.1.1) ?_
      refine Tr.tp 27 ((St.kp hS (by decide) (by decide) (by decide)).trans en_0_4) ?_
      refine Tr.getf (pc := 24) d_X11_put_24 f_11_100 (by decide) (by decide) (ty_27 hS.1.1) ?_
      refine Tr.tp 32 (fx_27_8 hS.1.1) ?_
      refine Tr.iload_n (pc := 27) (i := 1) d_X11_put_27 rfl rfl ?_
      refine Tr.iald (pc := 28) d_X11_put_28 (ty_32 hS.1.1) (by omega) (by omega) ?_
      refine Tr.gen (P := fun v => (-1) ≤ v ∧ v ≤ 99) (ar_32 hS.1.2.1 _) (fun r28 er28 br28 => ?_)
      refine Tr.icmp_lt (pc := 29) (tgt := 45) d_X11_put_29 rfl (fun c29 => ?_) (fun c29 => ?_)
      · refine Tr.iconst (pc := 45) d_X11_put_45 (by decide) ?_
        exact Tr.zret (pc := 46) d_X11_put_46 rfl (by omega) ⟨hS, _, rfl, by omega, by omega⟩
      · refine Tr.iload_n (pc := 32) (i := 2) d_X11_put_32 rfl rfl ?_
        refine Tr.aload_n (pc := 33) (i := 0) d_X11_put_33 rfl rfl ?_
        refine Tr.getf (pc := 34) d_X11_put_34 f_11_30 (by decide) (by decide) (ty_0 hS.1.1) ?_
        refine Tr.tp 27 ((St.kp hS (by decide) (by decide) (by decide)).trans en_0_4) ?_
        refine Tr.getf (pc := 37) d_X11_put_37 f_11_141 (by decide) (by decide) (ty_27 hS.1.1) ?_
        refine Tr.tp 33 (fx_27_9 hS.1.1) ?_
        refine Tr.iload_n (pc := 40) (i := 1) d_X11_put_40 rfl rfl ?_
        refine Tr.iald (pc := 41) d_X11_put_41 (ty_33 hS.1.1) (by omega) (by omega) ?_
        refine Tr.gen (P := fun v => (-1) ≤ v ∧ v ≤ 99) (ar_33 hS.1.2.1 _) (fun r41 er41 br41 => ?_)
        refine Tr.icmp_le (pc := 42) (tgt := 47) d_X11_put_42 rfl (fun c42 => ?_) (fun c42 => ?_)
        · refine Tr.aload_n (pc := 47) (i := 0) d_X11_put_47 rfl rfl ?_
          refine Tr.getf (pc := 48) d_X11_put_48 f_11_37 (by decide) (by decide) (ty_0 hS.1.1) ?_
          refine Tr.tp 47 (fx_0_6 hS.1.1) ?_
          refine Tr.iload_n (pc := 51) (i := 1) d_X11_put_51 rfl rfl ?_
          refine Tr.iload_n (pc := 52) (i := 2) d_X11_put_52 rfl rfl ?_
          refine Tr.iastS (pc := 53) (P := St Tru ws_X11_put_0_w1 as_X11_put_0_w1 M0) d_X11_put_53 (ty_47 hS.1.1) (by omega) (by omega) (sa_47 hS (by decide) (by omega) trivial) (fun M53 hS w53 => ?_)
          refine Tr.iconst (pc := 54) d_X11_put_54 (by decide) ?_
          exact Tr.zret (pc := 55) d_X11_put_55 rfl (by omega) ⟨hS, _, rfl, by omega, by omega⟩
        · refine Tr.iconst (pc := 45) d_X11_put_45 (by decide) ?_
          exact Tr.zret (pc := 46) d_X11_put_46 rfl (by omega) ⟨hS, _, rfl, by omega, by omega⟩
    · refine Tr.iconst (pc := 17) d_X11_put_17 (by decide) ?_
      exact Tr.zret (pc := 18) d_X11_put_18 rfl (by omega) ⟨hS, _, rfl, by omega, by omega⟩

def ws_X11_value_0_w2 : List (Int × Int) := []
def as_X11_value_0_w2 : List Int := []
def q_X11_value_0_w2 (M0 M' : Mem) (r : Option PV) : Prop := St Tru ws_X11_value_0_w2 as_X11_value_0_w2 M0 M' ∧ ∃ v : Int, r = some (0, v) ∧ (-2147483648) ≤ v ∧ v ≤ 2147483647
set_option maxRecDepth 100000 in
set_option maxHeartbeats 4000000 in
theorem sp_X11_value_0_w2 {l : Launch} {K : EC} {M0 : Mem} (hI : In Tru M0) (en_0_4 : rd M0 0 4 = 27) (en_0_9 : rd M0 0 9 = 1) (a1 : Int) (ha1 : (-2147483648) ≤ a1 ∧ a1 ≤ 2147483647)  : Tr l K 0 mX11_value 0 [(0, (2, 0)), (1, (0, a1))] [] M0 (q_X11_value_0_w2 M0) := by
  have hS : St Tru ws_X11_value_0_w2 as_X11_value_0_w2 M0 M0 := St.rf hI
  refine Tr.aload_n (pc := 0) (i := 0) d_X11_value_0 rfl rfl ?_
  refine Tr.getz (pc := 1) d_X11_value_1 f_11_109 (by decide) (ty_0 hS.1.1) ?_
  refine Tr.tp 1 ((St.kp hS (by decide) (by decide) (by decide)).trans en_0_9) ?_
  refine Tr.if_eq (pc := 4) (tgt := 24) d_X11_value_4 rfl (fun hc => absurd hc (by omega)) (fun _ => ?_)
  refine Tr.iload_n (pc := 7) (i := 1) d_X11_value_7 rfl rfl ?_
  refine Tr.if_lt (pc := 8) (tgt := 24) d_X11_value_8 rfl (fun c8 => ?_) (fun c8 => ?_)
  · refine Tr.ldc (pc := 24) d_X11_value_24 k_11_170 (by decide) ?_
    exact Tr.iret (pc := 26) d_X11_value_26 rfl ⟨hS, _, rfl, by omega, by omega⟩
  · refine Tr.iload_n (pc := 11) (i := 1) d_X11_value_11 rfl rfl ?_
    refine Tr.aload_n (pc := 12) (i := 0) d_X11_value_12 rfl rfl ?_
    refine Tr.getf (pc := 13) d_X11_value_13 f_11_30 (by decide) (by decide) (ty_0 hS.1.1) ?_
    refine Tr.tp 27 ((St.kp hS (by decide) (by decide) (by decide)).trans en_0_4) ?_
    refine Tr.getf (pc := 16) d_X11_value_16 f_11_130 (by decide) (by decide) (ty_27 hS.1.1) ?_
    refine Tr.tp 28 (fx_27_4 hS.1.1) ?_
    refine Tr.iconst (pc := 19) d_X11_value_19 (by decide) ?_
    refine Tr.iald (pc := 20) d_X11_value_20 (ty_28 hS.1.1) (by omega) (by omega) ?_
    refine Tr.gen (P := fun v => 0 ≤ v ∧ v ≤ 6) (ir_28_2 hS.1.2.1) (fun r20 er20 br20 => ?_)
    refine Tr.icmp_lt (pc := 21) (tgt := 27) d_X11_value_21 rfl (fun c21 => ?_) (fun c21 => ?_)
    · refine Tr.aload_n (pc := 27) (i := 0) d_X11_value_27 rfl rfl ?_
      refine Tr.getf (pc := 28) d_X11_value_28 f_11_46 (by decide) (by decide) (ty_0 hS.1.1) ?_
      refine Tr.tp 48 (fx_0_7 hS.1.1) ?_
      refine Tr.getf (pc := 31) d_X11_value_31 f_11_171 (by decide) (by decide) (ty_48 hS.1.1) ?_
      refine Tr.tp 50 (fx_48_3 hS.1.1) ?_
      refine Tr.iload_n (pc := 34) (i := 1) d_X11_value_34 rfl rfl ?_
      refine Tr.iald (pc := 35) d_X11_value_35 (ty_50 hS.1.1) (by omega) (by omega) ?_
      refine Tr.gen (P := fun v => (-2147483648) ≤ v ∧ v ≤ 2147483647) (ar_50 hS.1.2.1 _) (fun r35 er35 br35 => ?_)
      exact Tr.iret (pc := 36) d_X11_value_36 rfl ⟨hS, _, rfl, by omega, by omega⟩
    · refine Tr.ldc (pc := 24) d_X11_value_24 k_11_170 (by decide) ?_
      exact Tr.iret (pc := 26) d_X11_value_26 rfl ⟨hS, _, rfl, by omega, by omega⟩

def ws_X11_isPart_0_w1 : List (Int × Int) := []
def as_X11_isPart_0_w1 : List Int := []
def q_X11_isPart_0_w1 (a1 : Int) (M0 M' : Mem) (r : Option PV) : Prop := St Tru ws_X11_isPart_0_w1 as_X11_isPart_0_w1 M0 M' ∧ ∃ v : Int, r = some (0, v) ∧ 0 ≤ v ∧ v ≤ 1 ∧ (v = 1 → (0 ≤ a1 ∧ a1 ≤ 5))
set_option maxRecDepth 100000 in
set_option maxHeartbeats 4000000 in
theorem sp_X11_isPart_0_w1 {l : Launch} {K : EC} {M0 : Mem} (hI : In Tru M0) (en_0_4 : rd M0 0 4 = 27) (a1 : Int) (ha1 : (-2147483648) ≤ a1 ∧ a1 ≤ 2147483647)  : Tr l K 0 mX11_isPart 0 [(0, (2, 0)), (1, (0, a1))] [] M0 (q_X11_isPart_0_w1 a1 M0) := by
  have hS : St Tru ws_X11_isPart_0_w1 as_X11_isPart_0_w1 M0 M0 := St.rf hI
  refine Tr.iload_n (pc := 0) (i := 1) d_X11_isPart_0 rfl rfl ?_
  refine Tr.if_lt (pc := 1) (tgt := 21) d_X11_isPart_1 rfl (fun c1 => ?_) (fun c1 => ?_)
  · refine Tr.iconst (pc := 21) d_X11_isPart_21 (by decide) ?_
    exact Tr.zret (pc := 22) d_X11_isPart_22 rfl (by omega) ⟨hS, _, rfl, by omega, by omega, by omega⟩
  · refine Tr.iload_n (pc := 4) (i := 1) d_X11_isPart_4 rfl rfl ?_
    refine Tr.aload_n (pc := 5) (i := 0) d_X11_isPart_5 rfl rfl ?_
    refine Tr.getf (pc := 6) d_X11_isPart_6 f_11_30 (by decide) (by decide) (ty_0 hS.1.1) ?_
    refine Tr.tp 27 ((St.kp hS (by decide) (by decide) (by decide)).trans en_0_4) ?_
    refine Tr.getf (pc := 9) d_X11_isPart_9 f_11_130 (by decide) (by decide) (ty_27 hS.1.1) ?_
    refine Tr.tp 28 (fx_27_4 hS.1.1) ?_
    refine Tr.iconst (pc := 12) d_X11_isPart_12 (by decide) ?_
    refine Tr.iald (pc := 13) d_X11_isPart_13 (ty_28 hS.1.1) (by omega) (by omega) ?_
    refine Tr.gen (P := fun v => 0 ≤ v ∧ v ≤ 6) (ir_28_0 hS.1.2.1) (fun r13 er13 br13 => ?_)
    refine Tr.icmp_ge (pc := 14) (tgt := 21) d_X11_isPart_14 rfl (fun c14 => ?_) (fun c14 => ?_)
    · refine Tr.iconst (pc := 21) d_X11_isPart_21 (by decide) ?_
      exact Tr.zret (pc := 22) d_X11_isPart_22 rfl (by omega) ⟨hS, _, rfl, by omega, by omega, by omega⟩
    · refine Tr.iconst (pc := 17) d_X11_isPart_17 (by decide) ?_
      refine Tr.goto (pc := 18) (tgt := 22) d_X11_isPart_18 rfl ?_
      exact Tr.zret (pc := 22) d_X11_isPart_22 rfl (by omega) ⟨hS, _, rfl, by omega, by omega, by omega⟩

def ws_X11_spent_0_w2 : List (Int × Int) := []
def as_X11_spent_0_w2 : List Int := []
def q_X11_spent_0_w2 (M0 M' : Mem) (r : Option PV) : Prop := St Tru ws_X11_spent_0_w2 as_X11_spent_0_w2 M0 M' ∧ ∃ v : Int, r = some (0, v) ∧ (-2147483648) ≤ v ∧ v ≤ 2147483647
set_option maxRecDepth 100000 in
set_option maxHeartbeats 4000000 in
theorem sp_X11_spent_0_w2 {l : Launch} {K : EC} {M0 : Mem} (hI : In Tru M0) (en_0_4 : rd M0 0 4 = 27) (en_0_9 : rd M0 0 9 = 1) (a1 : Int) (ha1 : (-2147483648) ≤ a1 ∧ a1 ≤ 2147483647) (a2 : Int) (ha2 : (-2147483648) ≤ a2 ∧ a2 ≤ 2147483647)  : Tr l K 1 mX11_spent 0 [(0, (2, 0)), (1, (0, a1)), (2, (0, a2))] [] M0 (q_X11_spent_0_w2 M0) := by
  have hS : St Tru ws_X11_spent_0_w2 as_X11_spent_0_w2 M0 M0 := St.rf hI
  refine Tr.aload_n (pc := 0) (i := 0) d_X11_spent_0 rfl rfl ?_
  refine Tr.getz (pc := 1) d_X11_spent_1 f_11_109 (by decide) (ty_0 hS.1.1) ?_
  refine Tr.tp 1 ((St.kp hS (by decide) (by decide) (by decide)).trans en_0_9) ?_
  refine Tr.if_eq (pc := 4) (tgt := 24) d_X11_spent_4 rfl (fun hc => absurd hc (by omega)) (fun _ => ?_)
  refine Tr.aload_n (pc := 7) (i := 0) d_X11_spent_7 rfl rfl ?_
  refine Tr.iload_n (pc := 8) (i := 1) d_X11_spent_8 rfl rfl ?_
  refine Tr.callV (pc := 9) (as := [_]) d_X11_spent_9 s_11_174 ok_X11_isPart rfl rfl (Nat.le_of_ble_eq_true rfl) (Nat.le_of_ble_eq_true rfl) (by decide) (ty_0 hS.1.1) ?_
  refine Tr.imp (Tr.deep (by decide) (sp_X11_isPart_0_w1 hS.1 ((St.kp hS (by decide) (by decide) (by decide)).trans en_0_4) a1 (by omega))) ?_
  rintro M9 _ ⟨h9, r9, rfl, lr9, ur9, wr9⟩
  have hS := St.tr hS h9 (by decide) (by decide)
  refine Tr.sc [(0, r9)] rfl ?_
  refine Tr.if_eq (pc := 12) (tgt := 24) d_X11_spent_12 rfl (fun c12 => ?_) (fun c12 => ?_)
  · refine Tr.iconst (pc := 24) d_X11_spent_24 (by decide) ?_
    exact Tr.iret (pc := 25) d_X11_spent_25 rfl ⟨hS, _, rfl, by omega, by omega⟩
  · refine Tr.iload_n (pc := 15) (i := 2) d_X11_spent_15 rfl rfl ?_
    refine Tr.if_lt (pc := 16) (tgt := 24) d_X11_spent_16 rfl (fun c16 => ?_) (fun c16 => ?_)
    · refine Tr.iconst (pc := 24) d_X11_spent_24 (by decide) ?_
      exact Tr.iret (pc := 25) d_X11_spent_25 rfl ⟨hS, _, rfl, by omega, by omega⟩
    · refine Tr.iload_n (pc := 19) (i := 2) d_X11_spent_19 rfl rfl ?_
      refine Tr.iconst (pc := 20) d_X11_spent_20 (by decide) ?_
      refine Tr.icmp_lt (pc := 21) (tgt := 26) d_X11_spent_21 rfl (fun c21 => ?_) (fun c21 => ?_)
      · refine Tr.aload_n (pc := 26) (i := 0) d_X11_spent_26 rfl rfl ?_
        refine Tr.getf (pc := 27) d_X11_spent_27 f_11_46 (by decide) (by decide) (ty_0 hS.1.1) ?_
        refine Tr.tp 48 (fx_0_7 hS.1.1) ?_
        refine Tr.getf (pc := 30) d_X11_spent_30 f_11_178 (by decide) (by decide) (ty_48 hS.1.1) ?_
        refine Tr.tp 56 (fx_48_0 hS.1.1) ?_
        refine Tr.getf (pc := 33) d_X11_spent_33 f_11_182 (by decide) (by decide) (ty_56 hS.1.1) ?_
        refine Tr.tp 57 (fx_56_2 hS.1.1) ?_
        refine Tr.iload_n (pc := 36) (i := 1) d_X11_spent_36 rfl rfl ?_
        refine Tr.iconst (pc := 37) d_X11_spent_37 (by decide) ?_
        refine Tr.imul (pc := 38) d_X11_spent_38 ?_
        refine Tr.tp (4 * a1) ((w32_id (by omega)).trans (by omega)) ?_
        refine Tr.iload_n (pc := 39) (i := 2) d_X11_spent_39 rfl rfl ?_
        refine Tr.iadd (pc := 40) d_X11_spent_40 ?_
        refine Tr.tp (4 * a1 + a2) ((w32_id (by omega)).trans (by omega)) ?_
        refine Tr.iald (pc := 41) d_X11_spent_41 (ty_57 hS.1.1) (by omega) (by omega) ?_
        refine Tr.gen (P := fun v => (-2147483648) ≤ v ∧ v ≤ 2147483647) (ar_57 hS.1.2.1 _) (fun r41 er41 br41 => ?_)
        exact Tr.iret (pc := 42) d_X11_spent_42 rfl ⟨hS, _, rfl, by omega, by omega⟩
      · refine Tr.iconst (pc := 24) d_X11_spent_24 (by decide) ?_
        exact Tr.iret (pc := 25) d_X11_spent_25 rfl ⟨hS, _, rfl, by omega, by omega⟩

def ws_X11_isLine_0_w1 : List (Int × Int) := []
def as_X11_isLine_0_w1 : List Int := []
def q_X11_isLine_0_w1 (a1 : Int) (M0 M' : Mem) (r : Option PV) : Prop := St Tru ws_X11_isLine_0_w1 as_X11_isLine_0_w1 M0 M' ∧ ∃ v : Int, r = some (0, v) ∧ 0 ≤ v ∧ v ≤ 1 ∧ (v = 1 → (0 ≤ a1 ∧ a1 ≤ 59))
set_option maxRecDepth 100000 in
set_option maxHeartbeats 4000000 in
theorem sp_X11_isLine_0_w1 {l : Launch} {K : EC} {M0 : Mem} (hI : In Tru M0) (en_0_4 : rd M0 0 4 = 27) (a1 : Int) (ha1 : (-2147483648) ≤ a1 ∧ a1 ≤ 2147483647)  : Tr l K 0 mX11_isLine 0 [(0, (2, 0)), (1, (0, a1))] [] M0 (q_X11_isLine_0_w1 a1 M0) := by
  have hS : St Tru ws_X11_isLine_0_w1 as_X11_isLine_0_w1 M0 M0 := St.rf hI
  refine Tr.iload_n (pc := 0) (i := 1) d_X11_isLine_0 rfl rfl ?_
  refine Tr.if_lt (pc := 1) (tgt := 22) d_X11_isLine_1 rfl (fun c1 => ?_) (fun c1 => ?_)
  · refine Tr.iconst (pc := 22) d_X11_isLine_22 (by decide) ?_
    exact Tr.zret (pc := 23) d_X11_isLine_23 rfl (by omega) ⟨hS, _, rfl, by omega, by omega, by omega⟩
  · refine Tr.iload_n (pc := 4) (i := 1) d_X11_isLine_4 rfl rfl ?_
    refine Tr.aload_n (pc := 5) (i := 0) d_X11_isLine_5 rfl rfl ?_
    refine Tr.getf (pc := 6) d_X11_isLine_6 f_11_30 (by decide) (by decide) (ty_0 hS.1.1) ?_
    refine Tr.tp 27 ((St.kp hS (by decide) (by decide) (by decide)).trans en_0_4) ?_
    refine Tr.getf (pc := 9) d_X11_isLine_9 f_11_115 (by decide) (by decide) (ty_27 hS.1.1) ?_
    refine Tr.tp 35 (fx_27_11 hS.1.1) ?_
    refine Tr.getf (pc := 12) d_X11_isLine_12 f_11_119 (by decide) (by decide) (ty_35 hS.1.1) ?_
    refine Tr.gen (P := fun v => 0 ≤ v ∧ v ≤ 60) (ir_35_0 hS.1.2.1) (fun r12 er12 br12 => ?_)
    refine Tr.icmp_ge (pc := 15) (tgt := 22) d_X11_isLine_15 rfl (fun c15 => ?_) (fun c15 => ?_)
    · refine Tr.iconst (pc := 22) d_X11_isLine_22 (by decide) ?_
      exact Tr.zret (pc := 23) d_X11_isLine_23 rfl (by omega) ⟨hS, _, rfl, by omega, by omega, by omega⟩
    · refine Tr.iconst (pc := 18) d_X11_isLine_18 (by decide) ?_
      refine Tr.goto (pc := 19) (tgt := 23) d_X11_isLine_19 rfl ?_
      exact Tr.zret (pc := 23) d_X11_isLine_23 rfl (by omega) ⟨hS, _, rfl, by omega, by omega, by omega⟩

def ws_X1_paysInParts_56_w1 : List (Int × Int) := []
def as_X1_paysInParts_56_w1 : List Int := []
def q_X1_paysInParts_56_w1 (M0 M' : Mem) (r : Option PV) : Prop := St Tru ws_X1_paysInParts_56_w1 as_X1_paysInParts_56_w1 M0 M' ∧ ∃ v : Int, r = some (0, v) ∧ (-2147483648) ≤ v ∧ v ≤ 2147483647
set_option maxRecDepth 100000 in
set_option maxHeartbeats 4000000 in
theorem sp_X1_paysInParts_56_w1 {l : Launch} {K : EC} {M0 : Mem} (hI : In Tru M0) (en_56_1 : rd M0 56 1 = 27) (a1 : Int) (ha1 : 0 ≤ a1 ∧ a1 ≤ 59)  : Tr l K 2 mX1_paysInParts 0 [(0, (2, 56)), (1, (0, a1))] [] M0 (q_X1_paysInParts_56_w1 M0) := by
  have hS : St Tru ws_X1_paysInParts_56_w1 as_X1_paysInParts_56_w1 M0 M0 := St.rf hI
  obtain ⟨g63_1, eg63_1⟩ : ∃ v, rd M0 63 1 = v := ⟨_, rfl⟩
  have bg63_1 : (-1000000000) ≤ g63_1 ∧ g63_1 ≤ 1000000000 := by rw [← eg63_1]; exact ir_63_1 hI.2.1
  obtain ⟨g63_0, eg63_0⟩ : ∃ v, rd M0 63 0 = v := ⟨_, rfl⟩
  have bg63_0 : (-2147483648) ≤ g63_0 ∧ g63_0 ≤ 2147483647 := by rw [← eg63_0]; exact ir_63_0 hI.2.1
  refine Tr.aload_n (pc := 0) (i := 0) d_X1_paysInParts_0 rfl rfl ?_
  refine Tr.getf (pc := 1) d_X1_paysInParts_1 f_1_21 (by decide) (by decide) (ty_56 hS.1.1) ?_
  refine Tr.tp 60 (fx_56_5 hS.1.1) ?_
  refine Tr.iload_n (pc := 4) (i := 1) d_X1_paysInParts_4 rfl rfl ?_
  refine Tr.iald (pc := 5) d_X1_paysInParts_5 (ty_60 hS.1.1) (by omega) (by omega) ?_
  refine Tr.gen (P := fun v => (-2147483648) ≤ v ∧ v ≤ 2147483647) (ar_60 hS.1.2.1 _) (fun r5 er5 br5 => ?_)
  refine Tr.istore_n (pc := 6) (i := 2) (ls2 := [(2, (0, r5)), (0, (2, 56)), (1, (0, a1))]) d_X1_paysInParts_6 rfl (by decide) rfl ?_
  refine Tr.iconst (pc := 7) d_X1_paysInParts_7 (by decide) ?_
  refine Tr.istore_n (pc := 8) (i := 3) (ls2 := [(3, (0, 0)), (2, (0, r5)), (0, (2, 56)), (1, (0, a1))]) d_X1_paysInParts_8 rfl (by decide) rfl ?_
  have J9 : ∀ (n9 : Nat) (M : Mem) (p9_2 p9_3 : Int), St Tru ws_X1_paysInParts_56_w1 as_X1_paysInParts_56_w1 M0 M → ((-2147483648) ≤ p9_2 ∧ p9_2 ≤ 2147483647) → (0 ≤ p9_3 ∧ p9_3 ≤ 2016) → rd M 60 a1 = r5 → rd M 63 0 = g63_0 → rd M 63 1 = g63_1 → (2016 - p9_3).toNat < n9 → Tr l K 2 mX1_paysInParts 9 [(0, (2, 56)), (1, (0, a1)), (2, (0, p9_2)), (3, (0, p9_3))] [] M (q_X1_paysInParts_56_w1 M0) := by
    intro n9
    induction n9 with
    | zero => intro M p9_2 p9_3 hS bp9_2 bp9_3 k9_60_a110 k9_63_0 k9_63_1 hm9; exact absurd hm9 (Nat.not_lt_zero _)
    | succ n9 J9 =>
      intro M p9_2 p9_3 hS bp9_2 bp9_3 k9_60_a110 k9_63_0 k9_63_1 hm9
      refine Tr.iload_n (pc := 9) (i := 3) d_X1_paysInParts_9 rfl rfl ?_
      refine Tr.aload_n (pc := 10) (i := 0) d_X1_paysInParts_10 rfl rfl ?_
      refine Tr.getf (pc := 11) d_X1_paysInParts_11 f_1_33 (by decide) (by decide) (ty_56 hS.1.1) ?_
      refine Tr.tp 63 (fx_56_8 hS.1.1) ?_
      refine Tr.getf (pc := 14) d_X1_paysInParts_14 f_1_94 (by decide) (by decide) (ty_63 hS.1.1) ?_
      refine Tr.tp g63_0 k9_63_0 ?_
      refine Tr.icmp_ge (pc := 17) (tgt := 95) d_X1_paysInParts_17 rfl (fun c17 => ?_) (fun c17 => ?_)
      · refine Tr.iload_n (pc := 95) (i := 2) d_X1_paysInParts_95 rfl rfl ?_
        exact Tr.iret (pc := 96) d_X1_paysInParts_96 rfl ⟨hS, _, rfl, by omega, by omega⟩
      · refine Tr.aload_n (pc := 20) (i := 0) d_X1_paysInParts_20 rfl rfl ?_
        refine Tr.getf (pc := 21) d_X1_paysInParts_21 f_1_33 (by decide) (by decide) (ty_56 hS.1.1) ?_
        refine Tr.tp 63 (fx_56_8 hS.1.1) ?_
        refine Tr.getf (pc := 24) d_X1_paysInParts_24 f_1_97 (by decide) (by decide) (ty_63 hS.1.1) ?_
        refine Tr.gen (P := fun v => v = tref g63_1 5) (tl_ref hS k9_63_1 (by decide)) (fun t24 et24 bt24 => ?_)
        refine Tr.iload_n (pc := 27) (i := 3) d_X1_paysInParts_27 rfl rfl ?_
        have nk28_0 : rd M 63 0 = g63_0 := k9_63_0
        have nn28 := tl_n hS k9_63_1
        refine Tr.lald (pc := 28) d_X1_paysInParts_28 (tl_tyL hS k9_63_1 bt24) (by omega) (by omega) ?_
        refine Tr.gen (P := fun v => (-9223372036854775808) ≤ v ∧ v ≤ 9223372036854775807) (tl_eL hS k9_63_1 bt24 (by omega) (by omega)) (fun r28 er28 br28 => ?_)
        refine Tr.iload_n (pc := 29) (i := 1) d_X1_paysInParts_29 rfl rfl ?_
        refine Tr.lshr (pc := 30) d_X1_paysInParts_30 ?_
        refine Tr.gen (P := fun v => (-9223372036854775808) ≤ v ∧ v ≤ 9223372036854775807) (i64_b _) (fun r30 er30 br30 => ?_)
        refine Tr.lconst (pc := 31) (v := 1) d_X1_paysInParts_31 rfl (by decide) ?_
        refine Tr.land (pc := 32) d_X1_paysInParts_32 ?_
        refine Tr.gen (P := fun v => v = r30 % 2 ∧ (0 ≤ v ∧ v ≤ 1)) ⟨(f_land_1 _).1, (f_land_1 _).2⟩ (fun r32 er32 br32 => ?_)
        refine Tr.lconst (pc := 33) (v := 1) d_X1_paysInParts_33 rfl (by decide) ?_
        refine Tr.lcmp (pc := 34) d_X1_paysInParts_34 ?_
        refine Tr.gen (P := fun v => (v = 1 ∧ 1 < r32) ∨ (v = 0 ∧ r32 = 1) ∨ (v = -1 ∧ r32 < 1)) (f_lcmp_c _ _) (fun r34 er34 br34 => ?_)
        have J89 : ∀ (M : Mem) (p89_2 : Int), St Tru ws_X1_paysInParts_56_w1 as_X1_paysInParts_56_w1 M0 M → ((-2147483648) ≤ p89_2 ∧ p89_2 ≤ 2147483647) → rd M 60 a1 = r5 → rd M 63 0 = g63_0 → rd M 63 1 = g63_1 → Tr l K 2 mX1_paysInParts 89 [(0, (2, 56)), (1, (0, a1)), (2, (0, p89_2)), (3, (0, p9_3))] [] M (q_X1_paysInParts_56_w1 M0) := by
          intro M p89_2 hS bp89_2 k89_60_a110 k89_63_0 k89_63_1
          refine Tr.iincV (pc := 89) (n2 := (p9_3 + 1)) (ls2 := [(3, (0, (p9_3 + 1))), (0, (2, 56)), (1, (0, a1)), (2, (0, p89_2))]) d_X1_paysInParts_89 rfl (by decide) ((w32_id (by omega)).trans (by omega)) rfl ?_
          refine Tr.goto (pc := 92) (tgt := 9) d_X1_paysInParts_92 rfl ?_
          refine Tr.pick [1, 2, 3, 0] (ls2 := [(0, (2, 56)), (1, (0, a1)), (2, (0, p89_2)), (3, (0, (p9_3 + 1)))]) rfl ?_
          exact J9 _ _ _ hS (by omega) (by omega) k89_60_a110 k89_63_0 k89_63_1 (by omega)
        refine Tr.if_ne (pc := 35) (tgt := 89) d_X1_paysInParts_35 rfl (fun c35 => ?_) (fun c35 => ?_)
        · refine Tr.pick [0, 1, 2, 3] (ls2 := [(0, (2, 56)), (1, (0, a1)), (2, (0, p9_2)), (3, (0, p9_3))]) rfl ?_
          exact J89 _ _ hS (by omega) k9_60_a110 k9_63_0 k9_63_1
        · refine Tr.aload_n (pc := 38) (i := 0) d_X1_paysInParts_38 rfl rfl ?_
          refine Tr.getf (pc := 39) d_X1_paysInParts_39 f_1_33 (by decide) (by decide) (ty_56 hS.1.1) ?_
          refine Tr.tp 63 (fx_56_8 hS.1.1) ?_
          refine Tr.getf (pc := 42) d_X1_paysInParts_42 f_1_101 (by decide) (by decide) (ty_63 hS.1.1) ?_
          refine Tr.gen (P := fun v => v = tref g63_1 4) (tl_ref hS k9_63_1 (by decide)) (fun t42 et42 bt42 => ?_)
          refine Tr.iload_n (pc := 45) (i := 3) d_X1_paysInParts_45 rfl rfl ?_
          have nk46_0 : rd M 63 0 = g63_0 := k9_63_0
          have nn46 := tl_n hS k9_63_1
          refine Tr.iald (pc := 46) d_X1_paysInParts_46 (tl_tyI hS k9_63_1 (j := 4) (by decide) (by decide) bt42) (by omega) (by omega) ?_
          refine Tr.gen (P := fun v => (-2147483648) ≤ v ∧ v ≤ 2147483647) (tl_eI hS k9_63_1 (j := 4) (by decide) (by decide) bt42 (by omega) (by omega)) (fun r46 er46 br46 => ?_)
          refine Tr.aload_n (pc := 47) (i := 0) d_X1_paysInParts_47 rfl rfl ?_
          refine Tr.getf (pc := 48) d_X1_paysInParts_48 f_1_41 (by decide) (by decide) (ty_56 hS.1.1) ?_
          refine Tr.tp 27 ((St.kp hS (by decide) (by decide) (by decide)).trans en_56_1) ?_
          refine Tr.getf (pc := 51) d_X1_paysInParts_51 f_1_71 (by decide) (by decide) (ty_27 hS.1.1) ?_
          refine Tr.tp 29 (fx_27_5 hS.1.1) ?_
          refine Tr.aload_n (pc := 54) (i := 0) d_X1_paysInParts_54 rfl rfl ?_
          refine Tr.getf (pc := 55) d_X1_paysInParts_55 f_1_33 (by decide) (by decide) (ty_56 hS.1.1) ?_
          refine Tr.tp 63 (fx_56_8 hS.1.1) ?_
          refine Tr.getf (pc := 58) d_X1_paysInParts_58 f_1_104 (by decide) (by decide) (ty_63 hS.1.1) ?_
          refine Tr.gen (P := fun v => v = tref g63_1 1) (tl_ref hS k9_63_1 (by decide)) (fun t58 et58 bt58 => ?_)
          refine Tr.iload_n (pc := 61) (i := 3) d_X1_paysInParts_61 rfl rfl ?_
          have nk62_0 : rd M 63 0 = g63_0 := k9_63_0
          have nn62 := tl_n hS k9_63_1
          refine Tr.iald (pc := 62) d_X1_paysInParts_62 (tl_tyI hS k9_63_1 (j := 1) (by decide) (by decide) bt58) (by omega) (by omega) ?_
          refine Tr.gen (P := fun v => 0 ≤ v ∧ v ≤ 5) (tl_eP hS k9_63_1 (j := 1) (by decide) (by decide) bt58 (by omega) (by omega)) (fun r62 er62 br62 => ?_)
          refine Tr.iconst (pc := 63) d_X1_paysInParts_63 (by decide) ?_
          refine Tr.imul (pc := 64) d_X1_paysInParts_64 ?_
          refine Tr.tp (4 * r62) ((w32_id (by omega)).trans (by omega)) ?_
          refine Tr.iconst (pc := 65) d_X1_paysInParts_65 (by decide) ?_
          refine Tr.iadd (pc := 66) d_X1_paysInParts_66 ?_
          refine Tr.tp (4 * r62 + 2) ((w32_id (by omega)).trans (by omega)) ?_
          refine Tr.iald (pc := 67) d_X1_paysInParts_67 (ty_29 hS.1.1) (by omega) (by omega) ?_
          refine Tr.gen (P := fun v => (-1) ≤ v ∧ v ≤ 999) (ar_29 hS.1.2.1 _) (fun r67 er67 br67 => ?_)
          refine Tr.imul (pc := 68) d_X1_paysInParts_68 ?_
          refine Tr.gen (P := fun v => (-2147483648) ≤ v ∧ v ≤ 2147483647) (w32_b _) (fun r68 er68 br68 => ?_)
          refine Tr.istore (pc := 69) (i := 4) (ls2 := [(4, (0, r68)), (0, (2, 56)), (1, (0, a1)), (2, (0, p9_2)), (3, (0, p9_3))]) d_X1_paysInParts_69 (by decide) rfl ?_
          refine Tr.iload_n (pc := 71) (i := 2) d_X1_paysInParts_71 rfl rfl ?_
          refine Tr.iload (pc := 72) (i := 4) d_X1_paysInParts_72 rfl ?_
          refine Tr.aload_n (pc := 74) (i := 0) d_X1_paysInParts_74 rfl rfl ?_
          refine Tr.getf (pc := 75) d_X1_paysInParts_75 f_1_33 (by decide) (by decide) (ty_56 hS.1.1) ?_
          refine Tr.tp 63 (fx_56_8 hS.1.1) ?_
          refine Tr.getf (pc := 78) d_X1_paysInParts_78 f_1_97 (by decide) (by decide) (ty_63 hS.1.1) ?_
          refine Tr.gen (P := fun v => v = tref g63_1 5) (tl_ref hS k9_63_1 (by decide)) (fun t78 et78 bt78 => ?_)
          refine Tr.iload_n (pc := 81) (i := 3) d_X1_paysInParts_81 rfl rfl ?_
          have nk82_0 : rd M 63 0 = g63_0 := k9_63_0
          have nn82 := tl_n hS k9_63_1
          refine Tr.lald (pc := 82) d_X1_paysInParts_82 (tl_tyL hS k9_63_1 bt78) (by omega) (by omega) ?_
          refine Tr.gen (P := fun v => (-9223372036854775808) ≤ v ∧ v ≤ 9223372036854775807) (tl_eL hS k9_63_1 bt78 (by omega) (by omega)) (fun r82 er82 br82 => ?_)
          refine Tr.iload_n (pc := 83) (i := 1) d_X1_paysInParts_83 rfl rfl ?_
          refine Tr.callS (pc := 84) (as := [_, _, _]) d_X1_paysInParts_84 s_1_107 ok_X1_part rfl rfl (Nat.le_of_ble_eq_true rfl) (Nat.le_of_ble_eq_true rfl) ?_
          refine Tr.imp (Tr.deep (by decide) (sp_X1_part hS.1 r68 (by omega) r82 (by omega) a1 (by omega))) ?_
          rintro M84 _ ⟨h84, r84, rfl, lr84, ur84⟩
          have hS := St.tr hS h84 (by decide) (by decide)
          refine Tr.sc [(0, r84), (0, p9_2)] rfl ?_
          refine Tr.iadd (pc := 87) d_X1_paysInParts_87 ?_
          refine Tr.gen (P := fun v => (-2147483648) ≤ v ∧ v ≤ 2147483647) (w32_b _) (fun r87 er87 br87 => ?_)
          refine Tr.istore_n (pc := 88) (i := 2) (ls2 := [(2, (0, r87)), (4, (0, r68)), (0, (2, 56)), (1, (0, a1)), (3, (0, p9_3))]) d_X1_paysInParts_88 rfl (by decide) rfl ?_
          refine Tr.pick [2, 3, 0, 4] (ls2 := [(0, (2, 56)), (1, (0, a1)), (2, (0, r87)), (3, (0, p9_3))]) rfl ?_
          exact J89 _ _ hS (by omega) ((St.ka h84 (by decide) (by decide) (by decide)).trans k9_60_a110) ((St.kp h84 (by decide) (by decide) (by decide)).trans k9_63_0) ((St.kp h84 (by decide) (by decide) (by decide)).trans k9_63_1)
  refine Tr.pick [2, 3, 1, 0] (ls2 := [(0, (2, 56)), (1, (0, a1)), (2, (0, r5)), (3, (0, 0))]) rfl ?_
  exact J9 _ _ _ _ hS (by omega) (by omega) er5 eg63_0 eg63_1 (Nat.lt_succ_self _)

def ws_X1_sippedAsleep_56_w1 : List (Int × Int) := []
def as_X1_sippedAsleep_56_w1 : List Int := []
def q_X1_sippedAsleep_56_w1 (M0 M' : Mem) (r : Option PV) : Prop := St Tru ws_X1_sippedAsleep_56_w1 as_X1_sippedAsleep_56_w1 M0 M' ∧ ∃ v : Int, r = some (0, v) ∧ (-2147483648) ≤ v ∧ v ≤ 2147483647
set_option maxRecDepth 100000 in
set_option maxHeartbeats 4000000 in
theorem sp_X1_sippedAsleep_56_w1 {l : Launch} {K : EC} {M0 : Mem} (hI : In Tru M0) (en_56_1 : rd M0 56 1 = 27)   : Tr l K 0 mX1_sippedAsleep 0 [(0, (2, 56))] [] M0 (q_X1_sippedAsleep_56_w1 M0) := by
  have hS : St Tru ws_X1_sippedAsleep_56_w1 as_X1_sippedAsleep_56_w1 M0 M0 := St.rf hI
  refine Tr.iconst (pc := 0) d_X1_sippedAsleep_0 (by decide) ?_
  refine Tr.istore_n (pc := 1) (i := 1) (ls2 := [(1, (0, 0)), (0, (2, 56))]) d_X1_sippedAsleep_1 rfl (by decide) rfl ?_
  refine Tr.iconst (pc := 2) d_X1_sippedAsleep_2 (by decide) ?_
  refine Tr.istore_n (pc := 3) (i := 2) (ls2 := [(2, (0, 0)), (1, (0, 0)), (0, (2, 56))]) d_X1_sippedAsleep_3 rfl (by decide) rfl ?_
  have J4 : ∀ (n4 : Nat) (M : Mem) (p4_1 p4_2 : Int), St Tru ws_X1_sippedAsleep_56_w1 as_X1_sippedAsleep_56_w1 M0 M → ((-2147483648) ≤ p4_1 ∧ p4_1 ≤ 2147483647) → (0 ≤ p4_2 ∧ p4_2 ≤ 6) → (6 - p4_2).toNat < n4 → Tr l K 0 mX1_sippedAsleep 4 [(0, (2, 56)), (1, (0, p4_1)), (2, (0, p4_2))] [] M (q_X1_sippedAsleep_56_w1 M0) := by
    intro n4
    induction n4 with
    | zero => intro M p4_1 p4_2 hS bp4_1 bp4_2  hm4; exact absurd hm4 (Nat.not_lt_zero _)
    | succ n4 J4 =>
      intro M p4_1 p4_2 hS bp4_1 bp4_2  hm4
      refine Tr.iload_n (pc := 4) (i := 2) d_X1_sippedAsleep_4 rfl rfl ?_
      refine Tr.aload_n (pc := 5) (i := 0) d_X1_sippedAsleep_5 rfl rfl ?_
      refine Tr.getf (pc := 6) d_X1_sippedAsleep_6 f_1_41 (by decide) (by decide) (ty_56 hS.1.1) ?_
      refine Tr.tp 27 ((St.kp hS (by decide) (by decide) (by decide)).trans en_56_1) ?_
      refine Tr.getf (pc := 9) d_X1_sippedAsleep_9 f_1_91 (by decide) (by decide) (ty_27 hS.1.1) ?_
      refine Tr.tp 28 (fx_27_4 hS.1.1) ?_
      refine Tr.iconst (pc := 12) d_X1_sippedAsleep_12 (by decide) ?_
      refine Tr.iald (pc := 13) d_X1_sippedAsleep_13 (ty_28 hS.1.1) (by omega) (by omega) ?_
      refine Tr.gen (P := fun v => 0 ≤ v ∧ v ≤ 6) (ir_28_0 hS.1.2.1) (fun r13 er13 br13 => ?_)
      refine Tr.icmp_ge (pc := 14) (tgt := 50) d_X1_sippedAsleep_14 rfl (fun c14 => ?_) (fun c14 => ?_)
      · refine Tr.iload_n (pc := 50) (i := 1) d_X1_sippedAsleep_50 rfl rfl ?_
        exact Tr.iret (pc := 51) d_X1_sippedAsleep_51 rfl ⟨hS, _, rfl, by omega, by omega⟩
      · refine Tr.iload_n (pc := 17) (i := 1) d_X1_sippedAsleep_17 rfl rfl ?_
        refine Tr.aload_n (pc := 18) (i := 0) d_X1_sippedAsleep_18 rfl rfl ?_
        refine Tr.getf (pc := 19) d_X1_sippedAsleep_19 f_1_9 (by decide) (by decide) (ty_56 hS.1.1) ?_
        refine Tr.tp 57 (fx_56_2 hS.1.1) ?_
        refine Tr.iload_n (pc := 22) (i := 2) d_X1_sippedAsleep_22 rfl rfl ?_
        refine Tr.iconst (pc := 23) d_X1_sippedAsleep_23 (by decide) ?_
        refine Tr.imul (pc := 24) d_X1_sippedAsleep_24 ?_
        refine Tr.tp (4 * p4_2) ((w32_id (by omega)).trans (by omega)) ?_
        refine Tr.iconst (pc := 25) d_X1_sippedAsleep_25 (by decide) ?_
        refine Tr.iadd (pc := 26) d_X1_sippedAsleep_26 ?_
        refine Tr.tp (4 * p4_2) ((w32_id (by omega)).trans (by omega)) ?_
        refine Tr.iald (pc := 27) d_X1_sippedAsleep_27 (ty_57 hS.1.1) (by omega) (by omega) ?_
        refine Tr.gen (P := fun v => (-2147483648) ≤ v ∧ v ≤ 2147483647) (ar_57 hS.1.2.1 _) (fun r27 er27 br27 => ?_)
        refine Tr.aload_n (pc := 28) (i := 0) d_X1_sippedAsleep_28 rfl rfl ?_
        refine Tr.getf (pc := 29) d_X1_sippedAsleep_29 f_1_41 (by decide) (by decide) (ty_56 hS.1.1) ?_
        refine Tr.tp 27 ((St.kp hS (by decide) (by decide) (by decide)).trans en_56_1) ?_
        refine Tr.getf (pc := 32) d_X1_sippedAsleep_32 f_1_71 (by decide) (by decide) (ty_27 hS.1.1) ?_
        refine Tr.tp 29 (fx_27_5 hS.1.1) ?_
        refine Tr.iload_n (pc := 35) (i := 2) d_X1_sippedAsleep_35 rfl rfl ?_
        refine Tr.iconst (pc := 36) d_X1_sippedAsleep_36 (by decide) ?_
        refine Tr.imul (pc := 37) d_X1_sippedAsleep_37 ?_
        refine Tr.tp (4 * p4_2) ((w32_id (by omega)).trans (by omega)) ?_
        refine Tr.iconst (pc := 38) d_X1_sippedAsleep_38 (by decide) ?_
        refine Tr.iadd (pc := 39) d_X1_sippedAsleep_39 ?_
        refine Tr.tp (4 * p4_2) ((w32_id (by omega)).trans (by omega)) ?_
        refine Tr.iald (pc := 40) d_X1_sippedAsleep_40 (ty_29 hS.1.1) (by omega) (by omega) ?_
        refine Tr.gen (P := fun v => (-1) ≤ v ∧ v ≤ 999) (ar_29 hS.1.2.1 _) (fun r40 er40 br40 => ?_)
        refine Tr.imul (pc := 41) d_X1_sippedAsleep_41 ?_
        refine Tr.gen (P := fun v => (-2147483648) ≤ v ∧ v ≤ 2147483647) (w32_b _) (fun r41 er41 br41 => ?_)
        refine Tr.iadd (pc := 42) d_X1_sippedAsleep_42 ?_
        refine Tr.gen (P := fun v => (-2147483648) ≤ v ∧ v ≤ 2147483647) (w32_b _) (fun r42 er42 br42 => ?_)
        refine Tr.istore_n (pc := 43) (i := 1) (ls2 := [(1, (0, r42)), (0, (2, 56)), (2, (0, p4_2))]) d_X1_sippedAsleep_43 rfl (by decide) rfl ?_
        refine Tr.iincV (pc := 44) (n2 := (p4_2 + 1)) (ls2 := [(2, (0, (p4_2 + 1))), (1, (0, r42)), (0, (2, 56))]) d_X1_sippedAsleep_44 rfl (by decide) ((w32_id (by omega)).trans (by omega)) rfl ?_
        refine Tr.goto (pc := 47) (tgt := 4) d_X1_sippedAsleep_47 rfl ?_
        refine Tr.pick [2, 1, 0] (ls2 := [(0, (2, 56)), (1, (0, r42)), (2, (0, (p4_2 + 1)))]) rfl ?_
        exact J4 _ _ _ hS (by omega) (by omega) (by omega)
  refine Tr.pick [2, 1, 0] (ls2 := [(0, (2, 56)), (1, (0, 0)), (2, (0, 0))]) rfl ?_
  exact J4 _ _ _ _ hS (by omega) (by omega) (Nat.lt_succ_self _)

def ws_X11_pays_0_w2 : List (Int × Int) := []
def as_X11_pays_0_w2 : List Int := []
def q_X11_pays_0_w2 (M0 M' : Mem) (r : Option PV) : Prop := St Tru ws_X11_pays_0_w2 as_X11_pays_0_w2 M0 M' ∧ ∃ v : Int, r = some (0, v) ∧ (-2147483648) ≤ v ∧ v ≤ 2147483647
set_option maxRecDepth 100000 in
set_option maxHeartbeats 4000000 in
theorem sp_X11_pays_0_w2 {l : Launch} {K : EC} {M0 : Mem} (hI : In Tru M0) (en_0_4 : rd M0 0 4 = 27) (en_0_9 : rd M0 0 9 = 1) (en_56_1 : rd M0 56 1 = 27) (a1 : Int) (ha1 : (-2147483648) ≤ a1 ∧ a1 ≤ 2147483647) (a2 : Int) (ha2 : (-2147483648) ≤ a2 ∧ a2 ≤ 2147483647)  : Tr l K 3 mX11_pays 0 [(0, (2, 0)), (1, (0, a1)), (2, (0, a2))] [] M0 (q_X11_pays_0_w2 M0) := by
  have hS : St Tru ws_X11_pays_0_w2 as_X11_pays_0_w2 M0 M0 := St.rf hI
  refine Tr.aload_n (pc := 0) (i := 0) d_X11_pays_0 rfl rfl ?_
  refine Tr.getz (pc := 1) d_X11_pays_1 f_11_109 (by decide) (ty_0 hS.1.1) ?_
  refine Tr.tp 1 ((St.kp hS (by decide) (by decide) (by decide)).trans en_0_9) ?_
  refine Tr.if_eq (pc := 4) (tgt := 16) d_X11_pays_4 rfl (fun hc => absurd hc (by omega)) (fun _ => ?_)
  refine Tr.iload_n (pc := 7) (i := 2) d_X11_pays_7 rfl rfl ?_
  refine Tr.if_lt (pc := 8) (tgt := 16) d_X11_pays_8 rfl (fun c8 => ?_) (fun c8 => ?_)
  · refine Tr.iconst (pc := 16) d_X11_pays_16 (by decide) ?_
    exact Tr.iret (pc := 17) d_X11_pays_17 rfl ⟨hS, _, rfl, by omega, by omega⟩
  · refine Tr.iload_n (pc := 11) (i := 2) d_X11_pays_11 rfl rfl ?_
    refine Tr.iconst (pc := 12) d_X11_pays_12 (by decide) ?_
    refine Tr.icmp_le (pc := 13) (tgt := 18) d_X11_pays_13 rfl (fun c13 => ?_) (fun c13 => ?_)
    · refine Tr.iload_n (pc := 18) (i := 1) d_X11_pays_18 rfl rfl ?_
      refine Tr.iconst (pc := 19) d_X11_pays_19 (by decide) ?_
      refine Tr.icmp_ne (pc := 20) (tgt := 34) d_X11_pays_20 rfl (fun c20 => ?_) (fun c20 => ?_)
      · refine Tr.aload_n (pc := 34) (i := 0) d_X11_pays_34 rfl rfl ?_
        refine Tr.iload_n (pc := 35) (i := 1) d_X11_pays_35 rfl rfl ?_
        refine Tr.callV (pc := 36) (as := [_]) d_X11_pays_36 s_11_191 ok_X11_isLine rfl rfl (Nat.le_of_ble_eq_true rfl) (Nat.le_of_ble_eq_true rfl) (by decide) (ty_0 hS.1.1) ?_
        refine Tr.imp (Tr.deep (by decide) (sp_X11_isLine_0_w1 hS.1 ((St.kp hS (by decide) (by decide) (by decide)).trans en_0_4) a1 (by omega))) ?_
        rintro M36 _ ⟨h36, r36, rfl, lr36, ur36, wr36⟩
        have hS := St.tr hS h36 (by decide) (by decide)
        refine Tr.sc [(0, r36)] rfl ?_
        refine Tr.if_ne (pc := 39) (tgt := 44) d_X11_pays_39 rfl (fun c39 => ?_) (fun c39 => ?_)
        · refine Tr.iload_n (pc := 44) (i := 2) d_X11_pays_44 rfl rfl ?_
          refine Tr.if_ne (pc := 45) (tgt := 62) d_X11_pays_45 rfl (fun c45 => ?_) (fun c45 => ?_)
          · refine Tr.aload_n (pc := 62) (i := 0) d_X11_pays_62 rfl rfl ?_
            refine Tr.getf (pc := 63) d_X11_pays_63 f_11_46 (by decide) (by decide) (ty_0 hS.1.1) ?_
            refine Tr.tp 48 (fx_0_7 hS.1.1) ?_
            refine Tr.getf (pc := 66) d_X11_pays_66 f_11_178 (by decide) (by decide) (ty_48 hS.1.1) ?_
            refine Tr.tp 56 (fx_48_0 hS.1.1) ?_
            refine Tr.iload_n (pc := 69) (i := 1) d_X11_pays_69 rfl rfl ?_
            refine Tr.callV (pc := 70) (as := [_]) d_X11_pays_70 s_11_198 ok_X1_paysInParts rfl rfl (Nat.le_of_ble_eq_true rfl) (Nat.le_of_ble_eq_true rfl) (by decide) (ty_56 hS.1.1) ?_
            refine Tr.imp (Tr.deep (by decide) (sp_X1_paysInParts_56_w1 hS.1 ((St.kp hS (by decide) (by decide) (by decide)).trans en_56_1) a1 (by omega))) ?_
            rintro M70 _ ⟨h70, r70, rfl, lr70, ur70⟩
            have hS := St.tr hS h70 (by decide) (by decide)
            refine Tr.sc [(0, r70)] rfl ?_
            exact Tr.iret (pc := 73) d_X11_pays_73 rfl ⟨hS, _, rfl, by omega, by omega⟩
          · refine Tr.aload_n (pc := 48) (i := 0) d_X11_pays_48 rfl rfl ?_
            refine Tr.getf (pc := 49) d_X11_pays_49 f_11_46 (by decide) (by decide) (ty_0 hS.1.1) ?_
            refine Tr.tp 48 (fx_0_7 hS.1.1) ?_
            refine Tr.getf (pc := 52) d_X11_pays_52 f_11_178 (by decide) (by decide) (ty_48 hS.1.1) ?_
            refine Tr.tp 56 (fx_48_0 hS.1.1) ?_
            refine Tr.iload_n (pc := 55) (i := 1) d_X11_pays_55 rfl rfl ?_
            refine Tr.callV (pc := 56) (as := [_]) d_X11_pays_56 s_11_194 ok_X1_paysAsLast rfl rfl (Nat.le_of_ble_eq_true rfl) (Nat.le_of_ble_eq_true rfl) (by decide) (ty_56 hS.1.1) ?_
            refine Tr.imp (Tr.deep (by decide) (sp_X1_paysAsLast_56 hS.1 a1 (by omega))) ?_
            rintro M56 _ ⟨h56, r56, rfl, lr56, ur56⟩
            have hS := St.tr hS h56 (by decide) (by decide)
            refine Tr.sc [(0, r56)] rfl ?_
            refine Tr.goto (pc := 59) (tgt := 73) d_X11_pays_59 rfl ?_
            exact Tr.iret (pc := 73) d_X11_pays_73 rfl ⟨hS, _, rfl, by omega, by omega⟩
        · refine Tr.iconst (pc := 42) d_X11_pays_42 (by decide) ?_
          exact Tr.iret (pc := 43) d_X11_pays_43 rfl ⟨hS, _, rfl, by omega, by omega⟩
      · refine Tr.aload_n (pc := 23) (i := 0) d_X11_pays_23 rfl rfl ?_
        refine Tr.getf (pc := 24) d_X11_pays_24 f_11_46 (by decide) (by decide) (ty_0 hS.1.1) ?_
        refine Tr.tp 48 (fx_0_7 hS.1.1) ?_
        refine Tr.getf (pc := 27) d_X11_pays_27 f_11_178 (by decide) (by decide) (ty_48 hS.1.1) ?_
        refine Tr.tp 56 (fx_48_0 hS.1.1) ?_
        refine Tr.callV (pc := 30) (as := []) d_X11_pays_30 s_11_187 ok_X1_sippedAsleep rfl rfl (Nat.le_of_ble_eq_true rfl) (Nat.le_of_ble_eq_true rfl) (by decide) (ty_56 hS.1.1) ?_
        refine Tr.imp (Tr.deep (by decide) (sp_X1_sippedAsleep_56_w1 hS.1 ((St.kp hS (by decide) (by decide) (by decide)).trans en_56_1))) ?_
        rintro M30 _ ⟨h30, r30, rfl, lr30, ur30⟩
        have hS := St.tr hS h30 (by decide) (by decide)
        refine Tr.sc [(0, r30)] rfl ?_
        exact Tr.iret (pc := 33) d_X11_pays_33 rfl ⟨hS, _, rfl, by omega, by omega⟩
    · refine Tr.iconst (pc := 16) d_X11_pays_16 (by decide) ?_
      exact Tr.iret (pc := 17) d_X11_pays_17 rfl ⟨hS, _, rfl, by omega, by omega⟩

def ws_X11_stretches_0_w2 : List (Int × Int) := []
def as_X11_stretches_0_w2 : List Int := []
def q_X11_stretches_0_w2 (M0 M' : Mem) (r : Option PV) : Prop := St Tru ws_X11_stretches_0_w2 as_X11_stretches_0_w2 M0 M' ∧ ∃ v : Int, r = some (0, v) ∧ (-2147483648) ≤ v ∧ v ≤ 2147483647
set_option maxRecDepth 100000 in
set_option maxHeartbeats 4000000 in
theorem sp_X11_stretches_0_w2 {l : Launch} {K : EC} {M0 : Mem} (hI : In Tru M0) (en_0_4 : rd M0 0 4 = 27) (en_0_9 : rd M0 0 9 = 1) (a1 : Int) (ha1 : (-2147483648) ≤ a1 ∧ a1 ≤ 2147483647)  : Tr l K 1 mX11_stretches 0 [(0, (2, 0)), (1, (0, a1))] [] M0 (q_X11_stretches_0_w2 M0) := by
  have hS : St Tru ws_X11_stretches_0_w2 as_X11_stretches_0_w2 M0 M0 := St.rf hI
  refine Tr.aload_n (pc := 0) (i := 0) d_X11_stretches_0 rfl rfl ?_
  refine Tr.getz (pc := 1) d_X11_stretches_1 f_11_109 (by decide) (ty_0 hS.1.1) ?_
  refine Tr.tp 1 ((St.kp hS (by decide) (by decide) (by decide)).trans en_0_9) ?_
  refine Tr.if_eq (pc := 4) (tgt := 15) d_X11_stretches_4 rfl (fun hc => absurd hc (by omega)) (fun _ => ?_)
  refine Tr.aload_n (pc := 7) (i := 0) d_X11_stretches_7 rfl rfl ?_
  refine Tr.iload_n (pc := 8) (i := 1) d_X11_stretches_8 rfl rfl ?_
  refine Tr.callV (pc := 9) (as := [_]) d_X11_stretches_9 s_11_174 ok_X11_isPart rfl rfl (Nat.le_of_ble_eq_true rfl) (Nat.le_of_ble_eq_true rfl) (by decide) (ty_0 hS.1.1) ?_
  refine Tr.imp (Tr.deep (by decide) (sp_X11_isPart_0_w1 hS.1 ((St.kp hS (by decide) (by decide) (by decide)).trans en_0_4) a1 (by omega))) ?_
  rintro M9 _ ⟨h9, r9, rfl, lr9, ur9, wr9⟩
  have hS := St.tr hS h9 (by decide) (by decide)
  refine Tr.sc [(0, r9)] rfl ?_
  refine Tr.if_ne (pc := 12) (tgt := 17) d_X11_stretches_12 rfl (fun c12 => ?_) (fun c12 => ?_)
  · refine Tr.aload_n (pc := 17) (i := 0) d_X11_stretches_17 rfl rfl ?_
    refine Tr.getf (pc := 18) d_X11_stretches_18 f_11_46 (by decide) (by decide) (ty_0 hS.1.1) ?_
    refine Tr.tp 48 (fx_0_7 hS.1.1) ?_
    refine Tr.getf (pc := 21) d_X11_stretches_21 f_11_178 (by decide) (by decide) (ty_48 hS.1.1) ?_
    refine Tr.tp 56 (fx_48_0 hS.1.1) ?_
    refine Tr.getf (pc := 24) d_X11_stretches_24 f_11_201 (by decide) (by decide) (ty_56 hS.1.1) ?_
    refine Tr.tp 63 (fx_56_8 hS.1.1) ?_
    refine Tr.iload_n (pc := 27) (i := 1) d_X11_stretches_27 rfl rfl ?_
    refine Tr.callV (pc := 28) (as := [_]) d_X11_stretches_28 s_11_205 ok_X8_countOf rfl rfl (Nat.le_of_ble_eq_true rfl) (Nat.le_of_ble_eq_true rfl) (by decide) (ty_63 hS.1.1) ?_
    refine Tr.imp (Tr.deep (by decide) (sp_X8_countOf_63 hS.1 a1 (by omega))) ?_
    rintro M28 _ ⟨h28, r28, rfl, lr28, ur28⟩
    have hS := St.tr hS h28 (by decide) (by decide)
    refine Tr.sc [(0, r28)] rfl ?_
    exact Tr.iret (pc := 31) d_X11_stretches_31 rfl ⟨hS, _, rfl, by omega, by omega⟩
  · refine Tr.iconst (pc := 15) d_X11_stretches_15 (by decide) ?_
    exact Tr.iret (pc := 16) d_X11_stretches_16 rfl ⟨hS, _, rfl, by omega, by omega⟩

def ws_X11_stretchPlace_0_w2 : List (Int × Int) := []
def as_X11_stretchPlace_0_w2 : List Int := []
def q_X11_stretchPlace_0_w2 (a1 : Int) (a2 : Int) (M0 M' : Mem) (r : Option PV) : Prop := St Tru ws_X11_stretchPlace_0_w2 as_X11_stretchPlace_0_w2 M0 M' ∧ ∃ v : Int, r = some (0, v) ∧ (-1) ≤ v ∧ v ≤ 2015 ∧ (v < rd M' 63 0 ∨ v = -1)
set_option maxRecDepth 100000 in
set_option maxHeartbeats 4000000 in
theorem sp_X11_stretchPlace_0_w2 {l : Launch} {K : EC} {M0 : Mem} (hI : In Tru M0) (en_0_4 : rd M0 0 4 = 27) (en_0_9 : rd M0 0 9 = 1) (a1 : Int) (ha1 : (-2147483648) ≤ a1 ∧ a1 ≤ 2147483647) (a2 : Int) (ha2 : (-2147483648) ≤ a2 ∧ a2 ≤ 2147483647)  : Tr l K 1 mX11_stretchPlace 0 [(0, (2, 0)), (1, (0, a1)), (2, (0, a2))] [] M0 (q_X11_stretchPlace_0_w2 a1 a2 M0) := by
  have hS : St Tru ws_X11_stretchPlace_0_w2 as_X11_stretchPlace_0_w2 M0 M0 := St.rf hI
  obtain ⟨g63_1, eg63_1⟩ : ∃ v, rd M0 63 1 = v := ⟨_, rfl⟩
  have bg63_1 : (-1000000000) ≤ g63_1 ∧ g63_1 ≤ 1000000000 := by rw [← eg63_1]; exact ir_63_1 hI.2.1
  obtain ⟨g63_0, eg63_0⟩ : ∃ v, rd M0 63 0 = v := ⟨_, rfl⟩
  have bg63_0 : (-2147483648) ≤ g63_0 ∧ g63_0 ≤ 2147483647 := by rw [← eg63_0]; exact ir_63_0 hI.2.1
  refine Tr.aload_n (pc := 0) (i := 0) d_X11_stretchPlace_0 rfl rfl ?_
  refine Tr.getz (pc := 1) d_X11_stretchPlace_1 f_11_109 (by decide) (ty_0 hS.1.1) ?_
  refine Tr.tp 1 ((St.kp hS (by decide) (by decide) (by decide)).trans en_0_9) ?_
  refine Tr.if_eq (pc := 4) (tgt := 19) d_X11_stretchPlace_4 rfl (fun hc => absurd hc (by omega)) (fun _ => ?_)
  refine Tr.aload_n (pc := 7) (i := 0) d_X11_stretchPlace_7 rfl rfl ?_
  refine Tr.iload_n (pc := 8) (i := 1) d_X11_stretchPlace_8 rfl rfl ?_
  refine Tr.callV (pc := 9) (as := [_]) d_X11_stretchPlace_9 s_11_174 ok_X11_isPart rfl rfl (Nat.le_of_ble_eq_true rfl) (Nat.le_of_ble_eq_true rfl) (by decide) (ty_0 hS.1.1) ?_
  refine Tr.imp (Tr.deep (by decide) (sp_X11_isPart_0_w1 hS.1 ((St.kp hS (by decide) (by decide) (by decide)).trans en_0_4) a1 (by omega))) ?_
  rintro M9 _ ⟨h9, r9, rfl, lr9, ur9, wr9⟩
  have hS := St.tr hS h9 (by decide) (by decide)
  refine Tr.sc [(0, r9)] rfl ?_
  refine Tr.if_eq (pc := 12) (tgt := 19) d_X11_stretchPlace_12 rfl (fun c12 => ?_) (fun c12 => ?_)
  · refine Tr.iconst (pc := 19) d_X11_stretchPlace_19 (by decide) ?_
    have kr_63_0 : rd M9 63 0 = g63_0 := ((St.kp h9 (by decide) (by decide) (by decide)).trans eg63_0)
    exact Tr.iret (pc := 20) d_X11_stretchPlace_20 rfl ⟨hS, _, rfl, by omega, by omega, by omega⟩
  · refine Tr.iload_n (pc := 15) (i := 2) d_X11_stretchPlace_15 rfl rfl ?_
    refine Tr.if_ge (pc := 16) (tgt := 21) d_X11_stretchPlace_16 rfl (fun c16 => ?_) (fun c16 => ?_)
    · refine Tr.aload_n (pc := 21) (i := 0) d_X11_stretchPlace_21 rfl rfl ?_
      refine Tr.getf (pc := 22) d_X11_stretchPlace_22 f_11_46 (by decide) (by decide) (ty_0 hS.1.1) ?_
      refine Tr.tp 48 (fx_0_7 hS.1.1) ?_
      refine Tr.getf (pc := 25) d_X11_stretchPlace_25 f_11_178 (by decide) (by decide) (ty_48 hS.1.1) ?_
      refine Tr.tp 56 (fx_48_0 hS.1.1) ?_
      refine Tr.getf (pc := 28) d_X11_stretchPlace_28 f_11_201 (by decide) (by decide) (ty_56 hS.1.1) ?_
      refine Tr.tp 63 (fx_56_8 hS.1.1) ?_
      refine Tr.iload_n (pc := 31) (i := 1) d_X11_stretchPlace_31 rfl rfl ?_
      refine Tr.iload_n (pc := 32) (i := 2) d_X11_stretchPlace_32 rfl rfl ?_
      refine Tr.callV (pc := 33) (as := [_, _]) d_X11_stretchPlace_33 s_11_210 ok_X8_placeOf rfl rfl (Nat.le_of_ble_eq_true rfl) (Nat.le_of_ble_eq_true rfl) (by decide) (ty_63 hS.1.1) ?_
      refine Tr.imp (Tr.deep (by decide) (sp_X8_placeOf_63 hS.1 a1 (by omega) a2 (by omega))) ?_
      rintro M33 _ ⟨h33, r33, rfl, lr33, ur33, z33_0⟩
      have hS := St.tr hS h33 (by decide) (by decide)
      have ka33_63_0 : rd M33 63 0 = g63_0 := ((St.kp h33 (by decide) (by decide) (by decide)).trans ((St.kp h9 (by decide) (by decide) (by decide)).trans eg63_0))
      refine Tr.sc [(0, r33)] rfl ?_
      have kr_63_0 : rd M33 63 0 = g63_0 := ((St.kp h33 (by decide) (by decide) (by decide)).trans ((St.kp h9 (by decide) (by decide) (by decide)).trans eg63_0))
      exact Tr.iret (pc := 36) d_X11_stretchPlace_36 rfl ⟨hS, _, rfl, by omega, by omega, by omega⟩
    · refine Tr.iconst (pc := 19) d_X11_stretchPlace_19 (by decide) ?_
      have kr_63_0 : rd M9 63 0 = g63_0 := ((St.kp h9 (by decide) (by decide) (by decide)).trans eg63_0)
      exact Tr.iret (pc := 20) d_X11_stretchPlace_20 rfl ⟨hS, _, rfl, by omega, by omega, by omega⟩
