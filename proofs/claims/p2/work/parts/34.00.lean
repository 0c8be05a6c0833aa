def ws_X3_letterOf_7 : List (Int × Int) := []
def as_X3_letterOf_7 : List Int := []
def q_X3_letterOf_7 (M0 M' : Mem) (r : Option PV) : Prop := St Tru ws_X3_letterOf_7 as_X3_letterOf_7 M0 M' ∧ ∃ v : Int, r = some (0, v) ∧ (-2147483648) ≤ v ∧ v ≤ 2147483647
set_option maxRecDepth 100000 in
set_option maxHeartbeats 4000000 in
theorem sp_X3_letterOf_7 {l : Launch} {K : EC} {M0 : Mem} {xq : Int} (hI : In Tru M0) (hE : e_all K xq)  (a1 : Int) (ha1 : 0 ≤ a1 ∧ a1 ≤ 2) (a2 : Int) (ha2 : 0 ≤ a2 ∧ a2 ≤ 5) (a3 : Int) (ha3 : (-2147483648) ≤ a3 ∧ a3 ≤ 2147483647)  : Tr l K 0 mX3_letterOf 0 [(0, (2, 7)), (1, (0, a1)), (2, (0, a2)), (3, (0, a3))] [] M0 (q_X3_letterOf_7 M0) := by
  have hS : St Tru ws_X3_letterOf_7 as_X3_letterOf_7 M0 M0 := St.rf hI
  refine Tr.aload_n (pc := 0) (i := 0) d_X3_letterOf_0 rfl rfl ?_
  refine Tr.getf (pc := 1) d_X3_letterOf_1 f_3_30 (by decide) (by decide) (ty_7 hS.1.1) ?_
  refine Tr.tp 14 (fx_7_10 hS.1.1) ?_
  refine Tr.gets (pc := 4) d_X3_letterOf_4 sl_3_65 hE.2.2.2.2.1 ?_
  refine Tr.iload_n (pc := 7) (i := 1) d_X3_letterOf_7 rfl rfl ?_
  refine Tr.xld (pc := 8) (i := 2) d_X3_letterOf_8 rfl hE.2.1 (by omega) (by omega) ?_
  refine Tr.gen (P := fun v => 0 ≤ v ∧ v ≤ 9) (xT_b (q := xr_2) (by decide +kernel) (by decide) _) (fun r8 er8 br8 => ?_)
  refine Tr.iload_n (pc := 9) (i := 2) d_X3_letterOf_9 rfl rfl ?_
  refine Tr.iadd (pc := 10) d_X3_letterOf_10 ?_
  refine Tr.tp (a2 + r8) ((w32_id (by omega)).trans (by omega)) ?_
  refine Tr.iald (pc := 11) d_X3_letterOf_11 (ty_14 hS.1.1) (by omega) (by omega) ?_
  refine Tr.gen (P := fun v => (-2147483648) ≤ v ∧ v ≤ 2147483647) (ar_14 hS.1.2.1 _) (fun r11 er11 br11 => ?_)
  refine Tr.istore (pc := 12) (i := 4) (ls2 := [(4, (0, r11)), (0, (2, 7)), (1, (0, a1)), (2, (0, a2)), (3, (0, a3))]) d_X3_letterOf_12 (by decide) rfl ?_
  refine Tr.iconst (pc := 14) d_X3_letterOf_14 (by decide) ?_
  refine Tr.istore (pc := 15) (i := 5) (ls2 := [(5, (0, 0)), (4, (0, r11)), (0, (2, 7)), (1, (0, a1)), (2, (0, a2)), (3, (0, a3))]) d_X3_letterOf_15 (by decide) rfl ?_
  refine Tr.iload (pc := 17) (i := 4) d_X3_letterOf_17 rfl ?_
  refine Tr.istore (pc := 19) (i := 6) (ls2 := [(6, (0, r11)), (5, (0, 0)), (4, (0, r11)), (0, (2, 7)), (1, (0, a1)), (2, (0, a2)), (3, (0, a3))]) d_X3_letterOf_19 (by decide) rfl ?_
  have J21 : ∀ (n21 : Nat) (M : Mem) (p21_5 p21_6 : Int), St Tru ws_X3_letterOf_7 as_X3_letterOf_7 M0 M → (0 ≤ p21_5 ∧ p21_5 ≤ 6) → ((-2147483648) ≤ p21_6 ∧ p21_6 ≤ 2147483647) → rd M 14 (a2 + r8) = r11 → (6 - p21_5).toNat < n21 → Tr l K 0 mX3_letterOf 21 [(3, (0, a3)), (4, (0, r11)), (5, (0, p21_5)), (6, (0, p21_6))] [] M (q_X3_letterOf_7 M0) := by
    intro n21
    induction n21 with
    | zero => intro M p21_5 p21_6 hS bp21_5 bp21_6 k21_14_a21r810 hm21; exact absurd hm21 (Nat.not_lt_zero _)
    | succ n21 J21 =>
      intro M p21_5 p21_6 hS bp21_5 bp21_6 k21_14_a21r810 hm21
      refine Tr.iload (pc := 21) (i := 6) d_X3_letterOf_21 rfl ?_
      have J46 : ∀ (M : Mem), St Tru ws_X3_letterOf_7 as_X3_letterOf_7 M0 M → rd M 14 (a2 + r8) = r11 → Tr l K 0 mX3_letterOf 46 [(3, (0, a3)), (4, (0, r11)), (5, (0, p21_5))] [] M (q_X3_letterOf_7 M0) := by
        intro M  hS  k46_14_a21r810
        refine Tr.iload_n (pc := 46) (i := 3) d_X3_letterOf_46 rfl rfl ?_
        refine Tr.if_lt (pc := 47) (tgt := 56) d_X3_letterOf_47 rfl (fun c47 => ?_) (fun c47 => ?_)
        · refine Tr.iconst (pc := 56) d_X3_letterOf_56 (by decide) ?_
          exact Tr.iret (pc := 57) d_X3_letterOf_57 rfl ⟨hS, _, rfl, by omega, by omega⟩
        · refine Tr.iload_n (pc := 50) (i := 3) d_X3_letterOf_50 rfl rfl ?_
          refine Tr.iload (pc := 51) (i := 5) d_X3_letterOf_51 rfl ?_
          refine Tr.icmp_lt (pc := 53) (tgt := 58) d_X3_letterOf_53 rfl (fun c53 => ?_) (fun c53 => ?_)
          · refine Tr.iload (pc := 58) (i := 5) d_X3_letterOf_58 rfl ?_
            refine Tr.iconst (pc := 60) d_X3_letterOf_60 (by decide) ?_
            refine Tr.isub (pc := 61) d_X3_letterOf_61 ?_
            refine Tr.tp (p21_5 - 1) ((w32_id (by omega)).trans (by omega)) ?_
            refine Tr.istore (pc := 62) (i := 6) (ls2 := [(6, (0, (p21_5 - 1))), (3, (0, a3)), (4, (0, r11)), (5, (0, p21_5))]) d_X3_letterOf_62 (by decide) rfl ?_
            have J64 : ∀ (n64 : Nat) (M : Mem) (p64_4 p64_6 : Int), St Tru ws_X3_letterOf_7 as_X3_letterOf_7 M0 M → ((-2147483648) ≤ p64_4 ∧ p64_4 ≤ 2147483647) → (0 ≤ p64_6 ∧ p64_6 ≤ 5) → rd M 14 (a2 + r8) = r11 → (p64_6 - 0).toNat < n64 → Tr l K 0 mX3_letterOf 64 [(3, (0, a3)), (4, (0, p64_4)), (6, (0, p64_6))] [] M (q_X3_letterOf_7 M0) := by
              intro n64
              induction n64 with
              | zero => intro M p64_4 p64_6 hS bp64_4 bp64_6 k64_14_a21r810 hm64; exact absurd hm64 (Nat.not_lt_zero _)
              | succ n64 J64 =>
                intro M p64_4 p64_6 hS bp64_4 bp64_6 k64_14_a21r810 hm64
                refine Tr.iload (pc := 64) (i := 6) d_X3_letterOf_64 rfl ?_
                refine Tr.iload_n (pc := 66) (i := 3) d_X3_letterOf_66 rfl rfl ?_
                refine Tr.icmp_le (pc := 67) (tgt := 83) d_X3_letterOf_67 rfl (fun c67 => ?_) (fun c67 => ?_)
                · refine Tr.iload (pc := 83) (i := 4) d_X3_letterOf_83 rfl ?_
                  refine Tr.bipush (pc := 85) d_X3_letterOf_85 rfl (by decide) ?_
                  refine Tr.irem (pc := 87) d_X3_letterOf_87 (by omega) ?_
                  refine Tr.gen (P := fun v => (-2147483648) ≤ v ∧ v ≤ 2147483647) (rem32_b _ _ (by omega)) (fun r87 er87 br87 => ?_)
                  refine Tr.bipush (pc := 88) d_X3_letterOf_88 rfl (by decide) ?_
                  refine Tr.iadd (pc := 90) d_X3_letterOf_90 ?_
                  refine Tr.gen (P := fun v => (-2147483648) ≤ v ∧ v ≤ 2147483647) (w32_b _) (fun r90 er90 br90 => ?_)
                  exact Tr.iret (pc := 91) d_X3_letterOf_91 rfl ⟨hS, _, rfl, by omega, by omega⟩
                · refine Tr.iload (pc := 70) (i := 4) d_X3_letterOf_70 rfl ?_
                  refine Tr.bipush (pc := 72) d_X3_letterOf_72 rfl (by decide) ?_
                  refine Tr.idiv (pc := 74) d_X3_letterOf_74 (by omega) ?_
                  refine Tr.gen (P := fun v => (-2147483648) ≤ v ∧ v ≤ 2147483647) (w32_b _) (fun r74 er74 br74 => ?_)
                  refine Tr.istore (pc := 75) (i := 4) (ls2 := [(4, (0, r74)), (3, (0, a3)), (6, (0, p64_6))]) d_X3_letterOf_75 (by decide) rfl ?_
                  refine Tr.iincV (pc := 77) (n2 := (p64_6 - 1)) (ls2 := [(6, (0, (p64_6 - 1))), (4, (0, r74)), (3, (0, a3))]) d_X3_letterOf_77 rfl (by decide) ((w32_id (by omega)).trans (by omega)) rfl ?_
                  refine Tr.goto (pc := 80) (tgt := 64) d_X3_letterOf_80 rfl ?_
                  refine Tr.pick [2, 1, 0] (ls2 := [(3, (0, a3)), (4, (0, r74)), (6, (0, (p64_6 - 1)))]) rfl ?_
                  exact J64 _ _ _ hS (by omega) (by omega) k64_14_a21r810 (by omega)
            refine Tr.pick [1, 2, 0] (ls2 := [(3, (0, a3)), (4, (0, r11)), (6, (0, (p21_5 - 1)))]) rfl ?_
            exact J64 _ _ _ _ hS (by omega) (by omega) k46_14_a21r810 (Nat.lt_succ_self _)
          · refine Tr.iconst (pc := 56) d_X3_letterOf_56 (by decide) ?_
            exact Tr.iret (pc := 57) d_X3_letterOf_57 rfl ⟨hS, _, rfl, by omega, by omega⟩
      refine Tr.if_le (pc := 23) (tgt := 46) d_X3_letterOf_23 rfl (fun c23 => ?_) (fun c23 => ?_)
      · refine Tr.pick [0, 1, 2] (ls2 := [(3, (0, a3)), (4, (0, r11)), (5, (0, p21_5))]) rfl ?_
        exact J46 _ hS k21_14_a21r810
      · refine Tr.iload (pc := 26) (i := 5) d_X3_letterOf_26 rfl ?_
        refine Tr.bipush (pc := 28) d_X3_letterOf_28 rfl (by decide) ?_
        refine Tr.icmp_ge (pc := 30) (tgt := 46) d_X3_letterOf_30 rfl (fun c30 => ?_) (fun c30 => ?_)
        · refine Tr.pick [0, 1, 2] (ls2 := [(3, (0, a3)), (4, (0, r11)), (5, (0, p21_5))]) rfl ?_
          exact J46 _ hS k21_14_a21r810
        · refine Tr.iincV (pc := 33) (n2 := (p21_5 + 1)) (ls2 := [(5, (0, (p21_5 + 1))), (3, (0, a3)), (4, (0, r11)), (6, (0, p21_6))]) d_X3_letterOf_33 rfl (by decide) ((w32_id (by omega)).trans (by omega)) rfl ?_
          refine Tr.iload (pc := 36) (i := 6) d_X3_letterOf_36 rfl ?_
          refine Tr.bipush (pc := 38) d_X3_letterOf_38 rfl (by decide) ?_
          refine Tr.idiv (pc := 40) d_X3_letterOf_40 (by omega) ?_
          refine Tr.gen (P := fun v => v = p21_6 / 27 ∧ (0 ≤ v ∧ v ≤ 79536431)) (div32_l (c := 27) (by omega) (by decide) (by omega) (by omega)) (fun r40 er40 br40 => ?_)
          refine Tr.istore (pc := 41) (i := 6) (ls2 := [(6, (0, r40)), (5, (0, (p21_5 + 1))), (3, (0, a3)), (4, (0, r11))]) d_X3_letterOf_41 (by decide) rfl ?_
          refine Tr.goto (pc := 43) (tgt := 21) d_X3_letterOf_43 rfl ?_
          refine Tr.pick [2, 3, 1, 0] (ls2 := [(3, (0, a3)), (4, (0, r11)), (5, (0, (p21_5 + 1))), (6, (0, r40))]) rfl ?_
          exact J21 _ _ _ hS (by omega) (by omega) k21_14_a21r810 (by omega)
  refine Tr.pick [6, 2, 1, 0] (ls2 := [(3, (0, a3)), (4, (0, r11)), (5, (0, 0)), (6, (0, r11))]) rfl ?_
  exact J21 _ _ _ _ hS (by omega) (by omega) er11 (Nat.lt_succ_self _)

def ws_X11_letter_0 : List (Int × Int) := []
def as_X11_letter_0 : List Int := []
def q_X11_letter_0 (M0 M' : Mem) (r : Option PV) : Prop := St Tru ws_X11_letter_0 as_X11_letter_0 M0 M' ∧ ∃ v : Int, r = some (0, v) ∧ (-2147483648) ≤ v ∧ v ≤ 2147483647
set_option maxRecDepth 100000 in
set_option maxHeartbeats 4000000 in
theorem sp_X11_letter_0 {l : Launch} {K : EC} {M0 : Mem} {xq : Int} (hI : In Tru M0) (hE : e_all K xq) (en_0_4 : rd M0 0 4 = 7) (a1 : Int) (ha1 : (-2147483648) ≤ a1 ∧ a1 ≤ 2147483647) (a2 : Int) (ha2 : (-2147483648) ≤ a2 ∧ a2 ≤ 2147483647) (a3 : Int) (ha3 : (-2147483648) ≤ a3 ∧ a3 ≤ 2147483647)  : Tr l K 1 mX11_letter 0 [(0, (2, 0)), (1, (0, a1)), (2, (0, a2)), (3, (0, a3))] [] M0 (q_X11_letter_0 M0) := by
  have hS : St Tru ws_X11_letter_0 as_X11_letter_0 M0 M0 := St.rf hI
  refine Tr.iload_n (pc := 0) (i := 1) d_X11_letter_0 rfl rfl ?_
  refine Tr.if_lt (pc := 1) (tgt := 26) d_X11_letter_1 rfl (fun c1 => ?_) (fun c1 => ?_)
  · refine Tr.iconst (pc := 26) d_X11_letter_26 (by decide) ?_
    exact Tr.iret (pc := 27) d_X11_letter_27 rfl ⟨hS, _, rfl, by omega, by omega⟩
  · refine Tr.iload_n (pc := 4) (i := 1) d_X11_letter_4 rfl rfl ?_
    refine Tr.iconst (pc := 5) d_X11_letter_5 (by decide) ?_
    refine Tr.icmp_ge (pc := 6) (tgt := 26) d_X11_letter_6 rfl (fun c6 => ?_) (fun c6 => ?_)
    · refine Tr.iconst (pc := 26) d_X11_letter_26 (by decide) ?_
      exact Tr.iret (pc := 27) d_X11_letter_27 rfl ⟨hS, _, rfl, by omega, by omega⟩
    · refine Tr.iload_n (pc := 9) (i := 2) d_X11_letter_9 rfl rfl ?_
      refine Tr.if_lt (pc := 10) (tgt := 26) d_X11_letter_10 rfl (fun c10 => ?_) (fun c10 => ?_)
      · refine Tr.iconst (pc := 26) d_X11_letter_26 (by decide) ?_
        exact Tr.iret (pc := 27) d_X11_letter_27 rfl ⟨hS, _, rfl, by omega, by omega⟩
      · refine Tr.iload_n (pc := 13) (i := 2) d_X11_letter_13 rfl rfl ?_
        refine Tr.aload_n (pc := 14) (i := 0) d_X11_letter_14 rfl rfl ?_
        refine Tr.getf (pc := 15) d_X11_letter_15 f_11_30 (by decide) (by decide) (ty_0 hS.1.1) ?_
        refine Tr.tp 7 ((St.kp hS (by decide) (by decide) (by decide)).trans en_0_4) ?_
        refine Tr.getf (pc := 18) d_X11_letter_18 f_11_130 (by decide) (by decide) (ty_7 hS.1.1) ?_
        refine Tr.tp 8 (fx_7_4 hS.1.1) ?_
        refine Tr.iload_n (pc := 21) (i := 1) d_X11_letter_21 rfl rfl ?_
        refine Tr.iald (pc := 22) d_X11_letter_22 (ty_8 hS.1.1) (by omega) (by omega) ?_
        refine Tr.gen (P := fun v => 0 ≤ v ∧ v ≤ 6) (arp_8 hS.1.2.1 (by omega) (by omega)) (fun r22 er22 br22 => ?_)
        refine Tr.icmp_lt (pc := 23) (tgt := 28) d_X11_letter_23 rfl (fun c23 => ?_) (fun c23 => ?_)
        · refine Tr.aload_n (pc := 28) (i := 0) d_X11_letter_28 rfl rfl ?_
          refine Tr.getf (pc := 29) d_X11_letter_29 f_11_30 (by decide) (by decide) (ty_0 hS.1.1) ?_
          refine Tr.tp 7 ((St.kp hS (by decide) (by decide) (by decide)).trans en_0_4) ?_
          refine Tr.iload_n (pc := 32) (i := 1) d_X11_letter_32 rfl rfl ?_
          refine Tr.iload_n (pc := 33) (i := 2) d_X11_letter_33 rfl rfl ?_
          refine Tr.iload_n (pc := 34) (i := 3) d_X11_letter_34 rfl rfl ?_
          refine Tr.callV (pc := 35) (as := [_, _, _]) d_X11_letter_35 s_11_137 ok_X3_letterOf rfl rfl (Nat.le_of_ble_eq_true rfl) (Nat.le_of_ble_eq_true rfl) (by decide) (ty_7 hS.1.1) ?_
          refine Tr.imp (Tr.deep (by decide) (sp_X3_letterOf_7 hS.1 hE a1 (by omega) a2 (by omega) a3 (by omega))) ?_
          rintro M35 _ ⟨h35, r35, rfl, lr35, ur35⟩
          have hS := St.tr hS h35 (by decide) (by decide)
          refine Tr.sc [(0, r35)] rfl ?_
          exact Tr.iret (pc := 38) d_X11_letter_38 rfl ⟨hS, _, rfl, by omega, by omega⟩
        · refine Tr.iconst (pc := 26) d_X11_letter_26 (by decide) ?_
          exact Tr.iret (pc := 27) d_X11_letter_27 rfl ⟨hS, _, rfl, by omega, by omega⟩

def ws_J0_isLatin1_aae02_n8 : List (Int × Int) := []
def as_J0_isLatin1_aae02_n8 : List Int := []
def q_J0_isLatin1_aae02_n8 (M0 M' : Mem) (r : Option PV) : Prop := St Tru ws_J0_isLatin1_aae02_n8 as_J0_isLatin1_aae02_n8 M0 M' ∧ ∃ v : Int, r = some (0, v) ∧ 1 ≤ v ∧ v ≤ 1
set_option maxRecDepth 100000 in
set_option maxHeartbeats 4000000 in
theorem sp_J0_isLatin1_aae02_n8 {l : Launch} {K : EC} {M0 : Mem} {xq : Int} (hI : In Tru M0) (hE : e_all K xq)    : Tr l K 0 mJ0_isLatin1_aae02 0 [(0, (2, (-8)))] [] M0 (q_J0_isLatin1_aae02_n8 M0) := by
  have hS : St Tru ws_J0_isLatin1_aae02_n8 as_J0_isLatin1_aae02_n8 M0 M0 := St.rf hI
  refine Tr.gets (pc := 0) d_J0_isLatin1_aae02_0 sl_19_38 hE.2.2.2.2.2.2.1 ?_
  refine Tr.if_eq (pc := 3) (tgt := 17) d_J0_isLatin1_aae02_3 rfl (fun hc => absurd hc (by omega)) (fun _ => ?_)
  refine Tr.aload_n (pc := 6) (i := 0) d_J0_isLatin1_aae02_6 rfl rfl ?_
  refine Tr.xgetf (pc := 7) (i := 6) d_J0_isLatin1_aae02_7 rfl sl_19_15 hE.2.2.2.2.2.2.2.2.2.2.2.2.1 ?_
  refine Tr.if_ne (pc := 10) (tgt := 17) d_J0_isLatin1_aae02_10 rfl (fun hc => absurd (by omega) hc) (fun _ => ?_)
  refine Tr.iconst (pc := 13) d_J0_isLatin1_aae02_13 (by decide) ?_
  refine Tr.goto (pc := 14) (tgt := 18) d_J0_isLatin1_aae02_14 rfl ?_
  exact Tr.zret (pc := 18) d_J0_isLatin1_aae02_18 rfl (by omega) ⟨hS, _, rfl, by omega, by omega⟩

def ws_J0_coder_7d493_n8 : List (Int × Int) := []
def as_J0_coder_7d493_n8 : List Int := []
def q_J0_coder_7d493_n8 (M0 M' : Mem) (r : Option PV) : Prop := St Tru ws_J0_coder_7d493_n8 as_J0_coder_7d493_n8 M0 M' ∧ ∃ v : Int, r = some (0, v) ∧ 0 ≤ v ∧ v ≤ 0
set_option maxRecDepth 100000 in
set_option maxHeartbeats 4000000 in
theorem sp_J0_coder_7d493_n8 {l : Launch} {K : EC} {M0 : Mem} {xq : Int} (hI : In Tru M0) (hE : e_all K xq)    : Tr l K 0 mJ0_coder_7d493 0 [(0, (2, (-8)))] [] M0 (q_J0_coder_7d493_n8 M0) := by
  have hS : St Tru ws_J0_coder_7d493_n8 as_J0_coder_7d493_n8 M0 M0 := St.rf hI
  refine Tr.gets (pc := 0) d_J0_coder_7d493_0 sl_19_38 hE.2.2.2.2.2.2.1 ?_
  refine Tr.if_eq (pc := 3) (tgt := 13) d_J0_coder_7d493_3 rfl (fun hc => absurd hc (by omega)) (fun _ => ?_)
  refine Tr.aload_n (pc := 6) (i := 0) d_J0_coder_7d493_6 rfl rfl ?_
  refine Tr.xgetf (pc := 7) (i := 6) d_J0_coder_7d493_7 rfl sl_19_15 hE.2.2.2.2.2.2.2.2.2.2.2.2.1 ?_
  refine Tr.goto (pc := 10) (tgt := 14) d_J0_coder_7d493_10 rfl ?_
  exact Tr.nret (pc := 14) d_J0_coder_7d493_14 rfl (by first | rfl | decide +kernel) ⟨hS, _, rfl, by omega, by omega⟩

def ws_J0_length_8abf5_n8 : List (Int × Int) := []
def as_J0_length_8abf5_n8 : List Int := []
def q_J0_length_8abf5_n8 (M0 M' : Mem) (r : Option PV) : Prop := St Tru ws_J0_length_8abf5_n8 as_J0_length_8abf5_n8 M0 M' ∧ ∃ v : Int, r = some (0, v) ∧ (-2147483648) ≤ v ∧ v ≤ 2147483647
set_option maxRecDepth 100000 in
set_option maxHeartbeats 4000000 in
theorem sp_J0_length_8abf5_n8 {l : Launch} {K : EC} {M0 : Mem} {xq : Int} (hI : In Tru M0) (hE : e_all K xq)    : Tr l K 1 mJ0_length_8abf5 0 [(0, (2, (-8)))] [] M0 (q_J0_length_8abf5_n8 M0) := by
  have hS : St Tru ws_J0_length_8abf5_n8 as_J0_length_8abf5_n8 M0 M0 := St.rf hI
  refine Tr.aload_n (pc := 0) (i := 0) d_J0_length_8abf5_0 rfl rfl ?_
  refine Tr.xgetf (pc := 1) (i := 6) d_J0_length_8abf5_1 rfl sl_19_9 hE.2.2.2.2.2.2.2.2.2.2.2.2.2.1 ?_
  refine Tr.xblen (pc := 4) (i := 7) d_J0_length_8abf5_4 rfl hE.2.2.2.2.2.2.2.2.2.2.2.2.2.2.2.1 (by decide) ?_
  refine Tr.tp 16 rfl ?_
  refine Tr.aload_n (pc := 5) (i := 0) d_J0_length_8abf5_5 rfl rfl ?_
  refine Tr.callX (pc := 6) (i := 6) (as := []) d_J0_length_8abf5_6 sx_19_335 ok_J0_coder_7d493 rfl rfl (Nat.le_of_ble_eq_true rfl) (Nat.le_of_ble_eq_true rfl) rfl hE.2.2.2.2.2.2.2.2.2.2.2.1 ?_
  refine Tr.imp (Tr.deep (by decide) (sp_J0_coder_7d493_n8 hS.1 hE )) ?_
  rintro M6 _ ⟨h6, r6, rfl, lr6, ur6⟩
  have hS := St.tr hS h6 (by decide) (by decide)
  refine Tr.sc [(0, r6), (0, 16)] rfl ?_
  refine Tr.ishr (pc := 9) d_J0_length_8abf5_9 ?_
  refine Tr.gen (P := fun v => (-2147483648) ≤ v ∧ v ≤ 2147483647) (i32_b _) (fun r9 er9 br9 => ?_)
  exact Tr.iret (pc := 10) d_J0_length_8abf5_10 rfl ⟨hS, _, rfl, by omega, by omega⟩

def ws_J1_indexOfChar_4cfef_n9 : List (Int × Int) := []
def as_J1_indexOfChar_4cfef_n9 : List Int := []
def q_J1_indexOfChar_4cfef_n9 (M0 M' : Mem) (r : Option PV) : Prop := St Tru ws_J1_indexOfChar_4cfef_n9 as_J1_indexOfChar_4cfef_n9 M0 M' ∧ ∃ v : Int, r = some (0, v) ∧ (-1) ≤ v ∧ v ≤ 15
set_option maxRecDepth 100000 in
set_option maxHeartbeats 4000000 in
theorem sp_J1_indexOfChar_4cfef_n9 {l : Launch} {K : EC} {M0 : Mem} {xq : Int} (hI : In Tru M0) (hE : e_all K xq)  (a1 : Int) (ha1 : 1 ≤ a1 ∧ a1 ≤ 161) (a2 : Int) (ha2 : 0 ≤ a2 ∧ a2 ≤ 0) (a3 : Int) (ha3 : 1 ≤ a3 ∧ a3 ≤ 16)  : Tr l K 0 mJ1_indexOfChar_4cfef 0 [(0, (2, (-9))), (1, (0, a1)), (2, (0, a2)), (3, (0, a3))] [] M0 (q_J1_indexOfChar_4cfef_n9 M0) := by
  have hS : St Tru ws_J1_indexOfChar_4cfef_n9 as_J1_indexOfChar_4cfef_n9 M0 M0 := St.rf hI
  refine Tr.iload_n (pc := 0) (i := 1) d_J1_indexOfChar_4cfef_0 rfl rfl ?_
  refine Tr.i2b (pc := 1) d_J1_indexOfChar_4cfef_1 ?_
  refine Tr.gen (P := fun v => (-128) ≤ v ∧ v ≤ 127) (w8_b _) (fun r1 er1 br1 => ?_)
  refine Tr.istore (pc := 2) (i := 4) (ls2 := [(4, (0, r1)), (0, (2, (-9))), (1, (0, a1)), (2, (0, a2)), (3, (0, a3))]) d_J1_indexOfChar_4cfef_2 (by decide) rfl ?_
  refine Tr.iload_n (pc := 4) (i := 2) d_J1_indexOfChar_4cfef_4 rfl rfl ?_
  refine Tr.tp 0 (by omega) ?_
  refine Tr.istore (pc := 5) (i := 5) (ls2 := [(5, (0, 0)), (4, (0, r1)), (0, (2, (-9))), (1, (0, a1)), (2, (0, a2)), (3, (0, a3))]) d_J1_indexOfChar_4cfef_5 (by decide) rfl ?_
  have J7 : ∀ (n7 : Nat) (M : Mem) (p7_5 : Int), St Tru ws_J1_indexOfChar_4cfef_n9 as_J1_indexOfChar_4cfef_n9 M0 M → (0 ≤ p7_5 ∧ p7_5 ≤ 16) → (16 - p7_5).toNat < n7 → Tr l K 0 mJ1_indexOfChar_4cfef 7 [(0, (2, (-9))), (3, (0, a3)), (4, (0, r1)), (5, (0, p7_5))] [] M (q_J1_indexOfChar_4cfef_n9 M0) := by
    intro n7
    induction n7 with
    | zero => intro M p7_5 hS bp7_5  hm7; exact absurd hm7 (Nat.not_lt_zero _)
    | succ n7 J7 =>
      intro M p7_5 hS bp7_5  hm7
      refine Tr.iload (pc := 7) (i := 5) d_J1_indexOfChar_4cfef_7 rfl ?_
      refine Tr.iload_n (pc := 9) (i := 3) d_J1_indexOfChar_4cfef_9 rfl rfl ?_
      refine Tr.icmp_ge (pc := 10) (tgt := 31) d_J1_indexOfChar_4cfef_10 rfl (fun c10 => ?_) (fun c10 => ?_)
      · refine Tr.iconst (pc := 31) d_J1_indexOfChar_4cfef_31 (by decide) ?_
        exact Tr.iret (pc := 32) d_J1_indexOfChar_4cfef_32 rfl ⟨hS, _, rfl, by omega, by omega⟩
      · refine Tr.aload_n (pc := 13) (i := 0) d_J1_indexOfChar_4cfef_13 rfl rfl ?_
        refine Tr.iload (pc := 14) (i := 5) d_J1_indexOfChar_4cfef_14 rfl ?_
        refine Tr.xbld (pc := 16) (i := 7) d_J1_indexOfChar_4cfef_16 rfl hE.2.2.2.2.2.2.2.2.2.2.2.2.2.2.2.1 (by omega) (by omega) ?_
        refine Tr.gen (P := fun v => 0 ≤ v ∧ v ≤ 125) (xT_b (q := xr_7) (by decide +kernel) (by decide) _) (fun r16 er16 br16 => ?_)
        refine Tr.iload (pc := 17) (i := 4) d_J1_indexOfChar_4cfef_17 rfl ?_
        refine Tr.icmp_ne (pc := 19) (tgt := 25) d_J1_indexOfChar_4cfef_19 rfl (fun c19 => ?_) (fun c19 => ?_)
        · refine Tr.iincV (pc := 25) (n2 := (p7_5 + 1)) (ls2 := [(5, (0, (p7_5 + 1))), (0, (2, (-9))), (3, (0, a3)), (4, (0, r1))]) d_J1_indexOfChar_4cfef_25 rfl (by decide) ((w32_id (by omega)).trans (by omega)) rfl ?_
          refine Tr.goto (pc := 28) (tgt := 7) d_J1_indexOfChar_4cfef_28 rfl ?_
          refine Tr.pick [1, 2, 3, 0] (ls2 := [(0, (2, (-9))), (3, (0, a3)), (4, (0, r1)), (5, (0, (p7_5 + 1)))]) rfl ?_
          exact J7 _ _ hS (by omega) (by omega)
        · refine Tr.iload (pc := 22) (i := 5) d_J1_indexOfChar_4cfef_22 rfl ?_
          exact Tr.iret (pc := 24) d_J1_indexOfChar_4cfef_24 rfl ⟨hS, _, rfl, by omega, by omega⟩
  refine Tr.pick [2, 5, 1, 0] (ls2 := [(0, (2, (-9))), (3, (0, a3)), (4, (0, r1)), (5, (0, 0))]) rfl ?_
  exact J7 _ _ _ hS (by omega) (Nat.lt_succ_self _)

def ws_J1_indexOf_4cfef_n9 : List (Int × Int) := []
def as_J1_indexOf_4cfef_n9 : List Int := []
def q_J1_indexOf_4cfef_n9 (M0 M' : Mem) (r : Option PV) : Prop := St Tru ws_J1_indexOf_4cfef_n9 as_J1_indexOf_4cfef_n9 M0 M' ∧ ∃ v : Int, r = some (0, v) ∧ (-1) ≤ v ∧ v ≤ 15
set_option maxRecDepth 100000 in
set_option maxHeartbeats 4000000 in
theorem sp_J1_indexOf_4cfef_n9 {l : Launch} {K : EC} {M0 : Mem} {xq : Int} (hI : In Tru M0) (hE : e_all K xq)  (a1 : Int) (ha1 : 1 ≤ a1 ∧ a1 ≤ 161) (a2 : Int) (ha2 : 0 ≤ a2 ∧ a2 ≤ 0) (a3 : Int) (ha3 : (-2147483648) ≤ a3 ∧ a3 ≤ 2147483647)  : Tr l K 1 mJ1_indexOf_4cfef 0 [(0, (2, (-9))), (1, (0, a1)), (2, (0, a2)), (3, (0, a3))] [] M0 (q_J1_indexOf_4cfef_n9 M0) := by
  have hS : St Tru ws_J1_indexOf_4cfef_n9 as_J1_indexOf_4cfef_n9 M0 M0 := St.rf hI
  refine Tr.iload_n (pc := 0) (i := 1) d_J1_indexOf_4cfef_0 rfl rfl ?_
  refine Tr.callS (pc := 1) (as := [_]) d_J1_indexOf_4cfef_1 s_20_88 ok_J1_canEncode_9a6ad rfl rfl (Nat.le_of_ble_eq_true rfl) (Nat.le_of_ble_eq_true rfl) ?_
  refine Tr.imp (Tr.deep (by decide) (sp_J1_canEncode_9a6ad hS.1 a1 (by omega))) ?_
  rintro M1 _ ⟨h1, r1, rfl, lr1, ur1⟩
  have hS := St.tr hS h1 (by decide) (by decide)
  refine Tr.sc [(0, r1)] rfl ?_
  refine Tr.if_ne (pc := 4) (tgt := 9) d_J1_indexOf_4cfef_4 rfl (fun _ => ?_) (fun hc => absurd hc (by omega))
  refine Tr.iload_n (pc := 9) (i := 2) d_J1_indexOf_4cfef_9 rfl rfl ?_
  refine Tr.tp 0 (by omega) ?_
  refine Tr.iconst (pc := 10) d_J1_indexOf_4cfef_10 (by decide) ?_
  refine Tr.mmax (pc := 11) d_J1_indexOf_4cfef_11 ml_20_92 mw_mmax (Nat.le_of_ble_eq_true rfl) ?_
  refine Tr.gen (P := fun v => (v = 0 ∧ 0 ≤ 0) ∨ (v = 0 ∧ 0 ≤ 0)) (f_max_p _ _) (fun r11 er11 br11 => ?_)
  refine Tr.istore_n (pc := 14) (i := 2) (ls2 := [(2, (0, r11)), (0, (2, (-9))), (1, (0, a1)), (3, (0, a3))]) d_J1_indexOf_4cfef_14 rfl (by decide) rfl ?_
  refine Tr.iload_n (pc := 15) (i := 3) d_J1_indexOf_4cfef_15 rfl rfl ?_
  refine Tr.aload_n (pc := 16) (i := 0) d_J1_indexOf_4cfef_16 rfl rfl ?_
  refine Tr.xblen (pc := 17) (i := 7) d_J1_indexOf_4cfef_17 rfl hE.2.2.2.2.2.2.2.2.2.2.2.2.2.2.2.1 (by decide) ?_
  refine Tr.tp 16 rfl ?_
  refine Tr.mmin (pc := 18) d_J1_indexOf_4cfef_18 ml_20_38 mw_mmin (Nat.le_of_ble_eq_true rfl) ?_
  refine Tr.gen (P := fun v => (v = a3 ∧ a3 ≤ 16) ∨ (v = 16 ∧ 16 ≤ a3)) (f_min_p _ _) (fun r18 er18 br18 => ?_)
  refine Tr.istore_n (pc := 21) (i := 3) (ls2 := [(3, (0, r18)), (2, (0, r11)), (0, (2, (-9))), (1, (0, a1))]) d_J1_indexOf_4cfef_21 rfl (by decide) rfl ?_
  refine Tr.iload_n (pc := 22) (i := 2) d_J1_indexOf_4cfef_22 rfl rfl ?_
  refine Tr.tp 0 (by omega) ?_
  refine Tr.iload_n (pc := 23) (i := 3) d_J1_indexOf_4cfef_23 rfl rfl ?_
  refine Tr.icmp_lt (pc := 24) (tgt := 29) d_J1_indexOf_4cfef_24 rfl (fun c24 => ?_) (fun c24 => ?_)
  · refine Tr.aload_n (pc := 29) (i := 0) d_J1_indexOf_4cfef_29 rfl rfl ?_
    refine Tr.iload_n (pc := 30) (i := 1) d_J1_indexOf_4cfef_30 rfl rfl ?_
    refine Tr.iload_n (pc := 31) (i := 2) d_J1_indexOf_4cfef_31 rfl rfl ?_
    refine Tr.tp 0 (by omega) ?_
    refine Tr.iload_n (pc := 32) (i := 3) d_J1_indexOf_4cfef_32 rfl rfl ?_
    refine Tr.callS (pc := 33) (as := [_, _, _, _]) d_J1_indexOf_4cfef_33 s_20_95 ok_J1_indexOfChar_4cfef rfl rfl (Nat.le_of_ble_eq_true rfl) (Nat.le_of_ble_eq_true rfl) ?_
    refine Tr.imp (Tr.deep (by decide) (sp_J1_indexOfChar_4cfef_n9 hS.1 hE a1 (by omega) 0 (by omega) r18 (by omega))) ?_
    rintro M33 _ ⟨h33, r33, rfl, lr33, ur33⟩
    have hS := St.tr hS h33 (by decide) (by decide)
    refine Tr.sc [(0, r33)] rfl ?_
    exact Tr.iret (pc := 36) d_J1_indexOf_4cfef_36 rfl ⟨hS, _, rfl, by omega, by omega⟩
  · refine Tr.iconst (pc := 27) d_J1_indexOf_4cfef_27 (by decide) ?_
    exact Tr.iret (pc := 28) d_J1_indexOf_4cfef_28 rfl ⟨hS, _, rfl, by omega, by omega⟩

def ws_J0_indexOf_7cf53_n8 : List (Int × Int) := []
def as_J0_indexOf_7cf53_n8 : List Int := []
def q_J0_indexOf_7cf53_n8 (M0 M' : Mem) (r : Option PV) : Prop := St Tru ws_J0_indexOf_7cf53_n8 as_J0_indexOf_7cf53_n8 M0 M' ∧ ∃ v : Int, r = some (0, v) ∧ (-1) ≤ v ∧ v ≤ 15
set_option maxRecDepth 100000 in
set_option maxHeartbeats 4000000 in
theorem sp_J0_indexOf_7cf53_n8 {l : Launch} {K : EC} {M0 : Mem} {xq : Int} (hI : In Tru M0) (hE : e_all K xq)  (a1 : Int) (ha1 : 1 ≤ a1 ∧ a1 ≤ 161) (a2 : Int) (ha2 : 0 ≤ a2 ∧ a2 ≤ 0)  : Tr l K 2 mJ0_indexOf_7cf53 0 [(0, (2, (-8))), (1, (0, a1)), (2, (0, a2))] [] M0 (q_J0_indexOf_7cf53_n8 M0) := by
  have hS : St Tru ws_J0_indexOf_7cf53_n8 as_J0_indexOf_7cf53_n8 M0 M0 := St.rf hI
  refine Tr.aload_n (pc := 0) (i := 0) d_J0_indexOf_7cf53_0 rfl rfl ?_
  refine Tr.callX (pc := 1) (i := 6) (as := []) d_J0_indexOf_7cf53_1 sx_19_492 ok_J0_isLatin1_aae02 rfl rfl (Nat.le_of_ble_eq_true rfl) (Nat.le_of_ble_eq_true rfl) rfl hE.2.2.2.2.2.2.2.2.2.2.2.1 ?_
  refine Tr.imp (Tr.deep (by decide) (sp_J0_isLatin1_aae02_n8 hS.1 hE )) ?_
  rintro M1 _ ⟨h1, r1, rfl, lr1, ur1⟩
  have hS := St.tr hS h1 (by decide) (by decide)
  refine Tr.sc [(0, r1)] rfl ?_
  refine Tr.if_eq (pc := 4) (tgt := 23) d_J0_indexOf_7cf53_4 rfl (fun hc => absurd hc (by omega)) (fun _ => ?_)
  refine Tr.aload_n (pc := 7) (i := 0) d_J0_indexOf_7cf53_7 rfl rfl ?_
  refine Tr.xgetf (pc := 8) (i := 6) d_J0_indexOf_7cf53_8 rfl sl_19_9 hE.2.2.2.2.2.2.2.2.2.2.2.2.2.1 ?_
  refine Tr.iload_n (pc := 11) (i := 1) d_J0_indexOf_7cf53_11 rfl rfl ?_
  refine Tr.iload_n (pc := 12) (i := 2) d_J0_indexOf_7cf53_12 rfl rfl ?_
  refine Tr.tp 0 (by omega) ?_
  refine Tr.aload_n (pc := 13) (i := 0) d_J0_indexOf_7cf53_13 rfl rfl ?_
  refine Tr.callX (pc := 14) (i := 6) (as := []) d_J0_indexOf_7cf53_14 sx_19_505 ok_J0_length_8abf5 rfl rfl (Nat.le_of_ble_eq_true rfl) (Nat.le_of_ble_eq_true rfl) rfl hE.2.2.2.2.2.2.2.2.2.2.2.1 ?_
  refine Tr.imp (Tr.deep (by decide) (sp_J0_length_8abf5_n8 hS.1 hE )) ?_
  rintro M14 _ ⟨h14, r14, rfl, lr14, ur14⟩
  have hS := St.tr hS h14 (by decide) (by decide)
  refine Tr.sc [(0, r14), (0, 0), (0, a1), (2, (-9))] rfl ?_
  refine Tr.callS (pc := 17) (as := [_, _, _, _]) d_J0_indexOf_7cf53_17 s_19_637 ok_J1_indexOf_4cfef rfl rfl (Nat.le_of_ble_eq_true rfl) (Nat.le_of_ble_eq_true rfl) ?_
  refine Tr.imp (Tr.deep (by decide) (sp_J1_indexOf_4cfef_n9 hS.1 hE a1 (by omega) 0 (by omega) r14 (by omega))) ?_
  rintro M17 _ ⟨h17, r17, rfl, lr17, ur17⟩
  have hS := St.tr hS h17 (by decide) (by decide)
  refine Tr.sc [(0, r17)] rfl ?_
  refine Tr.goto (pc := 20) (tgt := 36) d_J0_indexOf_7cf53_20 rfl ?_
  exact Tr.iret (pc := 36) d_J0_indexOf_7cf53_36 rfl ⟨hS, _, rfl, by omega, by omega⟩

def ws_J0_indexOf_0f7a4_n8 : List (Int × Int) := []
def as_J0_indexOf_0f7a4_n8 : List Int := []
def q_J0_indexOf_0f7a4_n8 (M0 M' : Mem) (r : Option PV) : Prop := St Tru ws_J0_indexOf_0f7a4_n8 as_J0_indexOf_0f7a4_n8 M0 M' ∧ ∃ v : Int, r = some (0, v) ∧ (-1) ≤ v ∧ v ≤ 15
set_option maxRecDepth 100000 in
set_option maxHeartbeats 4000000 in
theorem sp_J0_indexOf_0f7a4_n8 {l : Launch} {K : EC} {M0 : Mem} {xq : Int} (hI : In Tru M0) (hE : e_all K xq)  (a1 : Int) (ha1 : 1 ≤ a1 ∧ a1 ≤ 161)  : Tr l K 3 mJ0_indexOf_0f7a4 0 [(0, (2, (-8))), (1, (0, a1))] [] M0 (q_J0_indexOf_0f7a4_n8 M0) := by
  have hS : St Tru ws_J0_indexOf_0f7a4_n8 as_J0_indexOf_0f7a4_n8 M0 M0 := St.rf hI
  refine Tr.aload_n (pc := 0) (i := 0) d_J0_indexOf_0f7a4_0 rfl rfl ?_
  refine Tr.iload_n (pc := 1) (i := 1) d_J0_indexOf_0f7a4_1 rfl rfl ?_
  refine Tr.iconst (pc := 2) d_J0_indexOf_0f7a4_2 (by decide) ?_
  refine Tr.callX (pc := 3) (i := 6) (as := [_, _]) d_J0_indexOf_0f7a4_3 sx_19_633 ok_J0_indexOf_7cf53 rfl rfl (Nat.le_of_ble_eq_true rfl) (Nat.le_of_ble_eq_true rfl) rfl hE.2.2.2.2.2.2.2.2.2.2.2.1 ?_
  refine Tr.imp (Tr.deep (by decide) (sp_J0_indexOf_7cf53_n8 hS.1 hE a1 (by omega) 0 (by omega))) ?_
  rintro M3 _ ⟨h3, r3, rfl, lr3, ur3⟩
  have hS := St.tr hS h3 (by decide) (by decide)
  refine Tr.sc [(0, r3)] rfl ?_
  exact Tr.iret (pc := 6) d_J0_indexOf_0f7a4_6 rfl ⟨hS, _, rfl, by omega, by omega⟩

def ws_J0_isLatin1_aae02_n6 : List (Int × Int) := []
def as_J0_isLatin1_aae02_n6 : List Int := []
def q_J0_isLatin1_aae02_n6 (M0 M' : Mem) (r : Option PV) : Prop := St Tru ws_J0_isLatin1_aae02_n6 as_J0_isLatin1_aae02_n6 M0 M' ∧ ∃ v : Int, r = some (0, v) ∧ 1 ≤ v ∧ v ≤ 1
set_option maxRecDepth 100000 in
set_option maxHeartbeats 4000000 in
theorem sp_J0_isLatin1_aae02_n6 {l : Launch} {K : EC} {M0 : Mem} {xq : Int} (hI : In Tru M0) (hE : e_all K xq)    : Tr l K 0 mJ0_isLatin1_aae02 0 [(0, (2, (-6)))] [] M0 (q_J0_isLatin1_aae02_n6 M0) := by
  have hS : St Tru ws_J0_isLatin1_aae02_n6 as_J0_isLatin1_aae02_n6 M0 M0 := St.rf hI
  refine Tr.gets (pc := 0) d_J0_isLatin1_aae02_0 sl_19_38 hE.2.2.2.2.2.2.1 ?_
  refine Tr.if_eq (pc := 3) (tgt := 17) d_J0_isLatin1_aae02_3 rfl (fun hc => absurd hc (by omega)) (fun _ => ?_)
  refine Tr.aload_n (pc := 6) (i := 0) d_J0_isLatin1_aae02_6 rfl rfl ?_
  refine Tr.xgetf (pc := 7) (i := 4) d_J0_isLatin1_aae02_7 rfl sl_19_15 hE.2.2.2.2.2.2.2.2.2.1 ?_
  refine Tr.if_ne (pc := 10) (tgt := 17) d_J0_isLatin1_aae02_10 rfl (fun hc => absurd (by omega) hc) (fun _ => ?_)
  refine Tr.iconst (pc := 13) d_J0_isLatin1_aae02_13 (by decide) ?_
  refine Tr.goto (pc := 14) (tgt := 18) d_J0_isLatin1_aae02_14 rfl ?_
  exact Tr.zret (pc := 18) d_J0_isLatin1_aae02_18 rfl (by omega) ⟨hS, _, rfl, by omega, by omega⟩

def ws_J0_checkIndex_df160 : List (Int × Int) := []
def as_J0_checkIndex_df160 : List Int := []
def q_J0_checkIndex_df160 (M0 M' : Mem) (r : Option PV) : Prop := St Tru ws_J0_checkIndex_df160 as_J0_checkIndex_df160 M0 M' ∧ r = none
set_option maxRecDepth 100000 in
set_option maxHeartbeats 4000000 in
theorem sp_J0_checkIndex_df160 {l : Launch} {K : EC} {M0 : Mem} {xq : Int} (hI : In Tru M0) (hE : e_all K xq)  (a0 : Int) (ha0 : 0 ≤ a0 ∧ a0 ≤ 161) (a1 : Int) (ha1 : 162 ≤ a1 ∧ a1 ≤ 162)  : Tr l K 1 mJ0_checkIndex_df160 0 [(0, (0, a0)), (1, (0, a1))] [] M0 (q_J0_checkIndex_df160 M0) := by
  have hS : St Tru ws_J0_checkIndex_df160 as_J0_checkIndex_df160 M0 M0 := St.rf hI
  refine Tr.iload_n (pc := 0) (i := 0) d_J0_checkIndex_df160_0 rfl rfl ?_
  refine Tr.iload_n (pc := 1) (i := 1) d_J0_checkIndex_df160_1 rfl rfl ?_
  refine Tr.tp 162 (by omega) ?_
  refine Tr.gets (pc := 2) d_J0_checkIndex_df160_2 sl_19_1053 hE.2.2.2.2.2.2.2.1 ?_
  refine Tr.callS (pc := 5) (as := [_, _, _]) d_J0_checkIndex_df160_5 s_19_1059 ok_J3_checkIndex_8e157 rfl rfl (Nat.le_of_ble_eq_true rfl) (Nat.le_of_ble_eq_true rfl) ?_
  refine Tr.imp (Tr.deep (by decide) (sp_J3_checkIndex_8e157_xq hS.1 a0 (by omega) 162 (by omega))) ?_
  rintro M5 _ ⟨h5, r5, rfl, lr5, ur5⟩
  have hS := St.tr hS h5 (by decide) (by decide)
  refine Tr.sc [(0, r5)] rfl ?_
  refine Tr.pop (pc := 8) d_J0_checkIndex_df160_8 ne01 ?_
  exact Tr.vret (pc := 9) d_J0_checkIndex_df160_9 rfl ⟨hS, rfl⟩

def ws_J1_charAt_3b067_n7 : List (Int × Int) := []
def as_J1_charAt_3b067_n7 : List Int := []
def q_J1_charAt_3b067_n7 (M0 M' : Mem) (r : Option PV) : Prop := St Tru ws_J1_charAt_3b067_n7 as_J1_charAt_3b067_n7 M0 M' ∧ ∃ v : Int, r = some (0, v) ∧ 0 ≤ v ∧ v ≤ 255
set_option maxRecDepth 100000 in
set_option maxHeartbeats 4000000 in
theorem sp_J1_charAt_3b067_n7 {l : Launch} {K : EC} {M0 : Mem} {xq : Int} (hI : In Tru M0) (hE : e_all K xq)  (a1 : Int) (ha1 : 0 ≤ a1 ∧ a1 ≤ 161)  : Tr l K 2 mJ1_charAt_3b067 0 [(0, (2, (-7))), (1, (0, a1))] [] M0 (q_J1_charAt_3b067_n7 M0) := by
  have hS : St Tru ws_J1_charAt_3b067_n7 as_J1_charAt_3b067_n7 M0 M0 := St.rf hI
  refine Tr.iload_n (pc := 0) (i := 1) d_J1_charAt_3b067_0 rfl rfl ?_
  refine Tr.aload_n (pc := 1) (i := 0) d_J1_charAt_3b067_1 rfl rfl ?_
  refine Tr.xblen (pc := 2) (i := 5) d_J1_charAt_3b067_2 rfl hE.2.2.2.2.2.2.2.2.2.2.2.2.2.2.1 (by decide) ?_
  refine Tr.tp 162 rfl ?_
  refine Tr.callS (pc := 3) (as := [_, _]) d_J1_charAt_3b067_3 s_20_9 ok_J0_checkIndex_df160 rfl rfl (Nat.le_of_ble_eq_true rfl) (Nat.le_of_ble_eq_true rfl) ?_
  refine Tr.imp (Tr.deep (by decide) (sp_J0_checkIndex_df160 hS.1 hE a1 (by omega) 162 (by omega))) ?_
  rintro M3 _ ⟨h3, rfl⟩
  have hS := St.tr hS h3 (by decide) (by decide)
  refine Tr.sc [] rfl ?_
  refine Tr.aload_n (pc := 6) (i := 0) d_J1_charAt_3b067_6 rfl rfl ?_
  refine Tr.iload_n (pc := 7) (i := 1) d_J1_charAt_3b067_7 rfl rfl ?_
  refine Tr.xbld (pc := 8) (i := 5) d_J1_charAt_3b067_8 rfl hE.2.2.2.2.2.2.2.2.2.2.2.2.2.2.1 (by omega) (by omega) ?_
  refine Tr.gen (P := fun v => 0 ≤ v ∧ v ≤ 120) (xT_b (q := xr_5) (by decide +kernel) (by decide) _) (fun r8 er8 br8 => ?_)
  refine Tr.sipush (pc := 9) d_J1_charAt_3b067_9 rfl (by decide) ?_
  refine Tr.iand (pc := 12) d_J1_charAt_3b067_12 ?_
  refine Tr.gen (P := fun v => 0 ≤ v ∧ v ≤ 255) (f_iand_m 8 (by decide +kernel) (by decide) (by decide +kernel)) (fun r12 er12 br12 => ?_)
  refine Tr.i2c (pc := 13) d_J1_charAt_3b067_13 (by omega) ?_
  exact Tr.nret (pc := 14) d_J1_charAt_3b067_14 rfl (nar_c (by omega)) ⟨hS, _, rfl, by omega, by omega⟩

def ws_J0_charAt_5068e_n6 : List (Int × Int) := []
def as_J0_charAt_5068e_n6 : List Int := []
def q_J0_charAt_5068e_n6 (M0 M' : Mem) (r : Option PV) : Prop := St Tru ws_J0_charAt_5068e_n6 as_J0_charAt_5068e_n6 M0 M' ∧ ∃ v : Int, r = some (0, v) ∧ 0 ≤ v ∧ v ≤ 255
set_option maxRecDepth 100000 in
set_option maxHeartbeats 4000000 in
theorem sp_J0_charAt_5068e_n6 {l : Launch} {K : EC} {M0 : Mem} {xq : Int} (hI : In Tru M0) (hE : e_all K xq)  (a1 : Int) (ha1 : 0 ≤ a1 ∧ a1 ≤ 161)  : Tr l K 3 mJ0_charAt_5068e 0 [(0, (2, (-6))), (1, (0, a1))] [] M0 (q_J0_charAt_5068e_n6 M0) := by
  have hS : St Tru ws_J0_charAt_5068e_n6 as_J0_charAt_5068e_n6 M0 M0 := St.rf hI
  refine Tr.aload_n (pc := 0) (i := 0) d_J0_charAt_5068e_0 rfl rfl ?_
  refine Tr.callX (pc := 1) (i := 4) (as := []) d_J0_charAt_5068e_1 sx_19_492 ok_J0_isLatin1_aae02 rfl rfl (Nat.le_of_ble_eq_true rfl) (Nat.le_of_ble_eq_true rfl) rfl hE.2.2.2.2.2.2.2.2.1 ?_
  refine Tr.imp (Tr.deep (by decide) (sp_J0_isLatin1_aae02_n6 hS.1 hE )) ?_
  rintro M1 _ ⟨h1, r1, rfl, lr1, ur1⟩
  have hS := St.tr hS h1 (by decide) (by decide)
  refine Tr.sc [(0, r1)] rfl ?_
  refine Tr.if_eq (pc := 4) (tgt := 16) d_J0_charAt_5068e_4 rfl (fun hc => absurd hc (by omega)) (fun _ => ?_)
  refine Tr.aload_n (pc := 7) (i := 0) d_J0_charAt_5068e_7 rfl rfl ?_
  refine Tr.xgetf (pc := 8) (i := 4) d_J0_charAt_5068e_8 rfl sl_19_9 hE.2.2.2.2.2.2.2.2.2.2.1 ?_
  refine Tr.iload_n (pc := 11) (i := 1) d_J0_charAt_5068e_11 rfl rfl ?_
  refine Tr.callS (pc := 12) (as := [_, _]) d_J0_charAt_5068e_12 s_19_495 ok_J1_charAt_3b067 rfl rfl (Nat.le_of_ble_eq_true rfl) (Nat.le_of_ble_eq_true rfl) ?_
  refine Tr.imp (Tr.deep (by decide) (sp_J1_charAt_3b067_n7 hS.1 hE a1 (by omega))) ?_
  rintro M12 _ ⟨h12, r12, rfl, lr12, ur12⟩
  have hS := St.tr hS h12 (by decide) (by decide)
  refine Tr.sc [(0, r12)] rfl ?_
  exact Tr.nret (pc := 15) d_J0_charAt_5068e_15 rfl (nar_c (by omega)) ⟨hS, _, rfl, by omega, by omega⟩

def ws_X7_isOwn_2 : List (Int × Int) := []
def as_X7_isOwn_2 : List Int := []
def q_X7_isOwn_2 (M0 M' : Mem) (r : Option PV) : Prop := St Tru ws_X7_isOwn_2 as_X7_isOwn_2 M0 M' ∧ ∃ v : Int, r = some (0, v) ∧ 0 ≤ v ∧ v ≤ 1
set_option maxRecDepth 100000 in
set_option maxHeartbeats 4000000 in
theorem sp_X7_isOwn_2 {l : Launch} {K : EC} {M0 : Mem} {xq : Int} (hI : In Tru M0) (hE : e_all K xq) (en_2_4 : rd M0 2 4 = 1) (a1 : Int) (ha1 : 0 ≤ a1 ∧ a1 ≤ 26) (a2 : Int) (ha2 : 0 ≤ a2 ∧ a2 ≤ 900) (a3 : Int) (ha3 : 0 ≤ a3 ∧ a3 ≤ 900)  : Tr l K 4 mX7_isOwn 0 [(0, (2, 2)), (1, (0, a1)), (2, (0, a2)), (3, (0, a3))] [] M0 (q_X7_isOwn_2 M0) := by
  have hS : St Tru ws_X7_isOwn_2 as_X7_isOwn_2 M0 M0 := St.rf hI
  refine Tr.iconst (pc := 0) d_X7_isOwn_0 (by decide) ?_
  refine Tr.istore (pc := 1) (i := 4) (ls2 := [(4, (0, 0)), (0, (2, 2)), (1, (0, a1)), (2, (0, a2)), (3, (0, a3))]) d_X7_isOwn_1 (by decide) rfl ?_
  have J3 : ∀ (n3 : Nat) (M : Mem) (p3_4 : Int), St Tru ws_X7_isOwn_2 as_X7_isOwn_2 M0 M → (0 ≤ p3_4 ∧ p3_4 ≤ 6) → (6 - p3_4).toNat < n3 → Tr l K 4 mX7_isOwn 3 [(0, (2, 2)), (1, (0, a1)), (2, (0, a2)), (3, (0, a3)), (4, (0, p3_4))] [] M (q_X7_isOwn_2 M0) := by
    intro n3
    induction n3 with
    | zero => intro M p3_4 hS bp3_4  hm3; exact absurd hm3 (Nat.not_lt_zero _)
    | succ n3 J3 =>
      intro M p3_4 hS bp3_4  hm3
      refine Tr.iload (pc := 3) (i := 4) d_X7_isOwn_3 rfl ?_
      refine Tr.bipush (pc := 5) d_X7_isOwn_5 rfl (by decide) ?_
      refine Tr.icmp_ge (pc := 7) (tgt := 59) d_X7_isOwn_7 rfl (fun c7 => ?_) (fun c7 => ?_)
      · refine Tr.iconst (pc := 59) d_X7_isOwn_59 (by decide) ?_
        exact Tr.zret (pc := 60) d_X7_isOwn_60 rfl (by omega) ⟨hS, _, rfl, by omega, by omega⟩
      · refine Tr.iload_n (pc := 10) (i := 2) d_X7_isOwn_10 rfl rfl ?_
        refine Tr.iload (pc := 11) (i := 4) d_X7_isOwn_11 rfl ?_
        refine Tr.iadd (pc := 13) d_X7_isOwn_13 ?_
        refine Tr.tp (a2 + p3_4) ((w32_id (by omega)).trans (by omega)) ?_
        refine Tr.iload_n (pc := 14) (i := 3) d_X7_isOwn_14 rfl rfl ?_
        have J32 : ∀ (M : Mem) (q32_0 : Int), St Tru ws_X7_isOwn_2 as_X7_isOwn_2 M0 M → ((-128) ≤ q32_0 ∧ q32_0 ≤ 127) → Tr l K 4 mX7_isOwn 32 [(0, (2, 2)), (1, (0, a1)), (2, (0, a2)), (3, (0, a3)), (4, (0, p3_4))] [(0, q32_0)] M (q_X7_isOwn_2 M0) := by
          intro M q32_0 hS bq32_0 
          refine Tr.istore (pc := 32) (i := 5) (ls2 := [(5, (0, q32_0)), (0, (2, 2)), (1, (0, a1)), (2, (0, a2)), (3, (0, a3)), (4, (0, p3_4))]) d_X7_isOwn_32 (by decide) rfl ?_
          refine Tr.ldcs (pc := 34) (i := 4) d_X7_isOwn_34 hE.2.2.2.2.2.2.2.2.2.2.2.2.2.2.2.2.2 ?_
          refine Tr.tp (-6) rfl ?_
          refine Tr.iload_n (pc := 36) (i := 1) d_X7_isOwn_36 rfl rfl ?_
          refine Tr.bipush (pc := 37) d_X7_isOwn_37 rfl (by decide) ?_
          refine Tr.imul (pc := 39) d_X7_isOwn_39 ?_
          refine Tr.tp (6 * a1) ((w32_id (by omega)).trans (by omega)) ?_
          refine Tr.iload (pc := 40) (i := 4) d_X7_isOwn_40 rfl ?_
          refine Tr.iadd (pc := 42) d_X7_isOwn_42 ?_
          refine Tr.tp (6 * a1 + p3_4) ((w32_id (by omega)).trans (by omega)) ?_
          refine Tr.callX (pc := 43) (i := 4) (as := [_]) d_X7_isOwn_43 sx_7_74 ok_J0_charAt_5068e rfl rfl (Nat.le_of_ble_eq_true rfl) (Nat.le_of_ble_eq_true rfl) rfl hE.2.2.2.2.2.2.2.2.1 ?_
          refine Tr.imp (Tr.deep (by decide) (sp_J0_charAt_5068e_n6 hS.1 hE (6 * a1 + p3_4) (by omega))) ?_
          rintro M43 _ ⟨h43, r43, rfl, lr43, ur43⟩
          have hS := St.tr hS h43 (by decide) (by decide)
          refine Tr.sc [(0, r43)] rfl ?_
          refine Tr.iload (pc := 46) (i := 5) d_X7_isOwn_46 rfl ?_
          refine Tr.icmp_eq (pc := 48) (tgt := 53) d_X7_isOwn_48 rfl (fun c48 => ?_) (fun c48 => ?_)
          · refine Tr.iincV (pc := 53) (n2 := (p3_4 + 1)) (ls2 := [(4, (0, (p3_4 + 1))), (5, (0, q32_0)), (0, (2, 2)), (1, (0, a1)), (2, (0, a2)), (3, (0, a3))]) d_X7_isOwn_53 rfl (by decide) ((w32_id (by omega)).trans (by omega)) rfl ?_
            refine Tr.goto (pc := 56) (tgt := 3) d_X7_isOwn_56 rfl ?_
            refine Tr.pick [2, 3, 4, 5, 0] (ls2 := [(0, (2, 2)), (1, (0, a1)), (2, (0, a2)), (3, (0, a3)), (4, (0, (p3_4 + 1)))]) rfl ?_
            exact J3 _ _ hS (by omega) (by omega)
          · refine Tr.iconst (pc := 51) d_X7_isOwn_51 (by decide) ?_
            exact Tr.zret (pc := 52) d_X7_isOwn_52 rfl (by omega) ⟨hS, _, rfl, by omega, by omega⟩
        refine Tr.icmp_ge (pc := 15) (tgt := 30) d_X7_isOwn_15 rfl (fun c15 => ?_) (fun c15 => ?_)
        · refine Tr.bipush (pc := 30) d_X7_isOwn_30 rfl (by decide) ?_
          refine Tr.pick [0, 1, 2, 3, 4] (ls2 := [(0, (2, 2)), (1, (0, a1)), (2, (0, a2)), (3, (0, a3)), (4, (0, p3_4))]) rfl ?_
          exact J32 _ _ hS (by omega)
        · refine Tr.aload_n (pc := 18) (i := 0) d_X7_isOwn_18 rfl rfl ?_
          refine Tr.getf (pc := 19) d_X7_isOwn_19 f_7_21 (by decide) (by decide) (ty_2 hS.1.1) ?_
          refine Tr.tp 1 ((St.kp hS (by decide) (by decide) (by decide)).trans en_2_4) ?_
          refine Tr.iload_n (pc := 22) (i := 2) d_X7_isOwn_22 rfl rfl ?_
          refine Tr.iload (pc := 23) (i := 4) d_X7_isOwn_23 rfl ?_
          refine Tr.iadd (pc := 25) d_X7_isOwn_25 ?_
          refine Tr.tp (a2 + p3_4) ((w32_id (by omega)).trans (by omega)) ?_
          refine Tr.bald (pc := 26) d_X7_isOwn_26 (ty_1 hS.1.1) (by omega) (by omega) ?_
          refine Tr.gen (P := fun v => (-128) ≤ v ∧ v ≤ 127) (ar_1 hS.1.2.1 _) (fun r26 er26 br26 => ?_)
          refine Tr.goto (pc := 27) (tgt := 32) d_X7_isOwn_27 rfl ?_
          refine Tr.pick [0, 1, 2, 3, 4] (ls2 := [(0, (2, 2)), (1, (0, a1)), (2, (0, a2)), (3, (0, a3)), (4, (0, p3_4))]) rfl ?_
          exact J32 _ _ hS (by omega)
  refine Tr.pick [1, 2, 3, 4, 0] (ls2 := [(0, (2, 2)), (1, (0, a1)), (2, (0, a2)), (3, (0, a3)), (4, (0, 0))]) rfl ?_
  exact J3 _ _ _ hS (by omega) (Nat.lt_succ_self _)

def ws_X7_ownWord_2 : List (Int × Int) := []
def as_X7_ownWord_2 : List Int := []
def q_X7_ownWord_2 (M0 M' : Mem) (r : Option PV) : Prop := St Tru ws_X7_ownWord_2 as_X7_ownWord_2 M0 M' ∧ ∃ v : Int, r = some (0, v) ∧ (-1) ≤ v ∧ v ≤ 26
set_option maxRecDepth 100000 in
set_option maxHeartbeats 4000000 in
theorem sp_X7_ownWord_2 {l : Launch} {K : EC} {M0 : Mem} {xq : Int} (hI : In Tru M0) (hE : e_all K xq) (en_2_4 : rd M0 2 4 = 1) (a1 : Int) (ha1 : 0 ≤ a1 ∧ a1 ≤ 899) (a2 : Int) (ha2 : 0 ≤ a2 ∧ a2 ≤ 900)  : Tr l K 5 mX7_ownWord 0 [(0, (2, 2)), (1, (0, a1)), (2, (0, a2))] [] M0 (q_X7_ownWord_2 M0) := by
  have hS : St Tru ws_X7_ownWord_2 as_X7_ownWord_2 M0 M0 := St.rf hI
  refine Tr.iconst (pc := 0) d_X7_ownWord_0 (by decide) ?_
  refine Tr.istore_n (pc := 1) (i := 3) (ls2 := [(3, (0, 0)), (0, (2, 2)), (1, (0, a1)), (2, (0, a2))]) d_X7_ownWord_1 rfl (by decide) rfl ?_
  have J2 : ∀ (n2 : Nat) (M : Mem) (p2_3 : Int), St Tru ws_X7_ownWord_2 as_X7_ownWord_2 M0 M → (0 ≤ p2_3 ∧ p2_3 ≤ 27) → (27 - p2_3).toNat < n2 → Tr l K 5 mX7_ownWord 2 [(0, (2, 2)), (1, (0, a1)), (2, (0, a2)), (3, (0, p2_3))] [] M (q_X7_ownWord_2 M0) := by
    intro n2
    induction n2 with
    | zero => intro M p2_3 hS bp2_3  hm2; exact absurd hm2 (Nat.not_lt_zero _)
    | succ n2 J2 =>
      intro M p2_3 hS bp2_3  hm2
      refine Tr.iload_n (pc := 2) (i := 3) d_X7_ownWord_2 rfl rfl ?_
      refine Tr.bipush (pc := 3) d_X7_ownWord_3 rfl (by decide) ?_
      refine Tr.icmp_ge (pc := 5) (tgt := 26) d_X7_ownWord_5 rfl (fun c5 => ?_) (fun c5 => ?_)
      · refine Tr.iconst (pc := 26) d_X7_ownWord_26 (by decide) ?_
        exact Tr.iret (pc := 27) d_X7_ownWord_27 rfl ⟨hS, _, rfl, by omega, by omega⟩
      · refine Tr.aload_n (pc := 8) (i := 0) d_X7_ownWord_8 rfl rfl ?_
        refine Tr.iload_n (pc := 9) (i := 3) d_X7_ownWord_9 rfl rfl ?_
        refine Tr.iload_n (pc := 10) (i := 1) d_X7_ownWord_10 rfl rfl ?_
        refine Tr.iload_n (pc := 11) (i := 2) d_X7_ownWord_11 rfl rfl ?_
        refine Tr.callV (pc := 12) (as := [_, _, _]) d_X7_ownWord_12 s_7_68 ok_X7_isOwn rfl rfl (Nat.le_of_ble_eq_true rfl) (Nat.le_of_ble_eq_true rfl) (by decide) (ty_2 hS.1.1) ?_
        refine Tr.imp (Tr.deep (by decide) (sp_X7_isOwn_2 hS.1 hE ((St.kp hS (by decide) (by decide) (by decide)).trans en_2_4) p2_3 (by omega) a1 (by omega) a2 (by omega))) ?_
        rintro M12 _ ⟨h12, r12, rfl, lr12, ur12⟩
        have hS := St.tr hS h12 (by decide) (by decide)
        refine Tr.sc [(0, r12)] rfl ?_
        refine Tr.if_eq (pc := 15) (tgt := 20) d_X7_ownWord_15 rfl (fun c15 => ?_) (fun c15 => ?_)
        · refine Tr.iincV (pc := 20) (n2 := (p2_3 + 1)) (ls2 := [(3, (0, (p2_3 + 1))), (0, (2, 2)), (1, (0, a1)), (2, (0, a2))]) d_X7_ownWord_20 rfl (by decide) ((w32_id (by omega)).trans (by omega)) rfl ?_
          refine Tr.goto (pc := 23) (tgt := 2) d_X7_ownWord_23 rfl ?_
          refine Tr.pick [1, 2, 3, 0] (ls2 := [(0, (2, 2)), (1, (0, a1)), (2, (0, a2)), (3, (0, (p2_3 + 1)))]) rfl ?_
          exact J2 _ _ hS (by omega) (by omega)
        · refine Tr.iload_n (pc := 18) (i := 3) d_X7_ownWord_18 rfl rfl ?_
          exact Tr.iret (pc := 19) d_X7_ownWord_19 rfl ⟨hS, _, rfl, by omega, by omega⟩
  refine Tr.pick [1, 2, 3, 0] (ls2 := [(0, (2, 2)), (1, (0, a1)), (2, (0, a2)), (3, (0, 0))]) rfl ?_
  exact J2 _ _ _ hS (by omega) (Nat.lt_succ_self _)

def ws_X7_takeWord_2 : List (Int × Int) := [(2, 3)]
def as_X7_takeWord_2 : List Int := [3, 4, 5]
def q_X7_takeWord_2 (M0 M' : Mem) (r : Option PV) : Prop := St Tru ws_X7_takeWord_2 as_X7_takeWord_2 M0 M' ∧ ∃ v : Int, r = some (0, v) ∧ (-1) ≤ v ∧ v ≤ 900
set_option maxRecDepth 100000 in
set_option maxHeartbeats 4000000 in
theorem sp_X7_takeWord_2 {l : Launch} {K : EC} {M0 : Mem} {xq : Int} (hI : In Tru M0) (hE : e_all K xq) (en_2_4 : rd M0 2 4 = 1) (a1 : Int) (ha1 : 0 ≤ a1 ∧ a1 ≤ 899)  : Tr l K 6 mX7_takeWord 0 [(0, (2, 2)), (1, (0, a1))] [] M0 (q_X7_takeWord_2 M0) := by
  have hS : St Tru ws_X7_takeWord_2 as_X7_takeWord_2 M0 M0 := St.rf hI
  refine Tr.iload_n (pc := 0) (i := 1) d_X7_takeWord_0 rfl rfl ?_
  refine Tr.istore_n (pc := 1) (i := 2) (ls2 := [(2, (0, a1)), (0, (2, 2)), (1, (0, a1))]) d_X7_takeWord_1 rfl (by decide) rfl ?_
  refine Tr.iconst (pc := 2) d_X7_takeWord_2 (by decide) ?_
  refine Tr.istore_n (pc := 3) (i := 3) (ls2 := [(3, (0, 0)), (2, (0, a1)), (0, (2, 2)), (1, (0, a1))]) d_X7_takeWord_3 rfl (by decide) rfl ?_
  have J4 : ∀ (n4 : Nat) (M : Mem) (p4_2 p4_3 : Int), St Tru ws_X7_takeWord_2 as_X7_takeWord_2 M0 M → (0 ≤ p4_2 ∧ p4_2 ≤ 900) → ((-2147483648) ≤ p4_3 ∧ p4_3 ≤ 2147483647) → (900 - p4_2).toNat < n4 → Tr l K 6 mX7_takeWord 4 [(0, (2, 2)), (1, (0, a1)), (2, (0, p4_2)), (3, (0, p4_3))] [] M (q_X7_takeWord_2 M0) := by
    intro n4
    induction n4 with
    | zero => intro M p4_2 p4_3 hS bp4_2 bp4_3  hm4; exact absurd hm4 (Nat.not_lt_zero _)
    | succ n4 J4 =>
      intro M p4_2 p4_3 hS bp4_2 bp4_3  hm4
      refine Tr.iload_n (pc := 4) (i := 2) d_X7_takeWord_4 rfl rfl ?_
      refine Tr.aload_n (pc := 5) (i := 0) d_X7_takeWord_5 rfl rfl ?_
      refine Tr.getf (pc := 6) d_X7_takeWord_6 f_7_25 (by decide) (by decide) (ty_2 hS.1.1) ?_
      refine Tr.gen (P := fun v => 0 ≤ v ∧ v ≤ 900) (ir_2_5 hS.1.2.1) (fun r6 er6 br6 => ?_)
      have J53 : ∀ (M : Mem), St Tru ws_X7_takeWord_2 as_X7_takeWord_2 M0 M → rd M 2 5 = r6 → Tr l K 6 mX7_takeWord 53 [(0, (2, 2)), (1, (0, a1)), (2, (0, p4_2)), (3, (0, p4_3))] [] M (q_X7_takeWord_2 M0) := by
        intro M  hS  k53_2_5
        refine Tr.iload_n (pc := 53) (i := 2) d_X7_takeWord_53 rfl rfl ?_
        refine Tr.iload_n (pc := 54) (i := 1) d_X7_takeWord_54 rfl rfl ?_
        refine Tr.isub (pc := 55) d_X7_takeWord_55 ?_
        refine Tr.tp (-a1 + p4_2) ((w32_id (by omega)).trans (by omega)) ?_
        refine Tr.bipush (pc := 56) d_X7_takeWord_56 rfl (by decide) ?_
        refine Tr.icmp_le (pc := 58) (tgt := 73) d_X7_takeWord_58 rfl (fun c58 => ?_) (fun c58 => ?_)
        · refine Tr.aload_n (pc := 73) (i := 0) d_X7_takeWord_73 rfl rfl ?_
          refine Tr.iload_n (pc := 74) (i := 1) d_X7_takeWord_74 rfl rfl ?_
          refine Tr.iload_n (pc := 75) (i := 2) d_X7_takeWord_75 rfl rfl ?_
          refine Tr.callV (pc := 76) (as := [_, _]) d_X7_takeWord_76 s_7_64 ok_X7_ownWord rfl rfl (Nat.le_of_ble_eq_true rfl) (Nat.le_of_ble_eq_true rfl) (by decide) (ty_2 hS.1.1) ?_
          refine Tr.imp (Tr.deep (by decide) (sp_X7_ownWord_2 hS.1 hE ((St.kp hS (by decide) (by decide) (by decide)).trans en_2_4) a1 (by omega) p4_2 (by omega))) ?_
          rintro M76 _ ⟨h76, r76, rfl, lr76, ur76⟩
          have hS := St.tr hS h76 (by decide) (by decide)
          refine Tr.sc [(0, r76)] rfl ?_
          refine Tr.istore (pc := 79) (i := 4) (ls2 := [(4, (0, r76)), (0, (2, 2)), (1, (0, a1)), (2, (0, p4_2)), (3, (0, p4_3))]) d_X7_takeWord_79 (by decide) rfl ?_
          refine Tr.iload (pc := 81) (i := 4) d_X7_takeWord_81 rfl ?_
          refine Tr.if_lt (pc := 83) (tgt := 96) d_X7_takeWord_83 rfl (fun c83 => ?_) (fun c83 => ?_)
          · refine Tr.aload_n (pc := 96) (i := 0) d_X7_takeWord_96 rfl rfl ?_
            refine Tr.iconst (pc := 97) d_X7_takeWord_97 (by decide) ?_
            refine Tr.iload_n (pc := 98) (i := 1) d_X7_takeWord_98 rfl rfl ?_
            refine Tr.iload_n (pc := 99) (i := 3) d_X7_takeWord_99 rfl rfl ?_
            refine Tr.iload_n (pc := 100) (i := 2) d_X7_takeWord_100 rfl rfl ?_
            refine Tr.callV (pc := 101) (as := [_, _, _, _]) d_X7_takeWord_101 s_7_40 ok_X7_add rfl rfl (Nat.le_of_ble_eq_true rfl) (Nat.le_of_ble_eq_true rfl) (by decide) (ty_2 hS.1.1) ?_
            refine Tr.imp (Tr.deep (by decide) (sp_X7_add_2_w3 hS.1 3 (by omega) a1 (by omega) p4_3 (by omega) p4_2 (by omega))) ?_
            rintro M101 _ ⟨h101, r101, rfl, lr101, ur101⟩
            have hS := St.tr hS h101 (by decide) (by decide)
            refine Tr.sc [(0, r101)] rfl ?_
            exact Tr.iret (pc := 104) d_X7_takeWord_104 rfl ⟨hS, _, rfl, by omega, by omega⟩
          · refine Tr.aload_n (pc := 86) (i := 0) d_X7_takeWord_86 rfl rfl ?_
            refine Tr.iconst (pc := 87) d_X7_takeWord_87 (by decide) ?_
            refine Tr.iload_n (pc := 88) (i := 1) d_X7_takeWord_88 rfl rfl ?_
            refine Tr.iload (pc := 89) (i := 4) d_X7_takeWord_89 rfl ?_
            refine Tr.iload_n (pc := 91) (i := 2) d_X7_takeWord_91 rfl rfl ?_
            refine Tr.callV (pc := 92) (as := [_, _, _, _]) d_X7_takeWord_92 s_7_40 ok_X7_add rfl rfl (Nat.le_of_ble_eq_true rfl) (Nat.le_of_ble_eq_true rfl) (by decide) (ty_2 hS.1.1) ?_
            refine Tr.imp (Tr.deep (by decide) (sp_X7_add_2_w4 hS.1 2 (by omega) a1 (by omega) r76 (by omega) p4_2 (by omega))) ?_
            rintro M92 _ ⟨h92, r92, rfl, lr92, ur92⟩
            have hS := St.tr hS h92 (by decide) (by decide)
            refine Tr.sc [(0, r92)] rfl ?_
            exact Tr.iret (pc := 95) d_X7_takeWord_95 rfl ⟨hS, _, rfl, by omega, by omega⟩
        · refine Tr.aload_n (pc := 61) (i := 0) d_X7_takeWord_61 rfl rfl ?_
          refine Tr.iconst (pc := 62) d_X7_takeWord_62 (by decide) ?_
          refine Tr.iload_n (pc := 63) (i := 1) d_X7_takeWord_63 rfl rfl ?_
          refine Tr.bipush (pc := 64) d_X7_takeWord_64 rfl (by decide) ?_
          refine Tr.iadd (pc := 66) d_X7_takeWord_66 ?_
          refine Tr.tp (a1 + 6) ((w32_id (by omega)).trans (by omega)) ?_
          refine Tr.iconst (pc := 67) d_X7_takeWord_67 (by decide) ?_
          refine Tr.iconst (pc := 68) d_X7_takeWord_68 (by decide) ?_
          refine Tr.callV (pc := 69) (as := [_, _, _, _]) d_X7_takeWord_69 s_7_40 ok_X7_add rfl rfl (Nat.le_of_ble_eq_true rfl) (Nat.le_of_ble_eq_true rfl) (by decide) (ty_2 hS.1.1) ?_
          refine Tr.imp (Tr.deep (by decide) (sp_X7_add_2_w2 hS.1 1 (by omega) (a1 + 6) (by omega) 0 (by omega) (-1) (by omega))) ?_
          rintro M69 _ ⟨h69, r69, rfl, lr69, ur69⟩
          have hS := St.tr hS h69 (by decide) (by decide)
          refine Tr.sc [(0, r69)] rfl ?_
          exact Tr.iret (pc := 72) d_X7_takeWord_72 rfl ⟨hS, _, rfl, by omega, by omega⟩
      refine Tr.icmp_ge (pc := 9) (tgt := 53) d_X7_takeWord_9 rfl (fun c9 => ?_) (fun c9 => ?_)
      · refine Tr.pick [0, 1, 2, 3] (ls2 := [(0, (2, 2)), (1, (0, a1)), (2, (0, p4_2)), (3, (0, p4_3))]) rfl ?_
        exact J53 _ hS er6
      · refine Tr.iload_n (pc := 12) (i := 2) d_X7_takeWord_12 rfl rfl ?_
        refine Tr.iload_n (pc := 13) (i := 1) d_X7_takeWord_13 rfl rfl ?_
        refine Tr.bipush (pc := 14) d_X7_takeWord_14 rfl (by decide) ?_
        refine Tr.iadd (pc := 16) d_X7_takeWord_16 ?_
        refine Tr.tp (a1 + 6) ((w32_id (by omega)).trans (by omega)) ?_
        refine Tr.icmp_gt (pc := 17) (tgt := 53) d_X7_takeWord_17 rfl (fun c17 => ?_) (fun c17 => ?_)
        · refine Tr.pick [0, 1, 2, 3] (ls2 := [(0, (2, 2)), (1, (0, a1)), (2, (0, p4_2)), (3, (0, p4_3))]) rfl ?_
          exact J53 _ hS er6
        · refine Tr.aload_n (pc := 20) (i := 0) d_X7_takeWord_20 rfl rfl ?_
          refine Tr.getf (pc := 21) d_X7_takeWord_21 f_7_21 (by decide) (by decide) (ty_2 hS.1.1) ?_
          refine Tr.tp 1 ((St.kp hS (by decide) (by decide) (by decide)).trans en_2_4) ?_
          refine Tr.iload_n (pc := 24) (i := 2) d_X7_takeWord_24 rfl rfl ?_
          refine Tr.bald (pc := 25) d_X7_takeWord_25 (ty_1 hS.1.1) (by omega) (by omega) ?_
          refine Tr.gen (P := fun v => (-128) ≤ v ∧ v ≤ 127) (ar_1 hS.1.2.1 _) (fun r25 er25 br25 => ?_)
          refine Tr.callS (pc := 26) (as := [_]) d_X7_takeWord_26 s_7_44 ok_X7_isLetter rfl rfl (Nat.le_of_ble_eq_true rfl) (Nat.le_of_ble_eq_true rfl) ?_
          refine Tr.imp (Tr.deep (by decide) (sp_X7_isLetter hS.1 r25 (by omega))) ?_
          rintro M26 _ ⟨h26, r26, rfl, lr26, ur26⟩
          have hS := St.tr hS h26 (by decide) (by decide)
          refine Tr.sc [(0, r26)] rfl ?_
          refine Tr.if_eq (pc := 29) (tgt := 53) d_X7_takeWord_29 rfl (fun c29 => ?_) (fun c29 => ?_)
          · refine Tr.pick [0, 1, 2, 3] (ls2 := [(0, (2, 2)), (1, (0, a1)), (2, (0, p4_2)), (3, (0, p4_3))]) rfl ?_
            exact J53 _ hS ((St.kp h26 (by decide) (by decide) (by decide)).trans er6)
          · refine Tr.iload_n (pc := 32) (i := 3) d_X7_takeWord_32 rfl rfl ?_
            refine Tr.bipush (pc := 33) d_X7_takeWord_33 rfl (by decide) ?_
            refine Tr.imul (pc := 35) d_X7_takeWord_35 ?_
            refine Tr.gen (P := fun v => (-2147483648) ≤ v ∧ v ≤ 2147483647) (w32_b _) (fun r35 er35 br35 => ?_)
            refine Tr.aload_n (pc := 36) (i := 0) d_X7_takeWord_36 rfl rfl ?_
            refine Tr.getf (pc := 37) d_X7_takeWord_37 f_7_21 (by decide) (by decide) (ty_2 hS.1.1) ?_
            refine Tr.tp 1 ((St.kp hS (by decide) (by decide) (by decide)).trans en_2_4) ?_
            refine Tr.iload_n (pc := 40) (i := 2) d_X7_takeWord_40 rfl rfl ?_
            refine Tr.bald (pc := 41) d_X7_takeWord_41 (ty_1 hS.1.1) (by omega) (by omega) ?_
            refine Tr.tp r25 ((St.ka h26 (by decide) (by decide) (by decide)).trans er25) ?_
            refine Tr.iadd (pc := 42) d_X7_takeWord_42 ?_
            refine Tr.gen (P := fun v => (-2147483648) ≤ v ∧ v ≤ 2147483647) (w32_b _) (fun r42 er42 br42 => ?_)
            refine Tr.bipush (pc := 43) d_X7_takeWord_43 rfl (by decide) ?_
            refine Tr.isub (pc := 45) d_X7_takeWord_45 ?_
            refine Tr.gen (P := fun v => (-2147483648) ≤ v ∧ v ≤ 2147483647) (w32_b _) (fun r45 er45 br45 => ?_)
            refine Tr.istore_n (pc := 46) (i := 3) (ls2 := [(3, (0, r45)), (0, (2, 2)), (1, (0, a1)), (2, (0, p4_2))]) d_X7_takeWord_46 rfl (by decide) rfl ?_
            refine Tr.iincV (pc := 47) (n2 := (p4_2 + 1)) (ls2 := [(2, (0, (p4_2 + 1))), (3, (0, r45)), (0, (2, 2)), (1, (0, a1))]) d_X7_takeWord_47 rfl (by decide) ((w32_id (by omega)).trans (by omega)) rfl ?_
            refine Tr.goto (pc := 50) (tgt := 4) d_X7_takeWord_50 rfl ?_
            refine Tr.pick [2, 3, 0, 1] (ls2 := [(0, (2, 2)), (1, (0, a1)), (2, (0, (p4_2 + 1))), (3, (0, r45))]) rfl ?_
            exact J4 _ _ _ hS (by omega) (by omega) (by omega)
  refine Tr.pick [2, 3, 1, 0] (ls2 := [(0, (2, 2)), (1, (0, a1)), (2, (0, a1)), (3, (0, 0))]) rfl ?_
  exact J4 _ _ _ _ hS (by omega) (by omega) (Nat.lt_succ_self _)

def ws_X7_takeOne_2_w1 : List (Int × Int) := [(2, 3)]
def as_X7_takeOne_2_w1 : List Int := [3, 4, 5]
def q_X7_takeOne_2_w1 (M0 M' : Mem) (r : Option PV) : Prop := St Tru ws_X7_takeOne_2_w1 as_X7_takeOne_2_w1 M0 M' ∧ ∃ v : Int, r = some (0, v) ∧ (-1) ≤ v ∧ v ≤ 900
set_option maxRecDepth 100000 in
set_option maxHeartbeats 4000000 in
theorem sp_X7_takeOne_2_w1 {l : Launch} {K : EC} {M0 : Mem} {xq : Int} (hI : In Tru M0) (hE : e_all K xq) (en_2_4 : rd M0 2 4 = 1) (a1 : Int) (ha1 : 0 ≤ a1 ∧ a1 ≤ 900) (a2 : Int) (ha2 : 0 ≤ a2 ∧ a2 ≤ 1)  : Tr l K 7 mX7_takeOne 0 [(0, (2, 2)), (1, (0, a1)), (2, (0, a2))] [] M0 (q_X7_takeOne_2_w1 M0) := by
  have hS : St Tru ws_X7_takeOne_2_w1 as_X7_takeOne_2_w1 M0 M0 := St.rf hI
  refine Tr.iload_n (pc := 0) (i := 1) d_X7_takeOne_0 rfl rfl ?_
  refine Tr.aload_n (pc := 1) (i := 0) d_X7_takeOne_1 rfl rfl ?_
  refine Tr.getf (pc := 2) d_X7_takeOne_2 f_7_25 (by decide) (by decide) (ty_2 hS.1.1) ?_
  refine Tr.gen (P := fun v => 0 ≤ v ∧ v ≤ 900) (ir_2_5 hS.1.2.1) (fun r2 er2 br2 => ?_)
  refine Tr.icmp_lt (pc := 5) (tgt := 17) d_X7_takeOne_5 rfl (fun c5 => ?_) (fun c5 => ?_)
  · refine Tr.aload_n (pc := 17) (i := 0) d_X7_takeOne_17 rfl rfl ?_
    refine Tr.getf (pc := 18) d_X7_takeOne_18 f_7_21 (by decide) (by decide) (ty_2 hS.1.1) ?_
    refine Tr.tp 1 ((St.kp hS (by decide) (by decide) (by decide)).trans en_2_4) ?_
    refine Tr.iload_n (pc := 21) (i := 1) d_X7_takeOne_21 rfl rfl ?_
    refine Tr.bald (pc := 22) d_X7_takeOne_22 (ty_1 hS.1.1) (by omega) (by omega) ?_
    refine Tr.gen (P := fun v => (-128) ≤ v ∧ v ≤ 127) (ar_1 hS.1.2.1 _) (fun r22 er22 br22 => ?_)
    refine Tr.istore_n (pc := 23) (i := 3) (ls2 := [(3, (0, r22)), (0, (2, 2)), (1, (0, a1)), (2, (0, a2))]) d_X7_takeOne_23 rfl (by decide) rfl ?_
    refine Tr.iload_n (pc := 24) (i := 3) d_X7_takeOne_24 rfl rfl ?_
    refine Tr.callS (pc := 25) (as := [_]) d_X7_takeOne_25 s_7_44 ok_X7_isLetter rfl rfl (Nat.le_of_ble_eq_true rfl) (Nat.le_of_ble_eq_true rfl) ?_
    refine Tr.imp (Tr.deep (by decide) (sp_X7_isLetter hS.1 r22 (by omega))) ?_
    rintro M25 _ ⟨h25, r25, rfl, lr25, ur25⟩
    have hS := St.tr hS h25 (by decide) (by decide)
    refine Tr.sc [(0, r25)] rfl ?_
    have J38 : ∀ (M : Mem), St Tru ws_X7_takeOne_2_w1 as_X7_takeOne_2_w1 M0 M → rd M 1 a1 = r22 → rd M 2 5 = r2 → Tr l K 7 mX7_takeOne 38 [(0, (2, 2)), (1, (0, a1)), (2, (0, a2)), (3, (0, r22))] [] M (q_X7_takeOne_2_w1 M0) := by
      intro M  hS  k38_1_a110 k38_2_5
      refine Tr.iload_n (pc := 38) (i := 2) d_X7_takeOne_38 rfl rfl ?_
      refine Tr.if_eq (pc := 39) (tgt := 51) d_X7_takeOne_39 rfl (fun c39 => ?_) (fun c39 => ?_)
      · refine Tr.iload_n (pc := 51) (i := 3) d_X7_takeOne_51 rfl rfl ?_
        refine Tr.callS (pc := 52) (as := [_]) d_X7_takeOne_52 s_7_44 ok_X7_isLetter rfl rfl (Nat.le_of_ble_eq_true rfl) (Nat.le_of_ble_eq_true rfl) ?_
        refine Tr.imp (Tr.deep (by decide) (sp_X7_isLetter hS.1 r22 (by omega))) ?_
        rintro M52 _ ⟨h52, r52, rfl, lr52, ur52⟩
        have hS := St.tr hS h52 (by decide) (by decide)
        refine Tr.sc [(0, r52)] rfl ?_
        refine Tr.if_eq (pc := 55) (tgt := 66) d_X7_takeOne_55 rfl (fun c55 => ?_) (fun c55 => ?_)
        · refine Tr.aload_n (pc := 66) (i := 0) d_X7_takeOne_66 rfl rfl ?_
          refine Tr.iload_n (pc := 67) (i := 1) d_X7_takeOne_67 rfl rfl ?_
          refine Tr.callV (pc := 68) (as := [_]) d_X7_takeOne_68 s_7_54 ok_X7_takeNumber rfl rfl (Nat.le_of_ble_eq_true rfl) (Nat.le_of_ble_eq_true rfl) (by decide) (ty_2 hS.1.1) ?_
          refine Tr.imp (Tr.deep (by decide) (sp_X7_takeNumber_2 hS.1 ((St.kp hS (by decide) (by decide) (by decide)).trans en_2_4) a1 (by omega))) ?_
          rintro M68 _ ⟨h68, r68, rfl, lr68, ur68⟩
          have hS := St.tr hS h68 (by decide) (by decide)
          refine Tr.sc [(0, r68)] rfl ?_
          exact Tr.iret (pc := 71) d_X7_takeOne_71 rfl ⟨hS, _, rfl, by omega, by omega⟩
        · refine Tr.aload_n (pc := 58) (i := 0) d_X7_takeOne_58 rfl rfl ?_
          refine Tr.iload_n (pc := 59) (i := 1) d_X7_takeOne_59 rfl rfl ?_
          refine Tr.callV (pc := 60) (as := [_]) d_X7_takeOne_60 s_7_51 ok_X7_takeWord rfl rfl (Nat.le_of_ble_eq_true rfl) (Nat.le_of_ble_eq_true rfl) (by decide) (ty_2 hS.1.1) ?_
          refine Tr.imp (Tr.deep (by decide) (sp_X7_takeWord_2 hS.1 hE ((St.kp hS (by decide) (by decide) (by decide)).trans en_2_4) a1 (by omega))) ?_
          rintro M60 _ ⟨h60, r60, rfl, lr60, ur60⟩
          have hS := St.tr hS h60 (by decide) (by decide)
          refine Tr.sc [(0, r60)] rfl ?_
          refine Tr.goto (pc := 63) (tgt := 71) d_X7_takeOne_63 rfl ?_
          exact Tr.iret (pc := 71) d_X7_takeOne_71 rfl ⟨hS, _, rfl, by omega, by omega⟩
      · refine Tr.aload_n (pc := 42) (i := 0) d_X7_takeOne_42 rfl rfl ?_
        refine Tr.iconst (pc := 43) d_X7_takeOne_43 (by decide) ?_
        refine Tr.iload_n (pc := 44) (i := 1) d_X7_takeOne_44 rfl rfl ?_
        refine Tr.iconst (pc := 45) d_X7_takeOne_45 (by decide) ?_
        refine Tr.iconst (pc := 46) d_X7_takeOne_46 (by decide) ?_
        refine Tr.callV (pc := 47) (as := [_, _, _, _]) d_X7_takeOne_47 s_7_40 ok_X7_add rfl rfl (Nat.le_of_ble_eq_true rfl) (Nat.le_of_ble_eq_true rfl) (by decide) (ty_2 hS.1.1) ?_
        refine Tr.imp (Tr.deep (by decide) (sp_X7_add_2_w2 hS.1 1 (by omega) a1 (by omega) 0 (by omega) (-1) (by omega))) ?_
        rintro M47 _ ⟨h47, r47, rfl, lr47, ur47⟩
        have hS := St.tr hS h47 (by decide) (by decide)
        refine Tr.sc [(0, r47)] rfl ?_
        exact Tr.iret (pc := 50) d_X7_takeOne_50 rfl ⟨hS, _, rfl, by omega, by omega⟩
    refine Tr.if_ne (pc := 28) (tgt := 38) d_X7_takeOne_28 rfl (fun c28 => ?_) (fun c28 => ?_)
    · refine Tr.pick [1, 2, 3, 0] (ls2 := [(0, (2, 2)), (1, (0, a1)), (2, (0, a2)), (3, (0, r22))]) rfl ?_
      exact J38 _ hS ((St.ka h25 (by decide) (by decide) (by decide)).trans er22) ((St.kp h25 (by decide) (by decide) (by decide)).trans er2)
    · refine Tr.iload_n (pc := 31) (i := 3) d_X7_takeOne_31 rfl rfl ?_
      refine Tr.callS (pc := 32) (as := [_]) d_X7_takeOne_32 s_7_48 ok_X7_isDigit rfl rfl (Nat.le_of_ble_eq_true rfl) (Nat.le_of_ble_eq_true rfl) ?_
      refine Tr.imp (Tr.deep (by decide) (sp_X7_isDigit hS.1 r22 (by omega))) ?_
      rintro M32 _ ⟨h32, r32, rfl, lr32, ur32⟩
      have hS := St.tr hS h32 (by decide) (by decide)
      refine Tr.sc [(0, r32)] rfl ?_
      refine Tr.if_eq (pc := 35) (tgt := 72) d_X7_takeOne_35 rfl (fun c35 => ?_) (fun c35 => ?_)
      · refine Tr.iload_n (pc := 72) (i := 3) d_X7_takeOne_72 rfl rfl ?_
        have J97 : ∀ (M : Mem), St Tru ws_X7_takeOne_2_w1 as_X7_takeOne_2_w1 M0 M → rd M 1 a1 = r22 → rd M 2 5 = r2 → Tr l K 7 mX7_takeOne 97 [(0, (2, 2)), (1, (0, a1))] [] M (q_X7_takeOne_2_w1 M0) := by
          intro M  hS  k97_1_a110 k97_2_5
          refine Tr.aload_n (pc := 97) (i := 0) d_X7_takeOne_97 rfl rfl ?_
          refine Tr.iconst (pc := 98) d_X7_takeOne_98 (by decide) ?_
          refine Tr.iload_n (pc := 99) (i := 1) d_X7_takeOne_99 rfl rfl ?_
          refine Tr.iconst (pc := 100) d_X7_takeOne_100 (by decide) ?_
          refine Tr.iconst (pc := 101) d_X7_takeOne_101 (by decide) ?_
          refine Tr.callV (pc := 102) (as := [_, _, _, _]) d_X7_takeOne_102 s_7_40 ok_X7_add rfl rfl (Nat.le_of_ble_eq_true rfl) (Nat.le_of_ble_eq_true rfl) (by decide) (ty_2 hS.1.1) ?_
          refine Tr.imp (Tr.deep (by decide) (sp_X7_add_2_w2 hS.1 1 (by omega) a1 (by omega) 0 (by omega) (-1) (by omega))) ?_
          rintro M102 _ ⟨h102, r102, rfl, lr102, ur102⟩
          have hS := St.tr hS h102 (by decide) (by decide)
          refine Tr.sc [(0, r102)] rfl ?_
          exact Tr.iret (pc := 105) d_X7_takeOne_105 rfl ⟨hS, _, rfl, by omega, by omega⟩
        refine Tr.if_le (pc := 73) (tgt := 97) d_X7_takeOne_73 rfl (fun c73 => ?_) (fun c73 => ?_)
        · refine Tr.pick [1, 2] (ls2 := [(0, (2, 2)), (1, (0, a1))]) rfl ?_
          exact J97 _ hS ((St.ka h32 (by decide) (by decide) (by decide)).trans ((St.ka h25 (by decide) (by decide) (by decide)).trans er22)) ((St.kp h32 (by decide) (by decide) (by decide)).trans ((St.kp h25 (by decide) (by decide) (by decide)).trans er2))
        · refine Tr.ldcs (pc := 76) (i := 6) d_X7_takeOne_76 hE.2.2.2.2.2.2.2.2.2.2.2.2.2.2.2.2.1 ?_
          refine Tr.tp (-8) rfl ?_
          refine Tr.iload_n (pc := 78) (i := 3) d_X7_takeOne_78 rfl rfl ?_
          refine Tr.i2c (pc := 79) d_X7_takeOne_79 (by omega) ?_
          refine Tr.callX (pc := 80) (i := 6) (as := [_]) d_X7_takeOne_80 sx_7_59 ok_J0_indexOf_0f7a4 rfl rfl (Nat.le_of_ble_eq_true rfl) (Nat.le_of_ble_eq_true rfl) rfl hE.2.2.2.2.2.2.2.2.2.2.2.1 ?_
          refine Tr.imp (Tr.deep (by decide) (sp_J0_indexOf_0f7a4_n8 hS.1 hE r22 (by omega))) ?_
          rintro M80 _ ⟨h80, r80, rfl, lr80, ur80⟩
          have hS := St.tr hS h80 (by decide) (by decide)
          refine Tr.sc [(0, r80)] rfl ?_
          refine Tr.if_lt (pc := 83) (tgt := 97) d_X7_takeOne_83 rfl (fun c83 => ?_) (fun c83 => ?_)
          · refine Tr.pick [1, 2] (ls2 := [(0, (2, 2)), (1, (0, a1))]) rfl ?_
            exact J97 _ hS ((St.ka h80 (by decide) (by decide) (by decide)).trans ((St.ka h32 (by decide) (by decide) (by decide)).trans ((St.ka h25 (by decide) (by decide) (by decide)).trans er22))) ((St.kp h80 (by decide) (by decide) (by decide)).trans ((St.kp h32 (by decide) (by decide) (by decide)).trans ((St.kp h25 (by decide) (by decide) (by decide)).trans er2)))
          · refine Tr.aload_n (pc := 86) (i := 0) d_X7_takeOne_86 rfl rfl ?_
            refine Tr.iconst (pc := 87) d_X7_takeOne_87 (by decide) ?_
            refine Tr.iload_n (pc := 88) (i := 1) d_X7_takeOne_88 rfl rfl ?_
            refine Tr.iload_n (pc := 89) (i := 3) d_X7_takeOne_89 rfl rfl ?_
            refine Tr.iload_n (pc := 90) (i := 1) d_X7_takeOne_90 rfl rfl ?_
            refine Tr.iconst (pc := 91) d_X7_takeOne_91 (by decide) ?_
            refine Tr.iadd (pc := 92) d_X7_takeOne_92 ?_
            refine Tr.tp (a1 + 1) ((w32_id (by omega)).trans (by omega)) ?_
            refine Tr.callV (pc := 93) (as := [_, _, _, _]) d_X7_takeOne_93 s_7_40 ok_X7_add rfl rfl (Nat.le_of_ble_eq_true rfl) (Nat.le_of_ble_eq_true rfl) (by decide) (ty_2 hS.1.1) ?_
            refine Tr.imp (Tr.deep (by decide) (sp_X7_add_2 hS.1 5 (by omega) a1 (by omega) r22 (by omega) (a1 + 1) (by omega))) ?_
            rintro M93 _ ⟨h93, r93, rfl, lr93, ur93⟩
            have hS := St.tr hS h93 (by decide) (by decide)
            refine Tr.sc [(0, r93)] rfl ?_
            exact Tr.iret (pc := 96) d_X7_takeOne_96 rfl ⟨hS, _, rfl, by omega, by omega⟩
      · refine Tr.pick [1, 2, 3, 0] (ls2 := [(0, (2, 2)), (1, (0, a1)), (2, (0, a2)), (3, (0, r22))]) rfl ?_
        exact J38 _ hS ((St.ka h32 (by decide) (by decide) (by decide)).trans ((St.ka h25 (by decide) (by decide) (by decide)).trans er22)) ((St.kp h32 (by decide) (by decide) (by decide)).trans ((St.kp h25 (by decide) (by decide) (by decide)).trans er2))
  · refine Tr.aload_n (pc := 8) (i := 0) d_X7_takeOne_8 rfl rfl ?_
    refine Tr.iconst (pc := 9) d_X7_takeOne_9 (by decide) ?_
    refine Tr.iload_n (pc := 10) (i := 1) d_X7_takeOne_10 rfl rfl ?_
    refine Tr.iconst (pc := 11) d_X7_takeOne_11 (by decide) ?_
    refine Tr.iconst (pc := 12) d_X7_takeOne_12 (by decide) ?_
    refine Tr.callV (pc := 13) (as := [_, _, _, _]) d_X7_takeOne_13 s_7_40 ok_X7_add rfl rfl (Nat.le_of_ble_eq_true rfl) (Nat.le_of_ble_eq_true rfl) (by decide) (ty_2 hS.1.1) ?_
    refine Tr.imp (Tr.deep (by decide) (sp_X7_add_2_w1 hS.1 0 (by omega) a1 (by omega) 0 (by omega) (-1) (by omega))) ?_
    rintro M13 _ ⟨h13, r13, rfl, lr13, ur13⟩
    have hS := St.tr hS h13 (by decide) (by decide)
    refine Tr.sc [(0, r13)] rfl ?_
    exact Tr.iret (pc := 16) d_X7_takeOne_16 rfl ⟨hS, _, rfl, by omega, by omega⟩
