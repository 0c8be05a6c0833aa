def ws_X7_takeApart_2_1 : List (Int × Int) := [(2, 3), (2, 4), (2, 5)]
def as_X7_takeApart_2_1 : List Int := [3, 4, 5]
def q_X7_takeApart_2_1 (M0 M' : Mem) (r : Option PV) : Prop := St Tru ws_X7_takeApart_2_1 as_X7_takeApart_2_1 M0 M' ∧ rd M' 2 4 = 1 ∧ r = none
set_option maxRecDepth 100000 in
set_option maxHeartbeats 4000000 in
theorem sp_X7_takeApart_2_1 {l : Launch} {K : EC} {M0 : Mem} {xq : Int} (hI : In Tru M0) (hE : e_all K xq)  (a2 : Int) (ha2 : 0 ≤ a2 ∧ a2 ≤ 900)  : Tr l K 8 mX7_takeApart 0 [(0, (2, 2)), (1, (2, 1)), (2, (0, a2))] [] M0 (q_X7_takeApart_2_1 M0) := by
  have hS : St Tru ws_X7_takeApart_2_1 as_X7_takeApart_2_1 M0 M0 := St.rf hI
  refine Tr.aload_n (pc := 0) (i := 0) d_X7_takeApart_0 rfl rfl ?_
  refine Tr.aload_n (pc := 1) (i := 1) d_X7_takeApart_1 rfl rfl ?_
  refine Tr.putfS (pc := 2) (P := St Tru ws_X7_takeApart_2_1 as_X7_takeApart_2_1 M0) d_X7_takeApart_2 f_7_21 (by decide) (by decide) (ty_2 hS.1.1) (st_2_4 hS (by decide) (by omega) trivial) (fun M2 hS w2 => ?_)
  refine Tr.aload_n (pc := 5) (i := 0) d_X7_takeApart_5 rfl rfl ?_
  refine Tr.iload_n (pc := 6) (i := 2) d_X7_takeApart_6 rfl rfl ?_
  refine Tr.putfS (pc := 7) (P := St Tru ws_X7_takeApart_2_1 as_X7_takeApart_2_1 M0) d_X7_takeApart_7 f_7_25 (by decide) (by decide) (ty_2 hS.1.1) (st_2_5 hS (by decide) (by omega) trivial) (fun M7 hS w7 => ?_)
  refine Tr.aload_n (pc := 10) (i := 0) d_X7_takeApart_10 rfl rfl ?_
  refine Tr.iconst (pc := 11) d_X7_takeApart_11 (by decide) ?_
  refine Tr.putfS (pc := 12) (P := St Tru ws_X7_takeApart_2_1 as_X7_takeApart_2_1 M0) d_X7_takeApart_12 f_7_29 (by decide) (by decide) (ty_2 hS.1.1) (st_2_3 hS (by decide) (by omega) trivial) (fun M12 hS w12 => ?_)
  refine Tr.iconst (pc := 15) d_X7_takeApart_15 (by decide) ?_
  refine Tr.istore_n (pc := 16) (i := 3) (ls2 := [(3, (0, 0)), (0, (2, 2)), (1, (2, 1)), (2, (0, a2))]) d_X7_takeApart_16 rfl (by decide) rfl ?_
  refine Tr.iconst (pc := 17) d_X7_takeApart_17 (by decide) ?_
  refine Tr.istore (pc := 18) (i := 4) (ls2 := [(4, (0, 0)), (3, (0, 0)), (0, (2, 2)), (1, (2, 1)), (2, (0, a2))]) d_X7_takeApart_18 (by decide) rfl ?_
  refine Tr.iconst (pc := 20) d_X7_takeApart_20 (by decide) ?_
  refine Tr.istore (pc := 21) (i := 5) (ls2 := [(5, (0, 0)), (4, (0, 0)), (3, (0, 0)), (0, (2, 2)), (1, (2, 1)), (2, (0, a2))]) d_X7_takeApart_21 (by decide) rfl ?_
  have J23 : ∀ (n23 : Nat) (M : Mem) (p23_3 p23_4 p23_5 : Int), St Tru ws_X7_takeApart_2_1 as_X7_takeApart_2_1 M0 M → ((-1) ≤ p23_3 ∧ p23_3 ≤ 900) → (0 ≤ p23_4 ∧ p23_4 ≤ 1) → (0 ≤ p23_5 ∧ p23_5 ≤ 901) → rd M 2 4 = 1 → rd M 2 5 = a2 → (901 - p23_5).toNat < n23 → Tr l K 8 mX7_takeApart 23 [(0, (2, 2)), (3, (0, p23_3)), (4, (0, p23_4)), (5, (0, p23_5))] [] M (q_X7_takeApart_2_1 M0) := by
    intro n23
    induction n23 with
    | zero => intro M p23_3 p23_4 p23_5 hS bp23_3 bp23_4 bp23_5 k23_2_4 k23_2_5 hm23; exact absurd hm23 (Nat.not_lt_zero _)
    | succ n23 J23 =>
      intro M p23_3 p23_4 p23_5 hS bp23_3 bp23_4 bp23_5 k23_2_4 k23_2_5 hm23
      refine Tr.iload (pc := 23) (i := 5) d_X7_takeApart_23 rfl ?_
      refine Tr.sipush (pc := 25) d_X7_takeApart_25 rfl (by decide) ?_
      refine Tr.icmp_gt (pc := 28) (tgt := 104) d_X7_takeApart_28 rfl (fun c28 => ?_) (fun c28 => ?_)
      · exact Tr.vret (pc := 104) d_X7_takeApart_104 rfl ⟨hS, k23_2_4, rfl⟩
      · refine Tr.iload_n (pc := 31) (i := 3) d_X7_takeApart_31 rfl rfl ?_
        refine Tr.if_lt (pc := 32) (tgt := 104) d_X7_takeApart_32 rfl (fun c32 => ?_) (fun c32 => ?_)
        · exact Tr.vret (pc := 104) d_X7_takeApart_104 rfl ⟨hS, k23_2_4, rfl⟩
        · refine Tr.aload_n (pc := 35) (i := 0) d_X7_takeApart_35 rfl rfl ?_
          refine Tr.iload_n (pc := 36) (i := 3) d_X7_takeApart_36 rfl rfl ?_
          refine Tr.callV (pc := 37) (as := [_]) d_X7_takeApart_37 s_7_32 ok_X7_skipBlanks rfl rfl (Nat.le_of_ble_eq_true rfl) (Nat.le_of_ble_eq_true rfl) (by decide) (ty_2 hS.1.1) ?_
          refine Tr.imp (Tr.deep (by decide) (sp_X7_skipBlanks_2_w1 hS.1 k23_2_4 p23_3 (by omega))) ?_
          rintro M37 _ ⟨h37, r37, rfl, lr37, ur37⟩
          have hS := St.tr hS h37 (by decide) (by decide)
          refine Tr.sc [(0, r37)] rfl ?_
          refine Tr.istore (pc := 40) (i := 6) (ls2 := [(6, (0, r37)), (0, (2, 2)), (3, (0, p23_3)), (4, (0, p23_4)), (5, (0, p23_5))]) d_X7_takeApart_40 (by decide) rfl ?_
          refine Tr.iload (pc := 42) (i := 4) d_X7_takeApart_42 rfl ?_
          have J58 : ∀ (M : Mem) (q58_0 : Int), St Tru ws_X7_takeApart_2_1 as_X7_takeApart_2_1 M0 M → (0 ≤ q58_0 ∧ q58_0 ≤ 1) → rd M 2 4 = 1 → rd M 2 5 = a2 → Tr l K 8 mX7_takeApart 58 [(0, (2, 2)), (5, (0, p23_5)), (6, (0, r37))] [(0, q58_0)] M (q_X7_takeApart_2_1 M0) := by
            intro M q58_0 hS bq58_0 k58_2_4 k58_2_5
            refine Tr.istore (pc := 58) (i := 7) (ls2 := [(7, (0, q58_0)), (0, (2, 2)), (5, (0, p23_5)), (6, (0, r37))]) d_X7_takeApart_58 (by decide) rfl ?_
            refine Tr.aload_n (pc := 60) (i := 0) d_X7_takeApart_60 rfl rfl ?_
            refine Tr.iload (pc := 61) (i := 6) d_X7_takeApart_61 rfl ?_
            refine Tr.iload (pc := 63) (i := 7) d_X7_takeApart_63 rfl ?_
            refine Tr.callV (pc := 65) (as := [_, _]) d_X7_takeApart_65 s_7_36 ok_X7_takeOne rfl rfl (Nat.le_of_ble_eq_true rfl) (Nat.le_of_ble_eq_true rfl) (by decide) (ty_2 hS.1.1) ?_
            refine Tr.imp (Tr.deep (by decide) (sp_X7_takeOne_2_w1 hS.1 hE k58_2_4 r37 (by omega) q58_0 (by omega))) ?_
            rintro M65 _ ⟨h65, r65, rfl, lr65, ur65⟩
            have hS := St.tr hS h65 (by decide) (by decide)
            refine Tr.sc [(0, r65)] rfl ?_
            refine Tr.istore_n (pc := 68) (i := 3) (ls2 := [(3, (0, r65)), (7, (0, q58_0)), (0, (2, 2)), (5, (0, p23_5)), (6, (0, r37))]) d_X7_takeApart_68 rfl (by decide) rfl ?_
            refine Tr.aload_n (pc := 69) (i := 0) d_X7_takeApart_69 rfl rfl ?_
            refine Tr.getf (pc := 70) d_X7_takeApart_70 f_7_29 (by decide) (by decide) (ty_2 hS.1.1) ?_
            refine Tr.gen (P := fun v => 0 ≤ v ∧ v ≤ 901) (ir_2_3 hS.1.2.1) (fun r70 er70 br70 => ?_)
            have J96 : ∀ (M : Mem) (q96_0 : Int), St Tru ws_X7_takeApart_2_1 as_X7_takeApart_2_1 M0 M → (0 ≤ q96_0 ∧ q96_0 ≤ 1) → rd M 2 3 = r70 → rd M 2 4 = 1 → rd M 2 5 = a2 → Tr l K 8 mX7_takeApart 96 [(0, (2, 2)), (3, (0, r65)), (5, (0, p23_5))] [(0, q96_0)] M (q_X7_takeApart_2_1 M0) := by
              intro M q96_0 hS bq96_0 k96_2_3 k96_2_4 k96_2_5
              refine Tr.istore (pc := 96) (i := 4) (ls2 := [(4, (0, q96_0)), (0, (2, 2)), (3, (0, r65)), (5, (0, p23_5))]) d_X7_takeApart_96 (by decide) rfl ?_
              refine Tr.iincV (pc := 98) (n2 := (p23_5 + 1)) (ls2 := [(5, (0, (p23_5 + 1))), (4, (0, q96_0)), (0, (2, 2)), (3, (0, r65))]) d_X7_takeApart_98 rfl (by decide) ((w32_id (by omega)).trans (by omega)) rfl ?_
              refine Tr.goto (pc := 101) (tgt := 23) d_X7_takeApart_101 rfl ?_
              refine Tr.pick [2, 3, 1, 0] (ls2 := [(0, (2, 2)), (3, (0, r65)), (4, (0, q96_0)), (5, (0, (p23_5 + 1)))]) rfl ?_
              exact J23 _ _ _ _ hS (by omega) (by omega) (by omega) k96_2_4 k96_2_5 (by omega)
            have J95 : ∀ (M : Mem), St Tru ws_X7_takeApart_2_1 as_X7_takeApart_2_1 M0 M → rd M 2 3 = r70 → rd M 2 4 = 1 → rd M 2 5 = a2 → Tr l K 8 mX7_takeApart 95 [(0, (2, 2)), (3, (0, r65)), (5, (0, p23_5))] [] M (q_X7_takeApart_2_1 M0) := by
              intro M  hS  k95_2_3 k95_2_4 k95_2_5
              refine Tr.iconst (pc := 95) d_X7_takeApart_95 (by decide) ?_
              refine Tr.pick [0, 1, 2] (ls2 := [(0, (2, 2)), (3, (0, r65)), (5, (0, p23_5))]) rfl ?_
              exact J96 _ _ hS (by omega) k95_2_3 k95_2_4 k95_2_5
            refine Tr.if_le (pc := 73) (tgt := 95) d_X7_takeApart_73 rfl (fun c73 => ?_) (fun c73 => ?_)
            · refine Tr.pick [2, 0, 3] (ls2 := [(0, (2, 2)), (3, (0, r65)), (5, (0, p23_5))]) rfl ?_
              exact J95 _ hS er70 ((St.kp h65 (by decide) (by decide) (by decide)).trans k58_2_4) ((St.kp h65 (by decide) (by decide) (by decide)).trans k58_2_5)
            · refine Tr.aload_n (pc := 76) (i := 0) d_X7_takeApart_76 rfl rfl ?_
              refine Tr.getf (pc := 77) d_X7_takeApart_77 f_7_9 (by decide) (by decide) (ty_2 hS.1.1) ?_
              refine Tr.tp 3 (fx_2_0 hS.1.1) ?_
              refine Tr.aload_n (pc := 80) (i := 0) d_X7_takeApart_80 rfl rfl ?_
              refine Tr.getf (pc := 81) d_X7_takeApart_81 f_7_29 (by decide) (by decide) (ty_2 hS.1.1) ?_
              refine Tr.tp r70 er70 ?_
              refine Tr.iconst (pc := 84) d_X7_takeApart_84 (by decide) ?_
              refine Tr.isub (pc := 85) d_X7_takeApart_85 ?_
              refine Tr.tp (r70 - 1) ((w32_id (by omega)).trans (by omega)) ?_
              refine Tr.iald (pc := 86) d_X7_takeApart_86 (ty_3 hS.1.1) (by omega) (by omega) ?_
              refine Tr.gen (P := fun v => (-2147483648) ≤ v ∧ v ≤ 2147483647) (ar_3 hS.1.2.1 _) (fun r86 er86 br86 => ?_)
              refine Tr.iconst (pc := 87) d_X7_takeApart_87 (by decide) ?_
              refine Tr.icmp_eq (pc := 88) (tgt := 95) d_X7_takeApart_88 rfl (fun c88 => ?_) (fun c88 => ?_)
              · refine Tr.pick [2, 0, 3] (ls2 := [(0, (2, 2)), (3, (0, r65)), (5, (0, p23_5))]) rfl ?_
                exact J95 _ hS er70 ((St.kp h65 (by decide) (by decide) (by decide)).trans k58_2_4) ((St.kp h65 (by decide) (by decide) (by decide)).trans k58_2_5)
              · refine Tr.iconst (pc := 91) d_X7_takeApart_91 (by decide) ?_
                refine Tr.goto (pc := 92) (tgt := 96) d_X7_takeApart_92 rfl ?_
                refine Tr.pick [2, 0, 3] (ls2 := [(0, (2, 2)), (3, (0, r65)), (5, (0, p23_5))]) rfl ?_
                exact J96 _ _ hS (by omega) er70 ((St.kp h65 (by decide) (by decide) (by decide)).trans k58_2_4) ((St.kp h65 (by decide) (by decide) (by decide)).trans k58_2_5)
          have J57 : ∀ (M : Mem), St Tru ws_X7_takeApart_2_1 as_X7_takeApart_2_1 M0 M → rd M 2 4 = 1 → rd M 2 5 = a2 → Tr l K 8 mX7_takeApart 57 [(0, (2, 2)), (5, (0, p23_5)), (6, (0, r37))] [] M (q_X7_takeApart_2_1 M0) := by
            intro M  hS  k57_2_4 k57_2_5
            refine Tr.iconst (pc := 57) d_X7_takeApart_57 (by decide) ?_
            refine Tr.pick [0, 1, 2] (ls2 := [(0, (2, 2)), (5, (0, p23_5)), (6, (0, r37))]) rfl ?_
            exact J58 _ _ hS (by omega) k57_2_4 k57_2_5
          refine Tr.if_eq (pc := 44) (tgt := 57) d_X7_takeApart_44 rfl (fun c44 => ?_) (fun c44 => ?_)
          · refine Tr.pick [1, 4, 0] (ls2 := [(0, (2, 2)), (5, (0, p23_5)), (6, (0, r37))]) rfl ?_
            exact J57 _ hS ((St.kp h37 (by decide) (by decide) (by decide)).trans k23_2_4) ((St.kp h37 (by decide) (by decide) (by decide)).trans k23_2_5)
          · refine Tr.iload (pc := 47) (i := 6) d_X7_takeApart_47 rfl ?_
            refine Tr.iload_n (pc := 49) (i := 3) d_X7_takeApart_49 rfl rfl ?_
            refine Tr.icmp_ne (pc := 50) (tgt := 57) d_X7_takeApart_50 rfl (fun c50 => ?_) (fun c50 => ?_)
            · refine Tr.pick [1, 4, 0] (ls2 := [(0, (2, 2)), (5, (0, p23_5)), (6, (0, r37))]) rfl ?_
              exact J57 _ hS ((St.kp h37 (by decide) (by decide) (by decide)).trans k23_2_4) ((St.kp h37 (by decide) (by decide) (by decide)).trans k23_2_5)
            · refine Tr.iconst (pc := 53) d_X7_takeApart_53 (by decide) ?_
              refine Tr.goto (pc := 54) (tgt := 58) d_X7_takeApart_54 rfl ?_
              refine Tr.pick [1, 4, 0] (ls2 := [(0, (2, 2)), (5, (0, p23_5)), (6, (0, r37))]) rfl ?_
              exact J58 _ _ hS (by omega) ((St.kp h37 (by decide) (by decide) (by decide)).trans k23_2_4) ((St.kp h37 (by decide) (by decide) (by decide)).trans k23_2_5)
  refine Tr.pick [3, 2, 1, 0] (ls2 := [(0, (2, 2)), (3, (0, 0)), (4, (0, 0)), (5, (0, 0))]) rfl ?_
  exact J23 _ _ _ _ _ hS (by omega) (by omega) (by omega) ((Wr.b w12 rfl).trans ((Wr.b w7 rfl).trans w2.1)) ((Wr.b w12 rfl).trans w7.1) (Nat.lt_succ_self _)

def ws_X3_isFull_27 : List (Int × Int) := []
def as_X3_isFull_27 : List Int := []
def q_X3_isFull_27 (M0 M' : Mem) (r : Option PV) : Prop := St Tru ws_X3_isFull_27 as_X3_isFull_27 M0 M' ∧ ∃ v : Int, r = some (0, v) ∧ 0 ≤ v ∧ v ≤ 1
set_option maxRecDepth 100000 in
set_option maxHeartbeats 4000000 in
theorem sp_X3_isFull_27 {l : Launch} {K : EC} {M0 : Mem} {xq : Int} (hI : In Tru M0) (hE : e_all K xq)  (a1 : Int) (ha1 : 2 ≤ a1 ∧ a1 ≤ 2)  : Tr l K 0 mX3_isFull 0 [(0, (2, 27)), (1, (0, a1))] [] M0 (q_X3_isFull_27 M0) := by
  have hS : St Tru ws_X3_isFull_27 as_X3_isFull_27 M0 M0 := St.rf hI
  refine Tr.aload_n (pc := 0) (i := 0) d_X3_isFull_0 rfl rfl ?_
  refine Tr.getf (pc := 1) d_X3_isFull_1 f_3_11 (by decide) (by decide) (ty_27 hS.1.1) ?_
  refine Tr.tp 28 (fx_27_4 hS.1.1) ?_
  refine Tr.iload_n (pc := 4) (i := 1) d_X3_isFull_4 rfl rfl ?_
  refine Tr.tp 2 (by omega) ?_
  refine Tr.iald (pc := 5) d_X3_isFull_5 (ty_28 hS.1.1) (by omega) (by omega) ?_
  refine Tr.gen (P := fun v => 0 ≤ v ∧ v ≤ 6) (ir_28_2 hS.1.2.1) (fun r5 er5 br5 => ?_)
  refine Tr.gets (pc := 6) d_X3_isFull_6 sl_3_62 hE.2.2.2.1 ?_
  refine Tr.iload_n (pc := 9) (i := 1) d_X3_isFull_9 rfl rfl ?_
  refine Tr.tp 2 (by omega) ?_
  refine Tr.xld (pc := 10) (i := 1) d_X3_isFull_10 rfl hE.1 (by omega) (by omega) ?_
  refine Tr.tp 6 (by decide) ?_
  refine Tr.icmp_lt (pc := 11) (tgt := 18) d_X3_isFull_11 rfl (fun c11 => ?_) (fun c11 => ?_)
  · refine Tr.iconst (pc := 18) d_X3_isFull_18 (by decide) ?_
    exact Tr.zret (pc := 19) d_X3_isFull_19 rfl (by omega) ⟨hS, _, rfl, by omega, by omega⟩
  · refine Tr.iconst (pc := 14) d_X3_isFull_14 (by decide) ?_
    refine Tr.goto (pc := 15) (tgt := 19) d_X3_isFull_15 rfl ?_
    exact Tr.zret (pc := 19) d_X3_isFull_19 rfl (by omega) ⟨hS, _, rfl, by omega, by omega⟩

def ws_X3_name_27 : List (Int × Int) := [(28, 2)]
def as_X3_name_27 : List Int := [34]
def q_X3_name_27 (M0 M' : Mem) (r : Option PV) : Prop := St Tru ws_X3_name_27 as_X3_name_27 M0 M' ∧ r = none
set_option maxRecDepth 100000 in
set_option maxHeartbeats 4000000 in
theorem sp_X3_name_27 {l : Launch} {K : EC} {M0 : Mem} {xq : Int} (hI : In Tru M0) (hE : e_all K xq)  (a1 : Int) (ha1 : 2 ≤ a1 ∧ a1 ≤ 2) (a2 : Int) (ha2 : (-2147483648) ≤ a2 ∧ a2 ≤ 2147483647)  : Tr l K 0 mX3_name 0 [(0, (2, 27)), (1, (0, a1)), (2, (0, a2))] [] M0 (q_X3_name_27 M0) := by
  have hS : St Tru ws_X3_name_27 as_X3_name_27 M0 M0 := St.rf hI
  refine Tr.aload_n (pc := 0) (i := 0) d_X3_name_0 rfl rfl ?_
  refine Tr.getf (pc := 1) d_X3_name_1 f_3_11 (by decide) (by decide) (ty_27 hS.1.1) ?_
  refine Tr.tp 28 (fx_27_4 hS.1.1) ?_
  refine Tr.iload_n (pc := 4) (i := 1) d_X3_name_4 rfl rfl ?_
  refine Tr.tp 2 (by omega) ?_
  refine Tr.iald (pc := 5) d_X3_name_5 (ty_28 hS.1.1) (by omega) (by omega) ?_
  refine Tr.gen (P := fun v => 0 ≤ v ∧ v ≤ 6) (ir_28_2 hS.1.2.1) (fun r5 er5 br5 => ?_)
  refine Tr.gets (pc := 6) d_X3_name_6 sl_3_62 hE.2.2.2.1 ?_
  refine Tr.iload_n (pc := 9) (i := 1) d_X3_name_9 rfl rfl ?_
  refine Tr.tp 2 (by omega) ?_
  refine Tr.xld (pc := 10) (i := 1) d_X3_name_10 rfl hE.1 (by omega) (by omega) ?_
  refine Tr.tp 6 (by decide) ?_
  refine Tr.icmp_ge (pc := 11) (tgt := 42) d_X3_name_11 rfl (fun c11 => ?_) (fun c11 => ?_)
  · exact Tr.vret (pc := 42) d_X3_name_42 rfl ⟨hS, rfl⟩
  · refine Tr.aload_n (pc := 14) (i := 0) d_X3_name_14 rfl rfl ?_
    refine Tr.getf (pc := 15) d_X3_name_15 f_3_30 (by decide) (by decide) (ty_27 hS.1.1) ?_
    refine Tr.tp 34 (fx_27_10 hS.1.1) ?_
    refine Tr.gets (pc := 18) d_X3_name_18 sl_3_65 hE.2.2.2.2.1 ?_
    refine Tr.iload_n (pc := 21) (i := 1) d_X3_name_21 rfl rfl ?_
    refine Tr.tp 2 (by omega) ?_
    refine Tr.xld (pc := 22) (i := 2) d_X3_name_22 rfl hE.2.1 (by omega) (by omega) ?_
    refine Tr.tp 9 (by decide) ?_
    refine Tr.aload_n (pc := 23) (i := 0) d_X3_name_23 rfl rfl ?_
    refine Tr.getf (pc := 24) d_X3_name_24 f_3_11 (by decide) (by decide) (ty_27 hS.1.1) ?_
    refine Tr.tp 28 (fx_27_4 hS.1.1) ?_
    refine Tr.iload_n (pc := 27) (i := 1) d_X3_name_27 rfl rfl ?_
    refine Tr.tp 2 (by omega) ?_
    refine Tr.iald (pc := 28) d_X3_name_28 (ty_28 hS.1.1) (by omega) (by omega) ?_
    refine Tr.tp r5 er5 ?_
    refine Tr.iadd (pc := 29) d_X3_name_29 ?_
    refine Tr.tp (r5 + 9) ((w32_id (by omega)).trans (by omega)) ?_
    refine Tr.iload_n (pc := 30) (i := 2) d_X3_name_30 rfl rfl ?_
    refine Tr.iastS (pc := 31) (P := St Tru ws_X3_name_27 as_X3_name_27 M0) d_X3_name_31 (ty_34 hS.1.1) (by omega) (by omega) (sa_34 hS (by decide) (by omega) trivial) (fun M31 hS w31 => ?_)
    refine Tr.aload_n (pc := 32) (i := 0) d_X3_name_32 rfl rfl ?_
    refine Tr.getf (pc := 33) d_X3_name_33 f_3_11 (by decide) (by decide) (ty_27 hS.1.1) ?_
    refine Tr.tp 28 (fx_27_4 hS.1.1) ?_
    refine Tr.iload_n (pc := 36) (i := 1) d_X3_name_36 rfl rfl ?_
    refine Tr.tp 2 (by omega) ?_
    refine Tr.dup2 (pc := 37) d_X3_name_37 ne01 ne21 ?_
    refine Tr.iald (pc := 38) d_X3_name_38 (ty_28 hS.1.1) (by omega) (by omega) ?_
    refine Tr.tp r5 ((Wr.b w31 rfl).trans er5) ?_
    refine Tr.iconst (pc := 39) d_X3_name_39 (by decide) ?_
    refine Tr.iadd (pc := 40) d_X3_name_40 ?_
    refine Tr.tp (r5 + 1) ((w32_id (by omega)).trans (by omega)) ?_
    refine Tr.iastS (pc := 41) (P := St Tru ws_X3_name_27 as_X3_name_27 M0) d_X3_name_41 (ty_28 hS.1.1) (by omega) (by omega) (st_28_2 hS (by decide) (by omega) trivial) (fun M41 hS w41 => ?_)
    exact Tr.vret (pc := 42) d_X3_name_42 rfl ⟨hS, rfl⟩

def ws_X5_beginNamed_6 : List (Int × Int) := [(6, 0), (6, 1), (6, 5), (28, 2)]
def as_X5_beginNamed_6 : List Int := [34]
def q_X5_beginNamed_6 (M0 M' : Mem) (r : Option PV) : Prop := St Tru ws_X5_beginNamed_6 as_X5_beginNamed_6 M0 M' ∧ ∃ v : Int, r = some (0, v) ∧ 0 ≤ v ∧ v ≤ 1
set_option maxRecDepth 100000 in
set_option maxHeartbeats 4000000 in
theorem sp_X5_beginNamed_6 {l : Launch} {K : EC} {M0 : Mem} {xq : Int} (hI : In Tru M0) (hE : e_all K xq) (en_6_2 : rd M0 6 2 = 2) (en_6_3 : rd M0 6 3 = 27) (a1 : Int) (ha1 : 2 ≤ a1 ∧ a1 ≤ 2)  : Tr l K 1 mX5_beginNamed 0 [(0, (2, 6)), (1, (0, a1))] [] M0 (q_X5_beginNamed_6 M0) := by
  have hS : St Tru ws_X5_beginNamed_6 as_X5_beginNamed_6 M0 M0 := St.rf hI
  refine Tr.aload_n (pc := 0) (i := 0) d_X5_beginNamed_0 rfl rfl ?_
  refine Tr.getf (pc := 1) d_X5_beginNamed_1 f_5_22 (by decide) (by decide) (ty_6 hS.1.1) ?_
  refine Tr.tp 27 ((St.kp hS (by decide) (by decide) (by decide)).trans en_6_3) ?_
  refine Tr.iload_n (pc := 4) (i := 1) d_X5_beginNamed_4 rfl rfl ?_
  refine Tr.tp 2 (by omega) ?_
  refine Tr.callV (pc := 5) (as := [_]) d_X5_beginNamed_5 s_5_126 ok_X3_isFull rfl rfl (Nat.le_of_ble_eq_true rfl) (Nat.le_of_ble_eq_true rfl) (by decide) (ty_27 hS.1.1) ?_
  refine Tr.imp (Tr.deep (by decide) (sp_X3_isFull_27 hS.1 hE 2 (by omega))) ?_
  rintro M5 _ ⟨h5, r5, rfl, lr5, ur5⟩
  have hS := St.tr hS h5 (by decide) (by decide)
  refine Tr.sc [(0, r5)] rfl ?_
  refine Tr.if_eq (pc := 8) (tgt := 17) d_X5_beginNamed_8 rfl (fun c8 => ?_) (fun c8 => ?_)
  · refine Tr.aload_n (pc := 17) (i := 0) d_X5_beginNamed_17 rfl rfl ?_
    refine Tr.callV (pc := 18) (as := []) d_X5_beginNamed_18 s_5_74 ok_X5_goOn rfl rfl (Nat.le_of_ble_eq_true rfl) (Nat.le_of_ble_eq_true rfl) (by decide) (ty_6 hS.1.1) ?_
    refine Tr.imp (Tr.deep (by decide) (sp_X5_goOn_6 hS.1 )) ?_
    rintro M18 _ ⟨h18, r18, rfl, lr18, ur18⟩
    have hS := St.tr hS h18 (by decide) (by decide)
    refine Tr.sc [(0, r18)] rfl ?_
    refine Tr.pop (pc := 21) d_X5_beginNamed_21 ne01 ?_
    refine Tr.aload_n (pc := 22) (i := 0) d_X5_beginNamed_22 rfl rfl ?_
    refine Tr.getf (pc := 23) d_X5_beginNamed_23 f_5_18 (by decide) (by decide) (ty_6 hS.1.1) ?_
    refine Tr.tp 2 ((St.kp hS (by decide) (by decide) (by decide)).trans en_6_2) ?_
    refine Tr.getf (pc := 26) d_X5_beginNamed_26 f_5_50 (by decide) (by decide) (ty_2 hS.1.1) ?_
    refine Tr.tp 3 (fx_2_0 hS.1.1) ?_
    refine Tr.aload_n (pc := 29) (i := 0) d_X5_beginNamed_29 rfl rfl ?_
    refine Tr.getf (pc := 30) d_X5_beginNamed_30 f_5_36 (by decide) (by decide) (ty_6 hS.1.1) ?_
    refine Tr.gen (P := fun v => 0 ≤ v ∧ v ≤ 900) (ir_6_5 hS.1.2.1) (fun r30 er30 br30 => ?_)
    refine Tr.iald (pc := 33) d_X5_beginNamed_33 (ty_3 hS.1.1) (by omega) (by omega) ?_
    refine Tr.gen (P := fun v => (-2147483648) ≤ v ∧ v ≤ 2147483647) (ar_3 hS.1.2.1 _) (fun r33 er33 br33 => ?_)
    refine Tr.iconst (pc := 34) d_X5_beginNamed_34 (by decide) ?_
    refine Tr.icmp_eq (pc := 35) (tgt := 44) d_X5_beginNamed_35 rfl (fun c35 => ?_) (fun c35 => ?_)
    · refine Tr.aload_n (pc := 44) (i := 0) d_X5_beginNamed_44 rfl rfl ?_
      refine Tr.getf (pc := 45) d_X5_beginNamed_45 f_5_22 (by decide) (by decide) (ty_6 hS.1.1) ?_
      refine Tr.tp 27 ((St.kp hS (by decide) (by decide) (by decide)).trans en_6_3) ?_
      refine Tr.aload_n (pc := 48) (i := 0) d_X5_beginNamed_48 rfl rfl ?_
      refine Tr.getf (pc := 49) d_X5_beginNamed_49 f_5_18 (by decide) (by decide) (ty_6 hS.1.1) ?_
      refine Tr.tp 2 ((St.kp hS (by decide) (by decide) (by decide)).trans en_6_2) ?_
      refine Tr.getf (pc := 52) d_X5_beginNamed_52 f_5_68 (by decide) (by decide) (ty_2 hS.1.1) ?_
      refine Tr.tp 5 (fx_2_2 hS.1.1) ?_
      refine Tr.aload_n (pc := 55) (i := 0) d_X5_beginNamed_55 rfl rfl ?_
      refine Tr.getf (pc := 56) d_X5_beginNamed_56 f_5_36 (by decide) (by decide) (ty_6 hS.1.1) ?_
      refine Tr.tp r30 er30 ?_
      refine Tr.iald (pc := 59) d_X5_beginNamed_59 (ty_5 hS.1.1) (by omega) (by omega) ?_
      refine Tr.gen (P := fun v => (-2147483648) ≤ v ∧ v ≤ 2147483647) (ar_5 hS.1.2.1 _) (fun r59 er59 br59 => ?_)
      refine Tr.callV (pc := 60) (as := [_]) d_X5_beginNamed_60 s_5_91 ok_X3_find rfl rfl (Nat.le_of_ble_eq_true rfl) (Nat.le_of_ble_eq_true rfl) (by decide) (ty_27 hS.1.1) ?_
      refine Tr.imp (Tr.deep (by decide) (sp_X3_find_27 hS.1 r59 (by omega))) ?_
      rintro M60 _ ⟨h60, r60, rfl, lr60, ur60⟩
      have hS := St.tr hS h60 (by decide) (by decide)
      refine Tr.sc [(0, r60)] rfl ?_
      refine Tr.if_lt (pc := 63) (tgt := 72) d_X5_beginNamed_63 rfl (fun c63 => ?_) (fun c63 => ?_)
      · refine Tr.aload_n (pc := 72) (i := 0) d_X5_beginNamed_72 rfl rfl ?_
        refine Tr.getf (pc := 73) d_X5_beginNamed_73 f_5_22 (by decide) (by decide) (ty_6 hS.1.1) ?_
        refine Tr.tp 27 ((St.kp hS (by decide) (by decide) (by decide)).trans en_6_3) ?_
        refine Tr.iload_n (pc := 76) (i := 1) d_X5_beginNamed_76 rfl rfl ?_
        refine Tr.tp 2 (by omega) ?_
        refine Tr.aload_n (pc := 77) (i := 0) d_X5_beginNamed_77 rfl rfl ?_
        refine Tr.getf (pc := 78) d_X5_beginNamed_78 f_5_18 (by decide) (by decide) (ty_6 hS.1.1) ?_
        refine Tr.tp 2 ((St.kp hS (by decide) (by decide) (by decide)).trans en_6_2) ?_
        refine Tr.getf (pc := 81) d_X5_beginNamed_81 f_5_68 (by decide) (by decide) (ty_2 hS.1.1) ?_
        refine Tr.tp 5 (fx_2_2 hS.1.1) ?_
        refine Tr.aload_n (pc := 84) (i := 0) d_X5_beginNamed_84 rfl rfl ?_
        refine Tr.getf (pc := 85) d_X5_beginNamed_85 f_5_36 (by decide) (by decide) (ty_6 hS.1.1) ?_
        refine Tr.tp r30 ((St.kp h60 (by decide) (by decide) (by decide)).trans er30) ?_
        refine Tr.iald (pc := 88) d_X5_beginNamed_88 (ty_5 hS.1.1) (by omega) (by omega) ?_
        refine Tr.tp r59 ((St.ka h60 (by decide) (by decide) (by decide)).trans er59) ?_
        refine Tr.callV (pc := 89) (as := [_, _]) d_X5_beginNamed_89 s_5_129 ok_X3_name rfl rfl (Nat.le_of_ble_eq_true rfl) (Nat.le_of_ble_eq_true rfl) (by decide) (ty_27 hS.1.1) ?_
        refine Tr.imp (Tr.deep (by decide) (sp_X3_name_27 hS.1 hE 2 (by omega) r59 (by omega))) ?_
        rintro M89 _ ⟨h89, rfl⟩
        have hS := St.tr hS h89 (by decide) (by decide)
        refine Tr.sc [] rfl ?_
        refine Tr.aload_n (pc := 92) (i := 0) d_X5_beginNamed_92 rfl rfl ?_
        refine Tr.callV (pc := 93) (as := []) d_X5_beginNamed_93 s_5_74 ok_X5_goOn rfl rfl (Nat.le_of_ble_eq_true rfl) (Nat.le_of_ble_eq_true rfl) (by decide) (ty_6 hS.1.1) ?_
        refine Tr.imp (Tr.deep (by decide) (sp_X5_goOn_6 hS.1 )) ?_
        rintro M93 _ ⟨h93, r93, rfl, lr93, ur93⟩
        have hS := St.tr hS h93 (by decide) (by decide)
        refine Tr.sc [(0, r93)] rfl ?_
        exact Tr.zret (pc := 96) d_X5_beginNamed_96 rfl (by omega) ⟨hS, _, rfl, by omega, by omega⟩
      · refine Tr.aload_n (pc := 66) (i := 0) d_X5_beginNamed_66 rfl rfl ?_
        refine Tr.iconst (pc := 67) d_X5_beginNamed_67 (by decide) ?_
        refine Tr.callV (pc := 68) (as := [_]) d_X5_beginNamed_68 s_5_56 ok_X5_refuse rfl rfl (Nat.le_of_ble_eq_true rfl) (Nat.le_of_ble_eq_true rfl) (by decide) (ty_6 hS.1.1) ?_
        refine Tr.imp (Tr.deep (by decide) (sp_X5_refuse_6 hS.1 ((St.kp hS (by decide) (by decide) (by decide)).trans en_6_2) 2 (by omega))) ?_
        rintro M68 _ ⟨h68, r68, rfl, lr68, ur68⟩
        have hS := St.tr hS h68 (by decide) (by decide)
        refine Tr.sc [(0, r68)] rfl ?_
        exact Tr.zret (pc := 71) d_X5_beginNamed_71 rfl (by omega) ⟨hS, _, rfl, by omega, by omega⟩
    · refine Tr.aload_n (pc := 38) (i := 0) d_X5_beginNamed_38 rfl rfl ?_
      refine Tr.iconst (pc := 39) d_X5_beginNamed_39 (by decide) ?_
      refine Tr.callV (pc := 40) (as := [_]) d_X5_beginNamed_40 s_5_56 ok_X5_refuse rfl rfl (Nat.le_of_ble_eq_true rfl) (Nat.le_of_ble_eq_true rfl) (by decide) (ty_6 hS.1.1) ?_
      refine Tr.imp (Tr.deep (by decide) (sp_X5_refuse_6_w1 hS.1 ((St.kp hS (by decide) (by decide) (by decide)).trans en_6_2) 1 (by omega))) ?_
      rintro M40 _ ⟨h40, r40, rfl, lr40, ur40⟩
      have hS := St.tr hS h40 (by decide) (by decide)
      refine Tr.sc [(0, r40)] rfl ?_
      exact Tr.zret (pc := 43) d_X5_beginNamed_43 rfl (by omega) ⟨hS, _, rfl, by omega, by omega⟩
  · refine Tr.aload_n (pc := 11) (i := 0) d_X5_beginNamed_11 rfl rfl ?_
    refine Tr.iconst (pc := 12) d_X5_beginNamed_12 (by decide) ?_
    refine Tr.callV (pc := 13) (as := [_]) d_X5_beginNamed_13 s_5_56 ok_X5_refuse rfl rfl (Nat.le_of_ble_eq_true rfl) (Nat.le_of_ble_eq_true rfl) (by decide) (ty_6 hS.1.1) ?_
    refine Tr.imp (Tr.deep (by decide) (sp_X5_refuse_6_w2 hS.1 ((St.kp hS (by decide) (by decide) (by decide)).trans en_6_2) 5 (by omega))) ?_
    rintro M13 _ ⟨h13, r13, rfl, lr13, ur13⟩
    have hS := St.tr hS h13 (by decide) (by decide)
    refine Tr.sc [(0, r13)] rfl ?_
    exact Tr.zret (pc := 16) d_X5_beginNamed_16 rfl (by omega) ⟨hS, _, rfl, by omega, by omega⟩

def ws_X3_isFull_27_w1 : List (Int × Int) := []
def as_X3_isFull_27_w1 : List Int := []
def q_X3_isFull_27_w1 (M0 M' : Mem) (r : Option PV) : Prop := St Tru ws_X3_isFull_27_w1 as_X3_isFull_27_w1 M0 M' ∧ ∃ v : Int, r = some (0, v) ∧ 0 ≤ v ∧ v ≤ 1
set_option maxRecDepth 100000 in
set_option maxHeartbeats 4000000 in
theorem sp_X3_isFull_27_w1 {l : Launch} {K : EC} {M0 : Mem} {xq : Int} (hI : In Tru M0) (hE : e_all K xq)  (a1 : Int) (ha1 : 1 ≤ a1 ∧ a1 ≤ 1)  : Tr l K 0 mX3_isFull 0 [(0, (2, 27)), (1, (0, a1))] [] M0 (q_X3_isFull_27_w1 M0) := by
  have hS : St Tru ws_X3_isFull_27_w1 as_X3_isFull_27_w1 M0 M0 := St.rf hI
  refine Tr.aload_n (pc := 0) (i := 0) d_X3_isFull_0 rfl rfl ?_
  refine Tr.getf (pc := 1) d_X3_isFull_1 f_3_11 (by decide) (by decide) (ty_27 hS.1.1) ?_
  refine Tr.tp 28 (fx_27_4 hS.1.1) ?_
  refine Tr.iload_n (pc := 4) (i := 1) d_X3_isFull_4 rfl rfl ?_
  refine Tr.tp 1 (by omega) ?_
  refine Tr.iald (pc := 5) d_X3_isFull_5 (ty_28 hS.1.1) (by omega) (by omega) ?_
  refine Tr.gen (P := fun v => 0 ≤ v ∧ v ≤ 3) (ir_28_1 hS.1.2.1) (fun r5 er5 br5 => ?_)
  refine Tr.gets (pc := 6) d_X3_isFull_6 sl_3_62 hE.2.2.2.1 ?_
  refine Tr.iload_n (pc := 9) (i := 1) d_X3_isFull_9 rfl rfl ?_
  refine Tr.tp 1 (by omega) ?_
  refine Tr.xld (pc := 10) (i := 1) d_X3_isFull_10 rfl hE.1 (by omega) (by omega) ?_
  refine Tr.tp 3 (by decide) ?_
  refine Tr.icmp_lt (pc := 11) (tgt := 18) d_X3_isFull_11 rfl (fun c11 => ?_) (fun c11 => ?_)
  · refine Tr.iconst (pc := 18) d_X3_isFull_18 (by decide) ?_
    exact Tr.zret (pc := 19) d_X3_isFull_19 rfl (by omega) ⟨hS, _, rfl, by omega, by omega⟩
  · refine Tr.iconst (pc := 14) d_X3_isFull_14 (by decide) ?_
    refine Tr.goto (pc := 15) (tgt := 19) d_X3_isFull_15 rfl ?_
    exact Tr.zret (pc := 19) d_X3_isFull_19 rfl (by omega) ⟨hS, _, rfl, by omega, by omega⟩

def ws_X3_name_27_w1 : List (Int × Int) := [(28, 1)]
def as_X3_name_27_w1 : List Int := [34]
def q_X3_name_27_w1 (M0 M' : Mem) (r : Option PV) : Prop := St Tru ws_X3_name_27_w1 as_X3_name_27_w1 M0 M' ∧ r = none
set_option maxRecDepth 100000 in
set_option maxHeartbeats 4000000 in
theorem sp_X3_name_27_w1 {l : Launch} {K : EC} {M0 : Mem} {xq : Int} (hI : In Tru M0) (hE : e_all K xq)  (a1 : Int) (ha1 : 1 ≤ a1 ∧ a1 ≤ 1) (a2 : Int) (ha2 : (-2147483648) ≤ a2 ∧ a2 ≤ 2147483647)  : Tr l K 0 mX3_name 0 [(0, (2, 27)), (1, (0, a1)), (2, (0, a2))] [] M0 (q_X3_name_27_w1 M0) := by
  have hS : St Tru ws_X3_name_27_w1 as_X3_name_27_w1 M0 M0 := St.rf hI
  refine Tr.aload_n (pc := 0) (i := 0) d_X3_name_0 rfl rfl ?_
  refine Tr.getf (pc := 1) d_X3_name_1 f_3_11 (by decide) (by decide) (ty_27 hS.1.1) ?_
  refine Tr.tp 28 (fx_27_4 hS.1.1) ?_
  refine Tr.iload_n (pc := 4) (i := 1) d_X3_name_4 rfl rfl ?_
  refine Tr.tp 1 (by omega) ?_
  refine Tr.iald (pc := 5) d_X3_name_5 (ty_28 hS.1.1) (by omega) (by omega) ?_
  refine Tr.gen (P := fun v => 0 ≤ v ∧ v ≤ 3) (ir_28_1 hS.1.2.1) (fun r5 er5 br5 => ?_)
  refine Tr.gets (pc := 6) d_X3_name_6 sl_3_62 hE.2.2.2.1 ?_
  refine Tr.iload_n (pc := 9) (i := 1) d_X3_name_9 rfl rfl ?_
  refine Tr.tp 1 (by omega) ?_
  refine Tr.xld (pc := 10) (i := 1) d_X3_name_10 rfl hE.1 (by omega) (by omega) ?_
  refine Tr.tp 3 (by decide) ?_
  refine Tr.icmp_ge (pc := 11) (tgt := 42) d_X3_name_11 rfl (fun c11 => ?_) (fun c11 => ?_)
  · exact Tr.vret (pc := 42) d_X3_name_42 rfl ⟨hS, rfl⟩
  · refine Tr.aload_n (pc := 14) (i := 0) d_X3_name_14 rfl rfl ?_
    refine Tr.getf (pc := 15) d_X3_name_15 f_3_30 (by decide) (by decide) (ty_27 hS.1.1) ?_
    refine Tr.tp 34 (fx_27_10 hS.1.1) ?_
    refine Tr.gets (pc := 18) d_X3_name_18 sl_3_65 hE.2.2.2.2.1 ?_
    refine Tr.iload_n (pc := 21) (i := 1) d_X3_name_21 rfl rfl ?_
    refine Tr.tp 1 (by omega) ?_
    refine Tr.xld (pc := 22) (i := 2) d_X3_name_22 rfl hE.2.1 (by omega) (by omega) ?_
    refine Tr.tp 6 (by decide) ?_
    refine Tr.aload_n (pc := 23) (i := 0) d_X3_name_23 rfl rfl ?_
    refine Tr.getf (pc := 24) d_X3_name_24 f_3_11 (by decide) (by decide) (ty_27 hS.1.1) ?_
    refine Tr.tp 28 (fx_27_4 hS.1.1) ?_
    refine Tr.iload_n (pc := 27) (i := 1) d_X3_name_27 rfl rfl ?_
    refine Tr.tp 1 (by omega) ?_
    refine Tr.iald (pc := 28) d_X3_name_28 (ty_28 hS.1.1) (by omega) (by omega) ?_
    refine Tr.tp r5 er5 ?_
    refine Tr.iadd (pc := 29) d_X3_name_29 ?_
    refine Tr.tp (r5 + 6) ((w32_id (by omega)).trans (by omega)) ?_
    refine Tr.iload_n (pc := 30) (i := 2) d_X3_name_30 rfl rfl ?_
    refine Tr.iastS (pc := 31) (P := St Tru ws_X3_name_27_w1 as_X3_name_27_w1 M0) d_X3_name_31 (ty_34 hS.1.1) (by omega) (by omega) (sa_34 hS (by decide) (by omega) trivial) (fun M31 hS w31 => ?_)
    refine Tr.aload_n (pc := 32) (i := 0) d_X3_name_32 rfl rfl ?_
    refine Tr.getf (pc := 33) d_X3_name_33 f_3_11 (by decide) (by decide) (ty_27 hS.1.1) ?_
    refine Tr.tp 28 (fx_27_4 hS.1.1) ?_
    refine Tr.iload_n (pc := 36) (i := 1) d_X3_name_36 rfl rfl ?_
    refine Tr.tp 1 (by omega) ?_
    refine Tr.dup2 (pc := 37) d_X3_name_37 ne01 ne21 ?_
    refine Tr.iald (pc := 38) d_X3_name_38 (ty_28 hS.1.1) (by omega) (by omega) ?_
    refine Tr.tp r5 ((Wr.b w31 rfl).trans er5) ?_
    refine Tr.iconst (pc := 39) d_X3_name_39 (by decide) ?_
    refine Tr.iadd (pc := 40) d_X3_name_40 ?_
    refine Tr.tp (r5 + 1) ((w32_id (by omega)).trans (by omega)) ?_
    refine Tr.iastS (pc := 41) (P := St Tru ws_X3_name_27_w1 as_X3_name_27_w1 M0) d_X3_name_41 (ty_28 hS.1.1) (by omega) (by omega) (st_28_1 hS (by decide) (by omega) trivial) (fun M41 hS w41 => ?_)
    exact Tr.vret (pc := 42) d_X3_name_42 rfl ⟨hS, rfl⟩

def ws_X5_beginNamed_6_w1 : List (Int × Int) := [(6, 0), (6, 1), (6, 5), (28, 1)]
def as_X5_beginNamed_6_w1 : List Int := [34]
def q_X5_beginNamed_6_w1 (M0 M' : Mem) (r : Option PV) : Prop := St Tru ws_X5_beginNamed_6_w1 as_X5_beginNamed_6_w1 M0 M' ∧ ∃ v : Int, r = some (0, v) ∧ 0 ≤ v ∧ v ≤ 1
set_option maxRecDepth 100000 in
set_option maxHeartbeats 4000000 in
theorem sp_X5_beginNamed_6_w1 {l : Launch} {K : EC} {M0 : Mem} {xq : Int} (hI : In Tru M0) (hE : e_all K xq) (en_6_2 : rd M0 6 2 = 2) (en_6_3 : rd M0 6 3 = 27) (a1 : Int) (ha1 : 1 ≤ a1 ∧ a1 ≤ 1)  : Tr l K 1 mX5_beginNamed 0 [(0, (2, 6)), (1, (0, a1))] [] M0 (q_X5_beginNamed_6_w1 M0) := by
  have hS : St Tru ws_X5_beginNamed_6_w1 as_X5_beginNamed_6_w1 M0 M0 := St.rf hI
  refine Tr.aload_n (pc := 0) (i := 0) d_X5_beginNamed_0 rfl rfl ?_
  refine Tr.getf (pc := 1) d_X5_beginNamed_1 f_5_22 (by decide) (by decide) (ty_6 hS.1.1) ?_
  refine Tr.tp 27 ((St.kp hS (by decide) (by decide) (by decide)).trans en_6_3) ?_
  refine Tr.iload_n (pc := 4) (i := 1) d_X5_beginNamed_4 rfl rfl ?_
  refine Tr.tp 1 (by omega) ?_
  refine Tr.callV (pc := 5) (as := [_]) d_X5_beginNamed_5 s_5_126 ok_X3_isFull rfl rfl (Nat.le_of_ble_eq_true rfl) (Nat.le_of_ble_eq_true rfl) (by decide) (ty_27 hS.1.1) ?_
  refine Tr.imp (Tr.deep (by decide) (sp_X3_isFull_27_w1 hS.1 hE 1 (by omega))) ?_
  rintro M5 _ ⟨h5, r5, rfl, lr5, ur5⟩
  have hS := St.tr hS h5 (by decide) (by decide)
  refine Tr.sc [(0, r5)] rfl ?_
  refine Tr.if_eq (pc := 8) (tgt := 17) d_X5_beginNamed_8 rfl (fun c8 => ?_) (fun c8 => ?_)
  · refine Tr.aload_n (pc := 17) (i := 0) d_X5_beginNamed_17 rfl rfl ?_
    refine Tr.callV (pc := 18) (as := []) d_X5_beginNamed_18 s_5_74 ok_X5_goOn rfl rfl (Nat.le_of_ble_eq_true rfl) (Nat.le_of_ble_eq_true rfl) (by decide) (ty_6 hS.1.1) ?_
    refine Tr.imp (Tr.deep (by decide) (sp_X5_goOn_6 hS.1 )) ?_
    rintro M18 _ ⟨h18, r18, rfl, lr18, ur18⟩
    have hS := St.tr hS h18 (by decide) (by decide)
    refine Tr.sc [(0, r18)] rfl ?_
    refine Tr.pop (pc := 21) d_X5_beginNamed_21 ne01 ?_
    refine Tr.aload_n (pc := 22) (i := 0) d_X5_beginNamed_22 rfl rfl ?_
    refine Tr.getf (pc := 23) d_X5_beginNamed_23 f_5_18 (by decide) (by decide) (ty_6 hS.1.1) ?_
    refine Tr.tp 2 ((St.kp hS (by decide) (by decide) (by decide)).trans en_6_2) ?_
    refine Tr.getf (pc := 26) d_X5_beginNamed_26 f_5_50 (by decide) (by decide) (ty_2 hS.1.1) ?_
    refine Tr.tp 3 (fx_2_0 hS.1.1) ?_
    refine Tr.aload_n (pc := 29) (i := 0) d_X5_beginNamed_29 rfl rfl ?_
    refine Tr.getf (pc := 30) d_X5_beginNamed_30 f_5_36 (by decide) (by decide) (ty_6 hS.1.1) ?_
    refine Tr.gen (P := fun v => 0 ≤ v ∧ v ≤ 900) (ir_6_5 hS.1.2.1) (fun r30 er30 br30 => ?_)
    refine Tr.iald (pc := 33) d_X5_beginNamed_33 (ty_3 hS.1.1) (by omega) (by omega) ?_
    refine Tr.gen (P := fun v => (-2147483648) ≤ v ∧ v ≤ 2147483647) (ar_3 hS.1.2.1 _) (fun r33 er33 br33 => ?_)
    refine Tr.iconst (pc := 34) d_X5_beginNamed_34 (by decide) ?_
    refine Tr.icmp_eq (pc := 35) (tgt := 44) d_X5_beginNamed_35 rfl (fun c35 => ?_) (fun c35 => ?_)
    · refine Tr.aload_n (pc := 44) (i := 0) d_X5_beginNamed_44 rfl rfl ?_
      refine Tr.getf (pc := 45) d_X5_beginNamed_45 f_5_22 (by decide) (by decide) (ty_6 hS.1.1) ?_
      refine Tr.tp 27 ((St.kp hS (by decide) (by decide) (by decide)).trans en_6_3) ?_
      refine Tr.aload_n (pc := 48) (i := 0) d_X5_beginNamed_48 rfl rfl ?_
      refine Tr.getf (pc := 49) d_X5_beginNamed_49 f_5_18 (by decide) (by decide) (ty_6 hS.1.1) ?_
      refine Tr.tp 2 ((St.kp hS (by decide) (by decide) (by decide)).trans en_6_2) ?_
      refine Tr.getf (pc := 52) d_X5_beginNamed_52 f_5_68 (by decide) (by decide) (ty_2 hS.1.1) ?_
      refine Tr.tp 5 (fx_2_2 hS.1.1) ?_
      refine Tr.aload_n (pc := 55) (i := 0) d_X5_beginNamed_55 rfl rfl ?_
      refine Tr.getf (pc := 56) d_X5_beginNamed_56 f_5_36 (by decide) (by decide) (ty_6 hS.1.1) ?_
      refine Tr.tp r30 er30 ?_
      refine Tr.iald (pc := 59) d_X5_beginNamed_59 (ty_5 hS.1.1) (by omega) (by omega) ?_
      refine Tr.gen (P := fun v => (-2147483648) ≤ v ∧ v ≤ 2147483647) (ar_5 hS.1.2.1 _) (fun r59 er59 br59 => ?_)
      refine Tr.callV (pc := 60) (as := [_]) d_X5_beginNamed_60 s_5_91 ok_X3_find rfl rfl (Nat.le_of_ble_eq_true rfl) (Nat.le_of_ble_eq_true rfl) (by decide) (ty_27 hS.1.1) ?_
      refine Tr.imp (Tr.deep (by decide) (sp_X3_find_27 hS.1 r59 (by omega))) ?_
      rintro M60 _ ⟨h60, r60, rfl, lr60, ur60⟩
      have hS := St.tr hS h60 (by decide) (by decide)
      refine Tr.sc [(0, r60)] rfl ?_
      refine Tr.if_lt (pc := 63) (tgt := 72) d_X5_beginNamed_63 rfl (fun c63 => ?_) (fun c63 => ?_)
      · refine Tr.aload_n (pc := 72) (i := 0) d_X5_beginNamed_72 rfl rfl ?_
        refine Tr.getf (pc := 73) d_X5_beginNamed_73 f_5_22 (by decide) (by decide) (ty_6 hS.1.1) ?_
        refine Tr.tp 27 ((St.kp hS (by decide) (by decide) (by decide)).trans en_6_3) ?_
        refine Tr.iload_n (pc := 76) (i := 1) d_X5_beginNamed_76 rfl rfl ?_
        refine Tr.tp 1 (by omega) ?_
        refine Tr.aload_n (pc := 77) (i := 0) d_X5_beginNamed_77 rfl rfl ?_
        refine Tr.getf (pc := 78) d_X5_beginNamed_78 f_5_18 (by decide) (by decide) (ty_6 hS.1.1) ?_
        refine Tr.tp 2 ((St.kp hS (by decide) (by decide) (by decide)).trans en_6_2) ?_
        refine Tr.getf (pc := 81) d_X5_beginNamed_81 f_5_68 (by decide) (by decide) (ty_2 hS.1.1) ?_
        refine Tr.tp 5 (fx_2_2 hS.1.1) ?_
        refine Tr.aload_n (pc := 84) (i := 0) d_X5_beginNamed_84 rfl rfl ?_
        refine Tr.getf (pc := 85) d_X5_beginNamed_85 f_5_36 (by decide) (by decide) (ty_6 hS.1.1) ?_
        refine Tr.tp r30 ((St.kp h60 (by decide) (by decide) (by decide)).trans er30) ?_
        refine Tr.iald (pc := 88) d_X5_beginNamed_88 (ty_5 hS.1.1) (by omega) (by omega) ?_
        refine Tr.tp r59 ((St.ka h60 (by decide) (by decide) (by decide)).trans er59) ?_
        refine Tr.callV (pc := 89) (as := [_, _]) d_X5_beginNamed_89 s_5_129 ok_X3_name rfl rfl (Nat.le_of_ble_eq_true rfl) (Nat.le_of_ble_eq_true rfl) (by decide) (ty_27 hS.1.1) ?_
        refine Tr.imp (Tr.deep (by decide) (sp_X3_name_27_w1 hS.1 hE 1 (by omega) r59 (by omega))) ?_
        rintro M89 _ ⟨h89, rfl⟩
        have hS := St.tr hS h89 (by decide) (by decide)
        refine Tr.sc [] rfl ?_
        refine Tr.aload_n (pc := 92) (i := 0) d_X5_beginNamed_92 rfl rfl ?_
        refine Tr.callV (pc := 93) (as := []) d_X5_beginNamed_93 s_5_74 ok_X5_goOn rfl rfl (Nat.le_of_ble_eq_true rfl) (Nat.le_of_ble_eq_true rfl) (by decide) (ty_6 hS.1.1) ?_
        refine Tr.imp (Tr.deep (by decide) (sp_X5_goOn_6 hS.1 )) ?_
        rintro M93 _ ⟨h93, r93, rfl, lr93, ur93⟩
        have hS := St.tr hS h93 (by decide) (by decide)
        refine Tr.sc [(0, r93)] rfl ?_
        exact Tr.zret (pc := 96) d_X5_beginNamed_96 rfl (by omega) ⟨hS, _, rfl, by omega, by omega⟩
      · refine Tr.aload_n (pc := 66) (i := 0) d_X5_beginNamed_66 rfl rfl ?_
        refine Tr.iconst (pc := 67) d_X5_beginNamed_67 (by decide) ?_
        refine Tr.callV (pc := 68) (as := [_]) d_X5_beginNamed_68 s_5_56 ok_X5_refuse rfl rfl (Nat.le_of_ble_eq_true rfl) (Nat.le_of_ble_eq_true rfl) (by decide) (ty_6 hS.1.1) ?_
        refine Tr.imp (Tr.deep (by decide) (sp_X5_refuse_6 hS.1 ((St.kp hS (by decide) (by decide) (by decide)).trans en_6_2) 2 (by omega))) ?_
        rintro M68 _ ⟨h68, r68, rfl, lr68, ur68⟩
        have hS := St.tr hS h68 (by decide) (by decide)
        refine Tr.sc [(0, r68)] rfl ?_
        exact Tr.zret (pc := 71) d_X5_beginNamed_71 rfl (by omega) ⟨hS, _, rfl, by omega, by omega⟩
    · refine Tr.aload_n (pc := 38) (i := 0) d_X5_beginNamed_38 rfl rfl ?_
      refine Tr.iconst (pc := 39) d_X5_beginNamed_39 (by decide) ?_
      refine Tr.callV (pc := 40) (as := [_]) d_X5_beginNamed_40 s_5_56 ok_X5_refuse rfl rfl (Nat.le_of_ble_eq_true rfl) (Nat.le_of_ble_eq_true rfl) (by decide) (ty_6 hS.1.1) ?_
      refine Tr.imp (Tr.deep (by decide) (sp_X5_refuse_6_w1 hS.1 ((St.kp hS (by decide) (by decide) (by decide)).trans en_6_2) 1 (by omega))) ?_
      rintro M40 _ ⟨h40, r40, rfl, lr40, ur40⟩
      have hS := St.tr hS h40 (by decide) (by decide)
      refine Tr.sc [(0, r40)] rfl ?_
      exact Tr.zret (pc := 43) d_X5_beginNamed_43 rfl (by omega) ⟨hS, _, rfl, by omega, by omega⟩
  · refine Tr.aload_n (pc := 11) (i := 0) d_X5_beginNamed_11 rfl rfl ?_
    refine Tr.iconst (pc := 12) d_X5_beginNamed_12 (by decide) ?_
    refine Tr.callV (pc := 13) (as := [_]) d_X5_beginNamed_13 s_5_56 ok_X5_refuse rfl rfl (Nat.le_of_ble_eq_true rfl) (Nat.le_of_ble_eq_true rfl) (by decide) (ty_6 hS.1.1) ?_
    refine Tr.imp (Tr.deep (by decide) (sp_X5_refuse_6_w2 hS.1 ((St.kp hS (by decide) (by decide) (by decide)).trans en_6_2) 5 (by omega))) ?_
    rintro M13 _ ⟨h13, r13, rfl, lr13, ur13⟩
    have hS := St.tr hS h13 (by decide) (by decide)
    refine Tr.sc [(0, r13)] rfl ?_
    exact Tr.zret (pc := 16) d_X5_beginNamed_16 rfl (by omega) ⟨hS, _, rfl, by omega, by omega⟩

def ws_X5_input_6 : List (Int × Int) := [(6, 0), (6, 1), (6, 5), (28, 1)]
def as_X5_input_6 : List Int := [32, 33, 34]
def q_X5_input_6 (M0 M' : Mem) (r : Option PV) : Prop := St Tru ws_X5_input_6 as_X5_input_6 M0 M' ∧ ∃ v : Int, r = some (0, v) ∧ 0 ≤ v ∧ v ≤ 1
set_option maxRecDepth 100000 in
set_option maxHeartbeats 4000000 in
theorem sp_X5_input_6 {l : Launch} {K : EC} {M0 : Mem} {xq : Int} (hI : In Tru M0) (hE : e_all K xq) (en_6_2 : rd M0 6 2 = 2) (en_6_3 : rd M0 6 3 = 27)   : Tr l K 2 mX5_input 0 [(0, (2, 6))] [] M0 (q_X5_input_6 M0) := by
  have hS : St Tru ws_X5_input_6 as_X5_input_6 M0 M0 := St.rf hI
  refine Tr.aload_n (pc := 0) (i := 0) d_X5_input_0 rfl rfl ?_
  refine Tr.getf (pc := 1) d_X5_input_1 f_5_22 (by decide) (by decide) (ty_6 hS.1.1) ?_
  refine Tr.tp 27 ((St.kp hS (by decide) (by decide) (by decide)).trans en_6_3) ?_
  refine Tr.getf (pc := 4) d_X5_input_4 f_5_133 (by decide) (by decide) (ty_27 hS.1.1) ?_
  refine Tr.tp 28 (fx_27_4 hS.1.1) ?_
  refine Tr.iconst (pc := 7) d_X5_input_7 (by decide) ?_
  refine Tr.iald (pc := 8) d_X5_input_8 (ty_28 hS.1.1) (by omega) (by omega) ?_
  refine Tr.gen (P := fun v => 0 ≤ v ∧ v ≤ 3) (ir_28_1 hS.1.2.1) (fun r8 er8 br8 => ?_)
  refine Tr.istore_n (pc := 9) (i := 1) (ls2 := [(1, (0, r8)), (0, (2, 6))]) d_X5_input_9 rfl (by decide) rfl ?_
  refine Tr.aload_n (pc := 10) (i := 0) d_X5_input_10 rfl rfl ?_
  refine Tr.iconst (pc := 11) d_X5_input_11 (by decide) ?_
  refine Tr.callV (pc := 12) (as := [_]) d_X5_input_12 s_5_112 ok_X5_beginNamed rfl rfl (Nat.le_of_ble_eq_true rfl) (Nat.le_of_ble_eq_true rfl) (by decide) (ty_6 hS.1.1) ?_
  refine Tr.imp (Tr.deep (by decide) (sp_X5_beginNamed_6_w1 hS.1 hE ((St.kp hS (by decide) (by decide) (by decide)).trans en_6_2) ((St.kp hS (by decide) (by decide) (by decide)).trans en_6_3) 1 (by omega))) ?_
  rintro M12 _ ⟨h12, r12, rfl, lr12, ur12⟩
  have hS := St.tr hS h12 (by decide) (by decide)
  refine Tr.sc [(0, r12)] rfl ?_
  refine Tr.if_eq (pc := 15) (tgt := 23) d_X5_input_15 rfl (fun c15 => ?_) (fun c15 => ?_)
  · refine Tr.iconst (pc := 23) d_X5_input_23 (by decide) ?_
    exact Tr.zret (pc := 24) d_X5_input_24 rfl (by omega) ⟨hS, _, rfl, by omega, by omega⟩
  · refine Tr.iload_n (pc := 18) (i := 1) d_X5_input_18 rfl rfl ?_
    refine Tr.iconst (pc := 19) d_X5_input_19 (by decide) ?_
    refine Tr.icmp_lt (pc := 20) (tgt := 25) d_X5_input_20 rfl (fun c20 => ?_) (fun c20 => ?_)
    · refine Tr.aload_n (pc := 25) (i := 0) d_X5_input_25 rfl rfl ?_
      refine Tr.iconst (pc := 26) d_X5_input_26 (by decide) ?_
      refine Tr.bipush (pc := 27) d_X5_input_27 rfl (by decide) ?_
      refine Tr.callV (pc := 29) (as := [_, _]) d_X5_input_29 s_5_87 ok_X5_takeNumber rfl rfl (Nat.le_of_ble_eq_true rfl) (Nat.le_of_ble_eq_true rfl) (by decide) (ty_6 hS.1.1) ?_
      refine Tr.imp (Tr.deep (by decide) (sp_X5_takeNumber_6 hS.1 ((St.kp hS (by decide) (by decide) (by decide)).trans en_6_2) 0 (by omega) 99 (by omega))) ?_
      rintro M29 _ ⟨h29, r29, rfl, lr29, ur29⟩
      have hS := St.tr hS h29 (by decide) (by decide)
      refine Tr.sc [(0, r29)] rfl ?_
      refine Tr.istore_n (pc := 32) (i := 2) (ls2 := [(2, (0, r29)), (1, (0, r8)), (0, (2, 6))]) d_X5_input_32 rfl (by decide) rfl ?_
      refine Tr.iload_n (pc := 33) (i := 2) d_X5_input_33 rfl rfl ?_
      have J48 : ∀ (M : Mem) (q48_0 : Int), St Tru ws_X5_input_6 as_X5_input_6 M0 M → ((-1) ≤ q48_0 ∧ q48_0 ≤ 99) → Tr l K 2 mX5_input 48 [(0, (2, 6)), (1, (0, r8)), (2, (0, r29))] [(0, q48_0)] M (q_X5_input_6 M0) := by
        intro M q48_0 hS bq48_0 
        refine Tr.istore_n (pc := 48) (i := 3) (ls2 := [(3, (0, q48_0)), (0, (2, 6)), (1, (0, r8)), (2, (0, r29))]) d_X5_input_48 rfl (by decide) rfl ?_
        refine Tr.iload_n (pc := 49) (i := 3) d_X5_input_49 rfl rfl ?_
        refine Tr.if_lt (pc := 50) (tgt := 62) d_X5_input_50 rfl (fun c50 => ?_) (fun c50 => ?_)
        · refine Tr.iconst (pc := 62) d_X5_input_62 (by decide) ?_
          exact Tr.zret (pc := 63) d_X5_input_63 rfl (by omega) ⟨hS, _, rfl, by omega, by omega⟩
        · refine Tr.aload_n (pc := 53) (i := 0) d_X5_input_53 rfl rfl ?_
          refine Tr.bipush (pc := 54) d_X5_input_54 rfl (by decide) ?_
          refine Tr.callV (pc := 56) (as := [_]) d_X5_input_56 s_5_81 ok_X5_takeSign rfl rfl (Nat.le_of_ble_eq_true rfl) (Nat.le_of_ble_eq_true rfl) (by decide) (ty_6 hS.1.1) ?_
          refine Tr.imp (Tr.deep (by decide) (sp_X5_takeSign_6 hS.1 ((St.kp hS (by decide) (by decide) (by decide)).trans en_6_2) 59 (by omega))) ?_
          rintro M56 _ ⟨h56, r56, rfl, lr56, ur56⟩
          have hS := St.tr hS h56 (by decide) (by decide)
          refine Tr.sc [(0, r56)] rfl ?_
          refine Tr.if_ne (pc := 59) (tgt := 64) d_X5_input_59 rfl (fun c59 => ?_) (fun c59 => ?_)
          · refine Tr.aload_n (pc := 64) (i := 0) d_X5_input_64 rfl rfl ?_
            refine Tr.getf (pc := 65) d_X5_input_65 f_5_22 (by decide) (by decide) (ty_6 hS.1.1) ?_
            refine Tr.tp 27 ((St.kp hS (by decide) (by decide) (by decide)).trans en_6_3) ?_
            refine Tr.getf (pc := 68) d_X5_input_68 f_5_148 (by decide) (by decide) (ty_27 hS.1.1) ?_
            refine Tr.tp 32 (fx_27_8 hS.1.1) ?_
            refine Tr.iload_n (pc := 71) (i := 1) d_X5_input_71 rfl rfl ?_
            refine Tr.iload_n (pc := 72) (i := 2) d_X5_input_72 rfl rfl ?_
            refine Tr.iastS (pc := 73) (P := St Tru ws_X5_input_6 as_X5_input_6 M0) d_X5_input_73 (ty_32 hS.1.1) (by omega) (by omega) (sa_32 hS (by decide) (by omega) trivial) (fun M73 hS w73 => ?_)
            refine Tr.aload_n (pc := 74) (i := 0) d_X5_input_74 rfl rfl ?_
            refine Tr.getf (pc := 75) d_X5_input_75 f_5_22 (by decide) (by decide) (ty_6 hS.1.1) ?_
            refine Tr.tp 27 ((St.kp hS (by decide) (by decide) (by decide)).trans en_6_3) ?_
            refine Tr.getf (pc := 78) d_X5_input_78 f_5_151 (by decide) (by decide) (ty_27 hS.1.1) ?_
            refine Tr.tp 33 (fx_27_9 hS.1.1) ?_
            refine Tr.iload_n (pc := 81) (i := 1) d_X5_input_81 rfl rfl ?_
            refine Tr.iload_n (pc := 82) (i := 3) d_X5_input_82 rfl rfl ?_
            refine Tr.iastS (pc := 83) (P := St Tru ws_X5_input_6 as_X5_input_6 M0) d_X5_input_83 (ty_33 hS.1.1) (by omega) (by omega) (sa_33 hS (by decide) (by omega) trivial) (fun M83 hS w83 => ?_)
            refine Tr.iconst (pc := 84) d_X5_input_84 (by decide) ?_
            exact Tr.zret (pc := 85) d_X5_input_85 rfl (by omega) ⟨hS, _, rfl, by omega, by omega⟩
          · refine Tr.iconst (pc := 62) d_X5_input_62 (by decide) ?_
            exact Tr.zret (pc := 63) d_X5_input_63 rfl (by omega) ⟨hS, _, rfl, by omega, by omega⟩
      refine Tr.if_ge (pc := 34) (tgt := 41) d_X5_input_34 rfl (fun c34 => ?_) (fun c34 => ?_)
      · refine Tr.aload_n (pc := 41) (i := 0) d_X5_input_41 rfl rfl ?_
        refine Tr.iload_n (pc := 42) (i := 2) d_X5_input_42 rfl rfl ?_
        refine Tr.bipush (pc := 43) d_X5_input_43 rfl (by decide) ?_
        refine Tr.callV (pc := 45) (as := [_, _]) d_X5_input_45 s_5_87 ok_X5_takeNumber rfl rfl (Nat.le_of_ble_eq_true rfl) (Nat.le_of_ble_eq_true rfl) (by decide) (ty_6 hS.1.1) ?_
        refine Tr.imp (Tr.deep (by decide) (sp_X5_takeNumber_6_w1 hS.1 ((St.kp hS (by decide) (by decide) (by decide)).trans en_6_2) r29 (by omega) 99 (by omega))) ?_
        rintro M45 _ ⟨h45, r45, rfl, lr45, ur45⟩
        have hS := St.tr hS h45 (by decide) (by decide)
        refine Tr.sc [(0, r45)] rfl ?_
        refine Tr.pick [2, 1, 0] (ls2 := [(0, (2, 6)), (1, (0, r8)), (2, (0, r29))]) rfl ?_
        exact J48 _ _ hS (by omega)
      · refine Tr.iconst (pc := 37) d_X5_input_37 (by decide) ?_
        refine Tr.goto (pc := 38) (tgt := 48) d_X5_input_38 rfl ?_
        refine Tr.pick [2, 1, 0] (ls2 := [(0, (2, 6)), (1, (0, r8)), (2, (0, r29))]) rfl ?_
        exact J48 _ _ hS (by omega)
    · refine Tr.iconst (pc := 23) d_X5_input_23 (by decide) ?_
      exact Tr.zret (pc := 24) d_X5_input_24 rfl (by omega) ⟨hS, _, rfl, by omega, by omega⟩

def ws_X3_isFull_27_w2 : List (Int × Int) := []
def as_X3_isFull_27_w2 : List Int := []
def q_X3_isFull_27_w2 (M0 M' : Mem) (r : Option PV) : Prop := St Tru ws_X3_isFull_27_w2 as_X3_isFull_27_w2 M0 M' ∧ ∃ v : Int, r = some (0, v) ∧ 0 ≤ v ∧ v ≤ 1
set_option maxRecDepth 100000 in
set_option maxHeartbeats 4000000 in
theorem sp_X3_isFull_27_w2 {l : Launch} {K : EC} {M0 : Mem} {xq : Int} (hI : In Tru M0) (hE : e_all K xq)  (a1 : Int) (ha1 : 0 ≤ a1 ∧ a1 ≤ 0)  : Tr l K 0 mX3_isFull 0 [(0, (2, 27)), (1, (0, a1))] [] M0 (q_X3_isFull_27_w2 M0) := by
  have hS : St Tru ws_X3_isFull_27_w2 as_X3_isFull_27_w2 M0 M0 := St.rf hI
  refine Tr.aload_n (pc := 0) (i := 0) d_X3_isFull_0 rfl rfl ?_
  refine Tr.getf (pc := 1) d_X3_isFull_1 f_3_11 (by decide) (by decide) (ty_27 hS.1.1) ?_
  refine Tr.tp 28 (fx_27_4 hS.1.1) ?_
  refine Tr.iload_n (pc := 4) (i := 1) d_X3_isFull_4 rfl rfl ?_
  refine Tr.tp 0 (by omega) ?_
  refine Tr.iald (pc := 5) d_X3_isFull_5 (ty_28 hS.1.1) (by omega) (by omega) ?_
  refine Tr.gen (P := fun v => 0 ≤ v ∧ v ≤ 6) (ir_28_0 hS.1.2.1) (fun r5 er5 br5 => ?_)
  refine Tr.gets (pc := 6) d_X3_isFull_6 sl_3_62 hE.2.2.2.1 ?_
  refine Tr.iload_n (pc := 9) (i := 1) d_X3_isFull_9 rfl rfl ?_
  refine Tr.tp 0 (by omega) ?_
  refine Tr.xld (pc := 10) (i := 1) d_X3_isFull_10 rfl hE.1 (by omega) (by omega) ?_
  refine Tr.tp 6 (by decide) ?_
  refine Tr.icmp_lt (pc := 11) (tgt := 18) d_X3_isFull_11 rfl (fun c11 => ?_) (fun c11 => ?_)
  · refine Tr.iconst (pc := 18) d_X3_isFull_18 (by decide) ?_
    exact Tr.zret (pc := 19) d_X3_isFull_19 rfl (by omega) ⟨hS, _, rfl, by omega, by omega⟩
  · refine Tr.iconst (pc := 14) d_X3_isFull_14 (by decide) ?_
    refine Tr.goto (pc := 15) (tgt := 19) d_X3_isFull_15 rfl ?_
    exact Tr.zret (pc := 19) d_X3_isFull_19 rfl (by omega) ⟨hS, _, rfl, by omega, by omega⟩

def ws_X3_name_27_w2 : List (Int × Int) := [(28, 0)]
def as_X3_name_27_w2 : List Int := [34]
def q_X3_name_27_w2 (M0 M' : Mem) (r : Option PV) : Prop := St Tru ws_X3_name_27_w2 as_X3_name_27_w2 M0 M' ∧ r = none
set_option maxRecDepth 100000 in
set_option maxHeartbeats 4000000 in
theorem sp_X3_name_27_w2 {l : Launch} {K : EC} {M0 : Mem} {xq : Int} (hI : In Tru M0) (hE : e_all K xq)  (a1 : Int) (ha1 : 0 ≤ a1 ∧ a1 ≤ 0) (a2 : Int) (ha2 : (-2147483648) ≤ a2 ∧ a2 ≤ 2147483647)  : Tr l K 0 mX3_name 0 [(0, (2, 27)), (1, (0, a1)), (2, (0, a2))] [] M0 (q_X3_name_27_w2 M0) := by
  have hS : St Tru ws_X3_name_27_w2 as_X3_name_27_w2 M0 M0 := St.rf hI
  refine Tr.aload_n (pc := 0) (i := 0) d_X3_name_0 rfl rfl ?_
  refine Tr.getf (pc := 1) d_X3_name_1 f_3_11 (by decide) (by decide) (ty_27 hS.1.1) ?_
  refine Tr.tp 28 (fx_27_4 hS.1.1) ?_
  refine Tr.iload_n (pc := 4) (i := 1) d_X3_name_4 rfl rfl ?_
  refine Tr.tp 0 (by omega) ?_
  refine Tr.iald (pc := 5) d_X3_name_5 (ty_28 hS.1.1) (by omega) (by omega) ?_
  refine Tr.gen (P := fun v => 0 ≤ v ∧ v ≤ 6) (ir_28_0 hS.1.2.1) (fun r5 er5 br5 => ?_)
  refine Tr.gets (pc := 6) d_X3_name_6 sl_3_62 hE.2.2.2.1 ?_
  refine Tr.iload_n (pc := 9) (i := 1) d_X3_name_9 rfl rfl ?_
  refine Tr.tp 0 (by omega) ?_
  refine Tr.xld (pc := 10) (i := 1) d_X3_name_10 rfl hE.1 (by omega) (by omega) ?_
  refine Tr.tp 6 (by decide) ?_
  refine Tr.icmp_ge (pc := 11) (tgt := 42) d_X3_name_11 rfl (fun c11 => ?_) (fun c11 => ?_)
  · exact Tr.vret (pc := 42) d_X3_name_42 rfl ⟨hS, rfl⟩
  · refine Tr.aload_n (pc := 14) (i := 0) d_X3_name_14 rfl rfl ?_
    refine Tr.getf (pc := 15) d_X3_name_15 f_3_30 (by decide) (by decide) (ty_27 hS.1.1) ?_
    refine Tr.tp 34 (fx_27_10 hS.1.1) ?_
    refine Tr.gets (pc := 18) d_X3_name_18 sl_3_65 hE.2.2.2.2.1 ?_
    refine Tr.iload_n (pc := 21) (i := 1) d_X3_name_21 rfl rfl ?_
    refine Tr.tp 0 (by omega) ?_
    refine Tr.xld (pc := 22) (i := 2) d_X3_name_22 rfl hE.2.1 (by omega) (by omega) ?_
    refine Tr.tp 0 (by decide) ?_
    refine Tr.aload_n (pc := 23) (i := 0) d_X3_name_23 rfl rfl ?_
    refine Tr.getf (pc := 24) d_X3_name_24 f_3_11 (by decide) (by decide) (ty_27 hS.1.1) ?_
    refine Tr.tp 28 (fx_27_4 hS.1.1) ?_
    refine Tr.iload_n (pc := 27) (i := 1) d_X3_name_27 rfl rfl ?_
    refine Tr.tp 0 (by omega) ?_
    refine Tr.iald (pc := 28) d_X3_name_28 (ty_28 hS.1.1) (by omega) (by omega) ?_
    refine Tr.tp r5 er5 ?_
    refine Tr.iadd (pc := 29) d_X3_name_29 ?_
    refine Tr.tp r5 ((w32_id (by omega)).trans (by omega)) ?_
    refine Tr.iload_n (pc := 30) (i := 2) d_X3_name_30 rfl rfl ?_
    refine Tr.iastS (pc := 31) (P := St Tru ws_X3_name_27_w2 as_X3_name_27_w2 M0) d_X3_name_31 (ty_34 hS.1.1) (by omega) (by omega) (sa_34 hS (by decide) (by omega) trivial) (fun M31 hS w31 => ?_)
    refine Tr.aload_n (pc := 32) (i := 0) d_X3_name_32 rfl rfl ?_
    refine Tr.getf (pc := 33) d_X3_name_33 f_3_11 (by decide) (by decide) (ty_27 hS.1.1) ?_
    refine Tr.tp 28 (fx_27_4 hS.1.1) ?_
    refine Tr.iload_n (pc := 36) (i := 1) d_X3_name_36 rfl rfl ?_
    refine Tr.tp 0 (by omega) ?_
    refine Tr.dup2 (pc := 37) d_X3_name_37 ne01 ne21 ?_
    refine Tr.iald (pc := 38) d_X3_name_38 (ty_28 hS.1.1) (by omega) (by omega) ?_
    refine Tr.tp r5 ((Wr.b w31 rfl).trans er5) ?_
    refine Tr.iconst (pc := 39) d_X3_name_39 (by decide) ?_
    refine Tr.iadd (pc := 40) d_X3_name_40 ?_
    refine Tr.tp (r5 + 1) ((w32_id (by omega)).trans (by omega)) ?_
    refine Tr.iastS (pc := 41) (P := St Tru ws_X3_name_27_w2 as_X3_name_27_w2 M0) d_X3_name_41 (ty_28 hS.1.1) (by omega) (by omega) (st_28_0 hS (by decide) (by omega) trivial) (fun M41 hS w41 => ?_)
    exact Tr.vret (pc := 42) d_X3_name_42 rfl ⟨hS, rfl⟩

def ws_X5_beginNamed_6_w2 : List (Int × Int) := [(6, 0), (6, 1), (6, 5), (28, 0)]
def as_X5_beginNamed_6_w2 : List Int := [34]
def q_X5_beginNamed_6_w2 (M0 M' : Mem) (r : Option PV) : Prop := St Tru ws_X5_beginNamed_6_w2 as_X5_beginNamed_6_w2 M0 M' ∧ ∃ v : Int, r = some (0, v) ∧ 0 ≤ v ∧ v ≤ 1
set_option maxRecDepth 100000 in
set_option maxHeartbeats 4000000 in
theorem sp_X5_beginNamed_6_w2 {l : Launch} {K : EC} {M0 : Mem} {xq : Int} (hI : In Tru M0) (hE : e_all K xq) (en_6_2 : rd M0 6 2 = 2) (en_6_3 : rd M0 6 3 = 27) (a1 : Int) (ha1 : 0 ≤ a1 ∧ a1 ≤ 0)  : Tr l K 1 mX5_beginNamed 0 [(0, (2, 6)), (1, (0, a1))] [] M0 (q_X5_beginNamed_6_w2 M0) := by
  have hS : St Tru ws_X5_beginNamed_6_w2 as_X5_beginNamed_6_w2 M0 M0 := St.rf hI
  refine Tr.aload_n (pc := 0) (i := 0) d_X5_beginNamed_0 rfl rfl ?_
  refine Tr.getf (pc := 1) d_X5_beginNamed_1 f_5_22 (by decide) (by decide) (ty_6 hS.1.1) ?_
  refine Tr.tp 27 ((St.kp hS (by decide) (by decide) (by decide)).trans en_6_3) ?_
  refine Tr.iload_n (pc := 4) (i := 1) d_X5_beginNamed_4 rfl rfl ?_
  refine Tr.tp 0 (by omega) ?_
  refine Tr.callV (pc := 5) (as := [_]) d_X5_beginNamed_5 s_5_126 ok_X3_isFull rfl rfl (Nat.le_of_ble_eq_true rfl) (Nat.le_of_ble_eq_true rfl) (by decide) (ty_27 hS.1.1) ?_
  refine Tr.imp (Tr.deep (by decide) (sp_X3_isFull_27_w2 hS.1 hE 0 (by omega))) ?_
  rintro M5 _ ⟨h5, r5, rfl, lr5, ur5⟩
  have hS := St.tr hS h5 (by decide) (by decide)
  refine Tr.sc [(0, r5)] rfl ?_
  refine Tr.if_eq (pc := 8) (tgt := 17) d_X5_beginNamed_8 rfl (fun c8 => ?_) (fun c8 => ?_)
  · refine Tr.aload_n (pc := 17) (i := 0) d_X5_beginNamed_17 rfl rfl ?_
    refine Tr.callV (pc := 18) (as := []) d_X5_beginNamed_18 s_5_74 ok_X5_goOn rfl rfl (Nat.le_of_ble_eq_true rfl) (Nat.le_of_ble_eq_true rfl) (by decide) (ty_6 hS.1.1) ?_
    refine Tr.imp (Tr.deep (by decide) (sp_X5_goOn_6 hS.1 )) ?_
    rintro M18 _ ⟨h18, r18, rfl, lr18, ur18⟩
    have hS := St.tr hS h18 (by decide) (by decide)
    refine Tr.sc [(0, r18)] rfl ?_
    refine Tr.pop (pc := 21) d_X5_beginNamed_21 ne01 ?_
    refine Tr.aload_n (pc := 22) (i := 0) d_X5_beginNamed_22 rfl rfl ?_
    refine Tr.getf (pc := 23) d_X5_beginNamed_23 f_5_18 (by decide) (by decide) (ty_6 hS.1.1) ?_
    refine Tr.tp 2 ((St.kp hS (by decide) (by decide) (by decide)).trans en_6_2) ?_
    refine Tr.getf (pc := 26) d_X5_beginNamed_26 f_5_50 (by decide) (by decide) (ty_2 hS.1.1) ?_
    refine Tr.tp 3 (fx_2_0 hS.1.1) ?_
    refine Tr.aload_n (pc := 29) (i := 0) d_X5_beginNamed_29 rfl rfl ?_
    refine Tr.getf (pc := 30) d_X5_beginNamed_30 f_5_36 (by decide) (by decide) (ty_6 hS.1.1) ?_
    refine Tr.gen (P := fun v => 0 ≤ v ∧ v ≤ 900) (ir_6_5 hS.1.2.1) (fun r30 er30 br30 => ?_)
    refine Tr.iald (pc := 33) d_X5_beginNamed_33 (ty_3 hS.1.1) (by omega) (by omega) ?_
    refine Tr.gen (P := fun v => (-2147483648) ≤ v ∧ v ≤ 2147483647) (ar_3 hS.1.2.1 _) (fun r33 er33 br33 => ?_)
    refine Tr.iconst (pc := 34) d_X5_beginNamed_34 (by decide) ?_
    refine Tr.icmp_eq (pc := 35) (tgt := 44) d_X5_beginNamed_35 rfl (fun c35 => ?_) (fun c35 => ?_)
    · refine Tr.aload_n (pc := 44) (i := 0) d_X5_beginNamed_44 rfl rfl ?_
      refine Tr.getf (pc := 45) d_X5_beginNamed_45 f_5_22 (by decide) (by decide) (ty_6 hS.1.1) ?_
      refine Tr.tp 27 ((St.kp hS (by decide) (by decide) (by decide)).trans en_6_3) ?_
      refine Tr.aload_n (pc := 48) (i := 0) d_X5_beginNamed_48 rfl rfl ?_
      refine Tr.getf (pc := 49) d_X5_beginNamed_49 f_5_18 (by decide) (by decide) (ty_6 hS.1.1) ?_
      refine Tr.tp 2 ((St.kp hS (by decide) (by decide) (by decide)).trans en_6_2) ?_
      refine Tr.getf (pc := 52) d_X5_beginNamed_52 f_5_68 (by decide) (by decide) (ty_2 hS.1.1) ?_
      refine Tr.tp 5 (fx_2_2 hS.1.1) ?_
      refine Tr.aload_n (pc := 55) (i := 0) d_X5_beginNamed_55 rfl rfl ?_
      refine Tr.getf (pc := 56) d_X5_beginNamed_56 f_5_36 (by decide) (by decide) (ty_6 hS.1.1) ?_
      refine Tr.tp r30 er30 ?_
      refine Tr.iald (pc := 59) d_X5_beginNamed_59 (ty_5 hS.1.1) (by omega) (by omega) ?_
      refine Tr.gen (P := fun v => (-2147483648) ≤ v ∧ v ≤ 2147483647) (ar_5 hS.1.2.1 _) (fun r59 er59 br59 => ?_)
      refine Tr.callV (pc := 60) (as := [_]) d_X5_beginNamed_60 s_5_91 ok_X3_find rfl rfl (Nat.le_of_ble_eq_true rfl) (Nat.le_of_ble_eq_true rfl) (by decide) (ty_27 hS.1.1) ?_
      refine Tr.imp (Tr.deep (by decide) (sp_X3_find_27 hS.1 r59 (by omega))) ?_
      rintro M60 _ ⟨h60, r60, rfl, lr60, ur60⟩
      have hS := St.tr hS h60 (by decide) (by decide)
      refine Tr.sc [(0, r60)] rfl ?_
      refine Tr.if_lt (pc := 63) (tgt := 72) d_X5_beginNamed_63 rfl (fun c63 => ?_) (fun c63 => ?_)
      · refine Tr.aload_n (pc := 72) (i := 0) d_X5_beginNamed_72 rfl rfl ?_
        refine Tr.getf (pc := 73) d_X5_beginNamed_73 f_5_22 (by decide) (by decide) (ty_6 hS.1.1) ?_
        refine Tr.tp 27 ((St.kp hS (by decide) (by decide) (by decide)).trans en_6_3) ?_
        refine Tr.iload_n (pc := 76) (i := 1) d_X5_beginNamed_76 rfl rfl ?_
        refine Tr.tp 0 (by omega) ?_
        refine Tr.aload_n (pc := 77) (i := 0) d_X5_beginNamed_77 rfl rfl ?_
        refine Tr.getf (pc := 78) d_X5_beginNamed_78 f_5_18 (by decide) (by decide) (ty_6 hS.1.1) ?_
        refine Tr.tp 2 ((St.kp hS (by decide) (by decide) (by decide)).trans en_6_2) ?_
        refine Tr.getf (pc := 81) d_X5_beginNamed_81 f_5_68 (by decide) (by decide) (ty_2 hS.1.1) ?_
        refine Tr.tp 5 (fx_2_2 hS.1.1) ?_
        refine Tr.aload_n (pc := 84) (i := 0) d_X5_beginNamed_84 rfl rfl ?_
        refine Tr.getf (pc := 85) d_X5_beginNamed_85 f_5_36 (by decide) (by decide) (ty_6 hS.1.1) ?_
        refine Tr.tp r30 ((St.kp h60 (by decide) (by decide) (by decide)).trans er30) ?_
        refine Tr.iald (pc := 88) d_X5_beginNamed_88 (ty_5 hS.1.1) (by omega) (by omega) ?_
        refine Tr.tp r59 ((St.ka h60 (by decide) (by decide) (by decide)).trans er59) ?_
        refine Tr.callV (pc := 89) (as := [_, _]) d_X5_beginNamed_89 s_5_129 ok_X3_name rfl rfl (Nat.le_of_ble_eq_true rfl) (Nat.le_of_ble_eq_true rfl) (by decide) (ty_27 hS.1.1) ?_
        refine Tr.imp (Tr.deep (by decide) (sp_X3_name_27_w2 hS.1 hE 0 (by omega) r59 (by omega))) ?_
        rintro M89 _ ⟨h89, rfl⟩
        have hS := St.tr hS h89 (by decide) (by decide)
        refine Tr.sc [] rfl ?_
        refine Tr.aload_n (pc := 92) (i := 0) d_X5_beginNamed_92 rfl rfl ?_
        refine Tr.callV (pc := 93) (as := []) d_X5_beginNamed_93 s_5_74 ok_X5_goOn rfl rfl (Nat.le_of_ble_eq_true rfl) (Nat.le_of_ble_eq_true rfl) (by decide) (ty_6 hS.1.1) ?_
        refine Tr.imp (Tr.deep (by decide) (sp_X5_goOn_6 hS.1 )) ?_
        rintro M93 _ ⟨h93, r93, rfl, lr93, ur93⟩
        have hS := St.tr hS h93 (by decide) (by decide)
        refine Tr.sc [(0, r93)] rfl ?_
        exact Tr.zret (pc := 96) d_X5_beginNamed_96 rfl (by omega) ⟨hS, _, rfl, by omega, by omega⟩
      · refine Tr.aload_n (pc := 66) (i := 0) d_X5_beginNamed_66 rfl rfl ?_
        refine Tr.iconst (pc := 67) d_X5_beginNamed_67 (by decide) ?_
        refine Tr.callV (pc := 68) (as := [_]) d_X5_beginNamed_68 s_5_56 ok_X5_refuse rfl rfl (Nat.le_of_ble_eq_true rfl) (Nat.le_of_ble_eq_true rfl) (by decide) (ty_6 hS.1.1) ?_
        refine Tr.imp (Tr.deep (by decide) (sp_X5_refuse_6 hS.1 ((St.kp hS (by decide) (by decide) (by decide)).trans en_6_2) 2 (by omega))) ?_
        rintro M68 _ ⟨h68, r68, rfl, lr68, ur68⟩
        have hS := St.tr hS h68 (by decide) (by decide)
        refine Tr.sc [(0, r68)] rfl ?_
        exact Tr.zret (pc := 71) d_X5_beginNamed_71 rfl (by omega) ⟨hS, _, rfl, by omega, by omega⟩
    · refine Tr.aload_n (pc := 38) (i := 0) d_X5_beginNamed_38 rfl rfl ?_
      refine Tr.iconst (pc := 39) d_X5_beginNamed_39 (by decide) ?_
      refine Tr.callV (pc := 40) (as := [_]) d_X5_beginNamed_40 s_5_56 ok_X5_refuse rfl rfl (Nat.le_of_ble_eq_true rfl) (Nat.le_of_ble_eq_true rfl) (by decide) (ty_6 hS.1.1) ?_
      refine Tr.imp (Tr.deep (by decide) (sp_X5_refuse_6_w1 hS.1 ((St.kp hS (by decide) (by decide) (by decide)).trans en_6_2) 1 (by omega))) ?_
      rintro M40 _ ⟨h40, r40, rfl, lr40, ur40⟩
      have hS := St.tr hS h40 (by decide) (by decide)
      refine Tr.sc [(0, r40)] rfl ?_
      exact Tr.zret (pc := 43) d_X5_beginNamed_43 rfl (by omega) ⟨hS, _, rfl, by omega, by omega⟩
  · refine Tr.aload_n (pc := 11) (i := 0) d_X5_beginNamed_11 rfl rfl ?_
    refine Tr.iconst (pc := 12) d_X5_beginNamed_12 (by decide) ?_
    refine Tr.callV (pc := 13) (as := [_]) d_X5_beginNamed_13 s_5_56 ok_X5_refuse rfl rfl (Nat.le_of_ble_eq_true rfl) (Nat.le_of_ble_eq_true rfl) (by decide) (ty_6 hS.1.1) ?_
    refine Tr.imp (Tr.deep (by decide) (sp_X5_refuse_6_w2 hS.1 ((St.kp hS (by decide) (by decide) (by decide)).trans en_6_2) 5 (by omega))) ?_
    rintro M13 _ ⟨h13, r13, rfl, lr13, ur13⟩
    have hS := St.tr hS h13 (by decide) (by decide)
    refine Tr.sc [(0, r13)] rfl ?_
    exact Tr.zret (pc := 16) d_X5_beginNamed_16 rfl (by omega) ⟨hS, _, rfl, by omega, by omega⟩
