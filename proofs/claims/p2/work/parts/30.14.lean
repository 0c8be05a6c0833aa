def ws_X7_takeNumber_2 : List (Int × Int) := [(2, 3)]
def as_X7_takeNumber_2 : List Int := [3, 4, 5]
def q_X7_takeNumber_2 (M0 M' : Mem) (r : Option PV) : Prop := St Tru ws_X7_takeNumber_2 as_X7_takeNumber_2 M0 M' ∧ ∃ v : Int, r = some (0, v) ∧ (-1) ≤ v ∧ v ≤ 900
set_option maxRecDepth 100000 in
set_option maxHeartbeats 4000000 in
theorem sp_X7_takeNumber_2 {l : Launch} {K : EC} {M0 : Mem} (hI : In Tru M0) (en_2_4 : rd M0 2 4 = 1) (a1 : Int) (ha1 : 0 ≤ a1 ∧ a1 ≤ 899)  : Tr l K 1 mX7_takeNumber 0 [(0, (2, 2)), (1, (0, a1))] [] M0 (q_X7_takeNumber_2 M0) := by
  have hS : St Tru ws_X7_takeNumber_2 as_X7_takeNumber_2 M0 M0 := St.rf hI
  refine Tr.iload_n (pc := 0) (i := 1) d_X7_takeNumber_0 rfl rfl ?_
  refine Tr.istore_n (pc := 1) (i := 2) (ls2 := [(2, (0, a1)), (0, (2, 2)), (1, (0, a1))]) d_X7_takeNumber_1 rfl (by decide) rfl ?_
  refine Tr.iconst (pc := 2) d_X7_takeNumber_2 (by decide) ?_
  refine Tr.istore_n (pc := 3) (i := 3) (ls2 := [(3, (0, 0)), (2, (0, a1)), (0, (2, 2)), (1, (0, a1))]) d_X7_takeNumber_3 rfl (by decide) rfl ?_
  have J4 : ∀ (n4 : Nat) (M : Mem) (p4_2 p4_3 : Int), St Tru ws_X7_takeNumber_2 as_X7_takeNumber_2 M0 M → (0 ≤ p4_2 ∧ p4_2 ≤ 900) → ((-2147483648) ≤ p4_3 ∧ p4_3 ≤ 2147483647) → (900 - p4_2).toNat < n4 → Tr l K 1 mX7_takeNumber 4 [(0, (2, 2)), (1, (0, a1)), (2, (0, p4_2)), (3, (0, p4_3))] [] M (q_X7_takeNumber_2 M0) := by
    intro n4
    induction n4 with
    | zero => intro M p4_2 p4_3 hS bp4_2 bp4_3  hm4; exact absurd hm4 (Nat.not_lt_zero _)
    | succ n4 J4 =>
      intro M p4_2 p4_3 hS bp4_2 bp4_3  hm4
      refine Tr.iload_n (pc := 4) (i := 2) d_X7_takeNumber_4 rfl rfl ?_
      refine Tr.aload_n (pc := 5) (i := 0) d_X7_takeNumber_5 rfl rfl ?_
      refine Tr.getf (pc := 6) d_X7_takeNumber_6 f_7_25 (by decide) (by decide) (ty_2 hS.1.1) ?_
      refine Tr.gen (P := fun v => 0 ≤ v ∧ v ≤ 900) (ir_2_5 hS.1.2.1) (fun r6 er6 br6 => ?_)
      have J52 : ∀ (M : Mem), St Tru ws_X7_takeNumber_2 as_X7_takeNumber_2 M0 M → rd M 2 5 = r6 → Tr l K 1 mX7_takeNumber 52 [(0, (2, 2)), (1, (0, a1)), (2, (0, p4_2)), (3, (0, p4_3))] [] M (q_X7_takeNumber_2 M0) := by
        intro M  hS  k52_2_5
        refine Tr.iload_n (pc := 52) (i := 2) d_X7_takeNumber_52 rfl rfl ?_
        refine Tr.iload_n (pc := 53) (i := 1) d_X7_takeNumber_53 rfl rfl ?_
        refine Tr.isub (pc := 54) d_X7_takeNumber_54 ?_
        refine Tr.tp (-a1 + p4_2) ((w32_id (by omega)).trans (by omega)) ?_
        refine Tr.iconst (pc := 55) d_X7_takeNumber_55 (by decide) ?_
        refine Tr.icmp_le (pc := 56) (tgt := 70) d_X7_takeNumber_56 rfl (fun c56 => ?_) (fun c56 => ?_)
        · refine Tr.aload_n (pc := 70) (i := 0) d_X7_takeNumber_70 rfl rfl ?_
          refine Tr.iconst (pc := 71) d_X7_takeNumber_71 (by decide) ?_
          refine Tr.iload_n (pc := 72) (i := 1) d_X7_takeNumber_72 rfl rfl ?_
          refine Tr.iload_n (pc := 73) (i := 3) d_X7_takeNumber_73 rfl rfl ?_
          refine Tr.iload_n (pc := 74) (i := 2) d_X7_takeNumber_74 rfl rfl ?_
          refine Tr.callV (pc := 75) (as := [_, _, _, _]) d_X7_takeNumber_75 s_7_40 ok_X7_add rfl rfl (Nat.le_of_ble_eq_true rfl) (Nat.le_of_ble_eq_true rfl) (by decide) (ty_2 hS.1.1) ?_
          refine Tr.imp (Tr.deep (by decide) (sp_X7_add_2_w3 hS.1 4 (by omega) a1 (by omega) p4_3 (by omega) p4_2 (by omega))) ?_
          rintro M75 _ ⟨h75, r75, rfl, lr75, ur75⟩
          have hS := St.tr hS h75 (by decide) (by decide)
          refine Tr.sc [(0, r75)] rfl ?_
          exact Tr.iret (pc := 78) d_X7_takeNumber_78 rfl ⟨hS, _, rfl, by omega, by omega⟩
        · refine Tr.aload_n (pc := 59) (i := 0) d_X7_takeNumber_59 rfl rfl ?_
          refine Tr.iconst (pc := 60) d_X7_takeNumber_60 (by decide) ?_
          refine Tr.iload_n (pc := 61) (i := 1) d_X7_takeNumber_61 rfl rfl ?_
          refine Tr.iconst (pc := 62) d_X7_takeNumber_62 (by decide) ?_
          refine Tr.iadd (pc := 63) d_X7_takeNumber_63 ?_
          refine Tr.tp (a1 + 4) ((w32_id (by omega)).trans (by omega)) ?_
          refine Tr.iconst (pc := 64) d_X7_takeNumber_64 (by decide) ?_
          refine Tr.iconst (pc := 65) d_X7_takeNumber_65 (by decide) ?_
          refine Tr.callV (pc := 66) (as := [_, _, _, _]) d_X7_takeNumber_66 s_7_40 ok_X7_add rfl rfl (Nat.le_of_ble_eq_true rfl) (Nat.le_of_ble_eq_true rfl) (by decide) (ty_2 hS.1.1) ?_
          refine Tr.imp (Tr.deep (by decide) (sp_X7_add_2_w2 hS.1 1 (by omega) (a1 + 4) (by omega) 0 (by omega) (-1) (by omega))) ?_
          rintro M66 _ ⟨h66, r66, rfl, lr66, ur66⟩
          have hS := St.tr hS h66 (by decide) (by decide)
          refine Tr.sc [(0, r66)] rfl ?_
          exact Tr.iret (pc := 69) d_X7_takeNumber_69 rfl ⟨hS, _, rfl, by omega, by omega⟩
      refine Tr.icmp_ge (pc := 9) (tgt := 52) d_X7_takeNumber_9 rfl (fun c9 => ?_) (fun c9 => ?_)
      · refine Tr.pick [0, 1, 2, 3] (ls2 := [(0, (2, 2)), (1, (0, a1)), (2, (0, p4_2)), (3, (0, p4_3))]) rfl ?_
        exact J52 _ hS er6
      · refine Tr.iload_n (pc := 12) (i := 2) d_X7_takeNumber_12 rfl rfl ?_
        refine Tr.iload_n (pc := 13) (i := 1) d_X7_takeNumber_13 rfl rfl ?_
        refine Tr.iconst (pc := 14) d_X7_takeNumber_14 (by decide) ?_
        refine Tr.iadd (pc := 15) d_X7_takeNumber_15 ?_
        refine Tr.tp (a1 + 4) ((w32_id (by omega)).trans (by omega)) ?_
        refine Tr.icmp_gt (pc := 16) (tgt := 52) d_X7_takeNumber_16 rfl (fun c16 => ?_) (fun c16 => ?_)
        · refine Tr.pick [0, 1, 2, 3] (ls2 := [(0, (2, 2)), (1, (0, a1)), (2, (0, p4_2)), (3, (0, p4_3))]) rfl ?_
          exact J52 _ hS er6
        · refine Tr.aload_n (pc := 19) (i := 0) d_X7_takeNumber_19 rfl rfl ?_
          refine Tr.getf (pc := 20) d_X7_takeNumber_20 f_7_21 (by decide) (by decide) (ty_2 hS.1.1) ?_
          refine Tr.tp 1 ((St.kp hS (by decide) (by decide) (by decide)).trans en_2_4) ?_
          refine Tr.iload_n (pc := 23) (i := 2) d_X7_takeNumber_23 rfl rfl ?_
          refine Tr.bald (pc := 24) d_X7_takeNumber_24 (ty_1 hS.1.1) (by omega) (by omega) ?_
          refine Tr.gen (P := fun v => (-128) ≤ v ∧ v ≤ 127) (ar_1 hS.1.2.1 _) (fun r24 er24 br24 => ?_)
          refine Tr.callS (pc := 25) (as := [_]) d_X7_takeNumber_25 s_7_48 ok_X7_isDigit rfl rfl (Nat.le_of_ble_eq_true rfl) (Nat.le_of_ble_eq_true rfl) ?_
          refine Tr.imp (Tr.deep (by decide) (sp_X7_isDigit hS.1 r24 (by omega))) ?_
          rintro M25 _ ⟨h25, r25, rfl, lr25, ur25⟩
          have hS := St.tr hS h25 (by decide) (by decide)
          refine Tr.sc [(0, r25)] rfl ?_
          refine Tr.if_eq (pc := 28) (tgt := 52) d_X7_takeNumber_28 rfl (fun c28 => ?_) (fun c28 => ?_)
          · refine Tr.pick [0, 1, 2, 3] (ls2 := [(0, (2, 2)), (1, (0, a1)), (2, (0, p4_2)), (3, (0, p4_3))]) rfl ?_
            exact J52 _ hS ((St.kp h25 (by decide) (by decide) (by decide)).trans er6)
          · refine Tr.iload_n (pc := 31) (i := 3) d_X7_takeNumber_31 rfl rfl ?_
            refine Tr.bipush (pc := 32) d_X7_takeNumber_32 rfl (by decide) ?_
            refine Tr.imul (pc := 34) d_X7_takeNumber_34 ?_
            refine Tr.gen (P := fun v => (-2147483648) ≤ v ∧ v ≤ 2147483647) (w32_b _) (fun r34 er34 br34 => ?_)
            refine Tr.aload_n (pc := 35) (i := 0) d_X7_takeNumber_35 rfl rfl ?_
            refine Tr.getf (pc := 36) d_X7_takeNumber_36 f_7_21 (by decide) (by decide) (ty_2 hS.1.1) ?_
            refine Tr.tp 1 ((St.kp hS (by decide) (by decide) (by decide)).trans en_2_4) ?_
            refine Tr.iload_n (pc := 39) (i := 2) d_X7_takeNumber_39 rfl rfl ?_
            refine Tr.bald (pc := 40) d_X7_takeNumber_40 (ty_1 hS.1.1) (by omega) (by omega) ?_
            refine Tr.tp r24 ((St.ka h25 (by decide) (by decide) (by decide)).trans er24) ?_
            refine Tr.iadd (pc := 41) d_X7_takeNumber_41 ?_
            refine Tr.gen (P := fun v => (-2147483648) ≤ v ∧ v ≤ 2147483647) (w32_b _) (fun r41 er41 br41 => ?_)
            refine Tr.bipush (pc := 42) d_X7_takeNumber_42 rfl (by decide) ?_
            refine Tr.isub (pc := 44) d_X7_takeNumber_44 ?_
            refine Tr.gen (P := fun v => (-2147483648) ≤ v ∧ v ≤ 2147483647) (w32_b _) (fun r44 er44 br44 => ?_)
            refine Tr.istore_n (pc := 45) (i := 3) (ls2 := [(3, (0, r44)), (0, (2, 2)), (1, (0, a1)), (2, (0, p4_2))]) d_X7_takeNumber_45 rfl (by decide) rfl ?_
            refine Tr.iincV (pc := 46) (n2 := (p4_2 + 1)) (ls2 := [(2, (0, (p4_2 + 1))), (3, (0, r44)), (0, (2, 2)), (1, (0, a1))]) d_X7_takeNumber_46 rfl (by decide) ((w32_id (by omega)).trans (by omega)) rfl ?_
            refine Tr.goto (pc := 49) (tgt := 4) d_X7_takeNumber_49 rfl ?_
            refine Tr.pick [2, 3, 0, 1] (ls2 := [(0, (2, 2)), (1, (0, a1)), (2, (0, (p4_2 + 1))), (3, (0, r44))]) rfl ?_
            exact J4 _ _ _ hS (by omega) (by omega) (by omega)
  refine Tr.pick [2, 3, 1, 0] (ls2 := [(0, (2, 2)), (1, (0, a1)), (2, (0, a1)), (3, (0, 0))]) rfl ?_
  exact J4 _ _ _ _ hS (by omega) (by omega) (Nat.lt_succ_self _)

def ws_J3_checkIndex_8e157_xq : List (Int × Int) := []
def as_J3_checkIndex_8e157_xq : List Int := []
def q_J3_checkIndex_8e157_xq (M0 M' : Mem) (r : Option PV) : Prop := St Tru ws_J3_checkIndex_8e157_xq as_J3_checkIndex_8e157_xq M0 M' ∧ ∃ v : Int, r = some (0, v) ∧ 0 ≤ v ∧ v ≤ 161
set_option maxRecDepth 100000 in
set_option maxHeartbeats 4000000 in
theorem sp_J3_checkIndex_8e157_xq {l : Launch} {K : EC} {M0 : Mem} {xq : Int} (hI : In Tru M0)  (a0 : Int) (ha0 : 0 ≤ a0 ∧ a0 ≤ 161) (a1 : Int) (ha1 : 162 ≤ a1 ∧ a1 ≤ 162)  : Tr l K 0 mJ3_checkIndex_8e157 0 [(0, (0, a0)), (1, (0, a1)), (2, (2, xq))] [] M0 (q_J3_checkIndex_8e157_xq M0) := by
  have hS : St Tru ws_J3_checkIndex_8e157_xq as_J3_checkIndex_8e157_xq M0 M0 := St.rf hI
  refine Tr.iload_n (pc := 0) (i := 0) d_J3_checkIndex_8e157_0 rfl rfl ?_
  refine Tr.if_lt (pc := 1) (tgt := 9) d_J3_checkIndex_8e157_1 rfl (fun hc => absurd hc (by omega)) (fun _ => ?_)
  refine Tr.iload_n (pc := 4) (i := 0) d_J3_checkIndex_8e157_4 rfl rfl ?_
  refine Tr.iload_n (pc := 5) (i := 1) d_J3_checkIndex_8e157_5 rfl rfl ?_
  refine Tr.tp 162 (by omega) ?_
  refine Tr.icmp_lt (pc := 6) (tgt := 16) d_J3_checkIndex_8e157_6 rfl (fun _ => ?_) (fun hc => absurd (by omega) hc)
  refine Tr.iload_n (pc := 16) (i := 0) d_J3_checkIndex_8e157_16 rfl rfl ?_
  exact Tr.iret (pc := 17) d_J3_checkIndex_8e157_17 rfl ⟨hS, _, rfl, by omega, by omega⟩

def ws_X7_add_2_w4 : List (Int × Int) := [(2, 3)]
def as_X7_add_2_w4 : List Int := [3, 4, 5]
def q_X7_add_2_w4 (M0 M' : Mem) (r : Option PV) : Prop := St Tru ws_X7_add_2_w4 as_X7_add_2_w4 M0 M' ∧ ∃ v : Int, r = some (0, v) ∧ 0 ≤ v ∧ v ≤ 900
set_option maxRecDepth 100000 in
set_option maxHeartbeats 4000000 in
theorem sp_X7_add_2_w4 {l : Launch} {K : EC} {M0 : Mem} (hI : In Tru M0)  (a1 : Int) (ha1 : 2 ≤ a1 ∧ a1 ≤ 2) (a2 : Int) (ha2 : 0 ≤ a2 ∧ a2 ≤ 899) (a3 : Int) (ha3 : 0 ≤ a3 ∧ a3 ≤ 50) (a4 : Int) (ha4 : 0 ≤ a4 ∧ a4 ≤ 900)  : Tr l K 0 mX7_add 0 [(0, (2, 2)), (1, (0, a1)), (2, (0, a2)), (3, (0, a3)), (4, (0, a4))] [] M0 (q_X7_add_2_w4 M0) := by
  have hS : St Tru ws_X7_add_2_w4 as_X7_add_2_w4 M0 M0 := St.rf hI
  refine Tr.aload_n (pc := 0) (i := 0) d_X7_add_0 rfl rfl ?_
  refine Tr.getf (pc := 1) d_X7_add_1 f_7_29 (by decide) (by decide) (ty_2 hS.1.1) ?_
  refine Tr.gen (P := fun v => 0 ≤ v ∧ v ≤ 901) (ir_2_3 hS.1.2.1) (fun r1 er1 br1 => ?_)
  refine Tr.aload_n (pc := 4) (i := 0) d_X7_add_4 rfl rfl ?_
  refine Tr.getf (pc := 5) d_X7_add_5 f_7_9 (by decide) (by decide) (ty_2 hS.1.1) ?_
  refine Tr.tp 3 (fx_2_0 hS.1.1) ?_
  refine Tr.alen (pc := 8) d_X7_add_8 (ty_3 hS.1.1) (by decide) (by decide) ?_
  refine Tr.tp 901 rfl ?_
  refine Tr.icmp_ge (pc := 9) (tgt := 52) d_X7_add_9 rfl (fun c9 => ?_) (fun c9 => ?_)
  · refine Tr.iload (pc := 52) (i := 4) d_X7_add_52 rfl ?_
    exact Tr.iret (pc := 54) d_X7_add_54 rfl ⟨hS, _, rfl, by omega, by omega⟩
  · refine Tr.aload_n (pc := 12) (i := 0) d_X7_add_12 rfl rfl ?_
    refine Tr.getf (pc := 13) d_X7_add_13 f_7_9 (by decide) (by decide) (ty_2 hS.1.1) ?_
    refine Tr.tp 3 (fx_2_0 hS.1.1) ?_
    refine Tr.aload_n (pc := 16) (i := 0) d_X7_add_16 rfl rfl ?_
    refine Tr.getf (pc := 17) d_X7_add_17 f_7_29 (by decide) (by decide) (ty_2 hS.1.1) ?_
    refine Tr.tp r1 er1 ?_
    refine Tr.iload_n (pc := 20) (i := 1) d_X7_add_20 rfl rfl ?_
    refine Tr.tp 2 (by omega) ?_
    refine Tr.iastS (pc := 21) (P := St Tru ws_X7_add_2_w4 as_X7_add_2_w4 M0) d_X7_add_21 (ty_3 hS.1.1) (by omega) (by omega) (sa_3 hS (by decide) (by omega) trivial) (fun M21 hS w21 => ?_)
    refine Tr.aload_n (pc := 22) (i := 0) d_X7_add_22 rfl rfl ?_
    refine Tr.getf (pc := 23) d_X7_add_23 f_7_15 (by decide) (by decide) (ty_2 hS.1.1) ?_
    refine Tr.tp 4 (fx_2_1 hS.1.1) ?_
    refine Tr.aload_n (pc := 26) (i := 0) d_X7_add_26 rfl rfl ?_
    refine Tr.getf (pc := 27) d_X7_add_27 f_7_29 (by decide) (by decide) (ty_2 hS.1.1) ?_
    refine Tr.tp r1 ((Wr.b w21 rfl).trans er1) ?_
    refine Tr.iload_n (pc := 30) (i := 2) d_X7_add_30 rfl rfl ?_
    refine Tr.iastS (pc := 31) (P := St Tru ws_X7_add_2_w4 as_X7_add_2_w4 M0) d_X7_add_31 (ty_4 hS.1.1) (by omega) (by omega) (sa_4 hS (by decide) (by omega) trivial) (fun M31 hS w31 => ?_)
    refine Tr.aload_n (pc := 32) (i := 0) d_X7_add_32 rfl rfl ?_
    refine Tr.getf (pc := 33) d_X7_add_33 f_7_18 (by decide) (by decide) (ty_2 hS.1.1) ?_
    refine Tr.tp 5 (fx_2_2 hS.1.1) ?_
    refine Tr.aload_n (pc := 36) (i := 0) d_X7_add_36 rfl rfl ?_
    refine Tr.getf (pc := 37) d_X7_add_37 f_7_29 (by decide) (by decide) (ty_2 hS.1.1) ?_
    refine Tr.tp r1 ((Wr.b w31 rfl).trans ((Wr.b w21 rfl).trans er1)) ?_
    refine Tr.iload_n (pc := 40) (i := 3) d_X7_add_40 rfl rfl ?_
    refine Tr.iastS (pc := 41) (P := St Tru ws_X7_add_2_w4 as_X7_add_2_w4 M0) d_X7_add_41 (ty_5 hS.1.1) (by omega) (by omega) (sa_5 hS (by decide) (by omega) trivial) (fun M41 hS w41 => ?_)
    refine Tr.aload_n (pc := 42) (i := 0) d_X7_add_42 rfl rfl ?_
    refine Tr.dup (pc := 43) d_X7_add_43 ne21 ?_
    refine Tr.getf (pc := 44) d_X7_add_44 f_7_29 (by decide) (by decide) (ty_2 hS.1.1) ?_
    refine Tr.tp r1 ((Wr.b w41 rfl).trans ((Wr.b w31 rfl).trans ((Wr.b w21 rfl).trans er1))) ?_
    refine Tr.iconst (pc := 47) d_X7_add_47 (by decide) ?_
    refine Tr.iadd (pc := 48) d_X7_add_48 ?_
    refine Tr.tp (r1 + 1) ((w32_id (by omega)).trans (by omega)) ?_
    refine Tr.putfS (pc := 49) (P := St Tru ws_X7_add_2_w4 as_X7_add_2_w4 M0) d_X7_add_49 f_7_29 (by decide) (by decide) (ty_2 hS.1.1) (st_2_3 hS (by decide) (by omega) trivial) (fun M49 hS w49 => ?_)
    refine Tr.iload (pc := 52) (i := 4) d_X7_add_52 rfl ?_
    exact Tr.iret (pc := 54) d_X7_add_54 rfl ⟨hS, _, rfl, by omega, by omega⟩

def ws_X7_skipBlanks_2_w1 : List (Int × Int) := []
def as_X7_skipBlanks_2_w1 : List Int := []
def q_X7_skipBlanks_2_w1 (M0 M' : Mem) (r : Option PV) : Prop := St Tru ws_X7_skipBlanks_2_w1 as_X7_skipBlanks_2_w1 M0 M' ∧ ∃ v : Int, r = some (0, v) ∧ 0 ≤ v ∧ v ≤ 900
set_option maxRecDepth 100000 in
set_option maxHeartbeats 4000000 in
theorem sp_X7_skipBlanks_2_w1 {l : Launch} {K : EC} {M0 : Mem} (hI : In Tru M0) (en_2_4 : rd M0 2 4 = 1) (a1 : Int) (ha1 : 0 ≤ a1 ∧ a1 ≤ 900)  : Tr l K 0 mX7_skipBlanks 0 [(0, (2, 2)), (1, (0, a1))] [] M0 (q_X7_skipBlanks_2_w1 M0) := by
  have hS : St Tru ws_X7_skipBlanks_2_w1 as_X7_skipBlanks_2_w1 M0 M0 := St.rf hI
  refine Tr.iload_n (pc := 0) (i := 1) d_X7_skipBlanks_0 rfl rfl ?_
  refine Tr.istore_n (pc := 1) (i := 2) (ls2 := [(2, (0, a1)), (0, (2, 2)), (1, (0, a1))]) d_X7_skipBlanks_1 rfl (by decide) rfl ?_
  have J2 : ∀ (n2 : Nat) (M : Mem) (p2_2 : Int), St Tru ws_X7_skipBlanks_2_w1 as_X7_skipBlanks_2_w1 M0 M → (0 ≤ p2_2 ∧ p2_2 ≤ 900) → (900 - p2_2).toNat < n2 → Tr l K 0 mX7_skipBlanks 2 [(0, (2, 2)), (2, (0, p2_2))] [] M (q_X7_skipBlanks_2_w1 M0) := by
    intro n2
    induction n2 with
    | zero => intro M p2_2 hS bp2_2  hm2; exact absurd hm2 (Nat.not_lt_zero _)
    | succ n2 J2 =>
      intro M p2_2 hS bp2_2  hm2
      refine Tr.iload_n (pc := 2) (i := 2) d_X7_skipBlanks_2 rfl rfl ?_
      refine Tr.aload_n (pc := 3) (i := 0) d_X7_skipBlanks_3 rfl rfl ?_
      refine Tr.getf (pc := 4) d_X7_skipBlanks_4 f_7_25 (by decide) (by decide) (ty_2 hS.1.1) ?_
      refine Tr.gen (P := fun v => 0 ≤ v ∧ v ≤ 900) (ir_2_5 hS.1.2.1) (fun r4 er4 br4 => ?_)
      refine Tr.icmp_ge (pc := 7) (tgt := 38) d_X7_skipBlanks_7 rfl (fun c7 => ?_) (fun c7 => ?_)
      · refine Tr.iload_n (pc := 38) (i := 2) d_X7_skipBlanks_38 rfl rfl ?_
        exact Tr.iret (pc := 39) d_X7_skipBlanks_39 rfl ⟨hS, _, rfl, by omega, by omega⟩
      · refine Tr.aload_n (pc := 10) (i := 0) d_X7_skipBlanks_10 rfl rfl ?_
        refine Tr.getf (pc := 11) d_X7_skipBlanks_11 f_7_21 (by decide) (by decide) (ty_2 hS.1.1) ?_
        refine Tr.tp 1 ((St.kp hS (by decide) (by decide) (by decide)).trans en_2_4) ?_
        refine Tr.iload_n (pc := 14) (i := 2) d_X7_skipBlanks_14 rfl rfl ?_
        refine Tr.bald (pc := 15) d_X7_skipBlanks_15 (ty_1 hS.1.1) (by omega) (by omega) ?_
        refine Tr.gen (P := fun v => (-128) ≤ v ∧ v ≤ 127) (ar_1 hS.1.2.1 _) (fun r15 er15 br15 => ?_)
        refine Tr.bipush (pc := 16) d_X7_skipBlanks_16 rfl (by decide) ?_
        have J32 : ∀ (M : Mem), St Tru ws_X7_skipBlanks_2_w1 as_X7_skipBlanks_2_w1 M0 M → (10 ≤ r15 ∧ r15 ≤ 32) → rd M 1 p2_2 = r15 → rd M 2 5 = r4 → Tr l K 0 mX7_skipBlanks 32 [(0, (2, 2)), (2, (0, p2_2))] [] M (q_X7_skipBlanks_2_w1 M0) := by
          intro M  hS z32r15 k32_1_p2_210 k32_2_5
          refine Tr.iincV (pc := 32) (n2 := (p2_2 + 1)) (ls2 := [(2, (0, (p2_2 + 1))), (0, (2, 2))]) d_X7_skipBlanks_32 rfl (by decide) ((w32_id (by omega)).trans (by omega)) rfl ?_
          refine Tr.goto (pc := 35) (tgt := 2) d_X7_skipBlanks_35 rfl ?_
          refine Tr.pick [1, 0] (ls2 := [(0, (2, 2)), (2, (0, (p2_2 + 1)))]) rfl ?_
          exact J2 _ _ hS (by omega) (by omega)
        refine Tr.icmp_eq (pc := 18) (tgt := 32) d_X7_skipBlanks_18 rfl (fun c18 => ?_) (fun c18 => ?_)
        · refine Tr.pick [0, 1] (ls2 := [(0, (2, 2)), (2, (0, p2_2))]) rfl ?_
          exact J32 _ hS (by omega) er15 er4
        · refine Tr.aload_n (pc := 21) (i := 0) d_X7_skipBlanks_21 rfl rfl ?_
          refine Tr.getf (pc := 22) d_X7_skipBlanks_22 f_7_21 (by decide) (by decide) (ty_2 hS.1.1) ?_
          refine Tr.tp 1 ((St.kp hS (by decide) (by decide) (by decide)).trans en_2_4) ?_
          refine Tr.iload_n (pc := 25) (i := 2) d_X7_skipBlanks_25 rfl rfl ?_
          refine Tr.bald (pc := 26) d_X7_skipBlanks_26 (ty_1 hS.1.1) (by omega) (by omega) ?_
          refine Tr.tp r15 er15 ?_
          refine Tr.bipush (pc := 27) d_X7_skipBlanks_27 rfl (by decide) ?_
          refine Tr.icmp_ne (pc := 29) (tgt := 38) d_X7_skipBlanks_29 rfl (fun c29 => ?_) (fun c29 => ?_)
          · refine Tr.iload_n (pc := 38) (i := 2) d_X7_skipBlanks_38 rfl rfl ?_
            exact Tr.iret (pc := 39) d_X7_skipBlanks_39 rfl ⟨hS, _, rfl, by omega, by omega⟩
          · refine Tr.pick [0, 1] (ls2 := [(0, (2, 2)), (2, (0, p2_2))]) rfl ?_
            exact J32 _ hS (by omega) er15 er4
  refine Tr.pick [1, 0] (ls2 := [(0, (2, 2)), (2, (0, a1))]) rfl ?_
  exact J2 _ _ _ hS (by omega) (Nat.lt_succ_self _)

def ws_X4_clear_35 : List (Int × Int) := [(35, 0), (35, 11)]
def as_X4_clear_35 : List Int := []
def q_X4_clear_35 (M0 M' : Mem) (r : Option PV) : Prop := St Tru ws_X4_clear_35 as_X4_clear_35 M0 M' ∧ r = none
set_option maxRecDepth 100000 in
set_option maxHeartbeats 4000000 in
theorem sp_X4_clear_35 {l : Launch} {K : EC} {M0 : Mem} (hI : In Tru M0)    : Tr l K 0 mX4_clear 0 [(0, (2, 35))] [] M0 (q_X4_clear_35 M0) := by
  have hS : St Tru ws_X4_clear_35 as_X4_clear_35 M0 M0 := St.rf hI
  refine Tr.aload_n (pc := 0) (i := 0) d_X4_clear_0 rfl rfl ?_
  refine Tr.iconst (pc := 1) d_X4_clear_1 (by decide) ?_
  refine Tr.putfS (pc := 2) (P := St Tru ws_X4_clear_35 as_X4_clear_35 M0) d_X4_clear_2 f_4_45 (by decide) (by decide) (ty_35 hS.1.1) (st_35_0 hS (by decide) (by omega) trivial) (fun M2 hS w2 => ?_)
  refine Tr.aload_n (pc := 5) (i := 0) d_X4_clear_5 rfl rfl ?_
  refine Tr.iconst (pc := 6) d_X4_clear_6 (by decide) ?_
  refine Tr.putfS (pc := 7) (P := St Tru ws_X4_clear_35 as_X4_clear_35 M0) d_X4_clear_7 f_4_49 (by decide) (by decide) (ty_35 hS.1.1) (st_35_11 hS (by decide) (by omega) trivial) (fun M7 hS w7 => ?_)
  exact Tr.vret (pc := 10) d_X4_clear_10 rfl ⟨hS, rfl⟩

def ws_X3_clear_27 : List (Int × Int) := [(27, 0), (27, 1), (27, 2), (27, 3), (35, 0), (35, 11)]
def as_X3_clear_27 : List Int := [28, 29, 32, 33, 34]
def q_X3_clear_27 (M0 M' : Mem) (r : Option PV) : Prop := St Tru ws_X3_clear_27 as_X3_clear_27 M0 M' ∧ r = none
set_option maxRecDepth 100000 in
set_option maxHeartbeats 4000000 in
theorem sp_X3_clear_27 {l : Launch} {K : EC} {M0 : Mem} (hI : In Tru M0)    : Tr l K 1 mX3_clear 0 [(0, (2, 27))] [] M0 (q_X3_clear_27 M0) := by
  have hS : St Tru ws_X3_clear_27 as_X3_clear_27 M0 M0 := St.rf hI
  refine Tr.aload_n (pc := 0) (i := 0) d_X3_clear_0 rfl rfl ?_
  refine Tr.iconst (pc := 1) d_X3_clear_1 (by decide) ?_
  refine Tr.putfS (pc := 2) (P := St Tru ws_X3_clear_27 as_X3_clear_27 M0) d_X3_clear_2 f_3_40 (by decide) (by decide) (ty_27 hS.1.1) (st_27_0 hS (by decide) (by omega) trivial) (fun M2 hS w2 => ?_)
  refine Tr.aload_n (pc := 5) (i := 0) d_X3_clear_5 rfl rfl ?_
  refine Tr.iconst (pc := 6) d_X3_clear_6 (by decide) ?_
  refine Tr.putfS (pc := 7) (P := St Tru ws_X3_clear_27 as_X3_clear_27 M0) d_X3_clear_7 f_3_44 (by decide) (by decide) (ty_27 hS.1.1) (st_27_1 hS (by decide) (by omega) trivial) (fun M7 hS w7 => ?_)
  refine Tr.aload_n (pc := 10) (i := 0) d_X3_clear_10 rfl rfl ?_
  refine Tr.iconst (pc := 11) d_X3_clear_11 (by decide) ?_
  refine Tr.putfS (pc := 12) (P := St Tru ws_X3_clear_27 as_X3_clear_27 M0) d_X3_clear_12 f_3_47 (by decide) (by decide) (ty_27 hS.1.1) (st_27_2 hS (by decide) (by omega) trivial) (fun M12 hS w12 => ?_)
  refine Tr.aload_n (pc := 15) (i := 0) d_X3_clear_15 rfl rfl ?_
  refine Tr.iconst (pc := 16) d_X3_clear_16 (by decide) ?_
  refine Tr.putfS (pc := 17) (P := St Tru ws_X3_clear_27 as_X3_clear_27 M0) d_X3_clear_17 f_3_50 (by decide) (by decide) (ty_27 hS.1.1) (st_27_3 hS (by decide) (by omega) trivial) (fun M17 hS w17 => ?_)
  refine Tr.aload_n (pc := 20) (i := 0) d_X3_clear_20 rfl rfl ?_
  refine Tr.getf (pc := 21) d_X3_clear_21 f_3_11 (by decide) (by decide) (ty_27 hS.1.1) ?_
  refine Tr.tp 28 (fx_27_4 hS.1.1) ?_
  refine Tr.iconst (pc := 24) d_X3_clear_24 (by decide) ?_
  refine Tr.callS (pc := 25) (as := [_, _]) d_X3_clear_25 s_3_53 ok_J7_fill_53178 rfl rfl (Nat.le_of_ble_eq_true rfl) (Nat.le_of_ble_eq_true rfl) ?_
  refine Tr.imp (sp_fill (N := 3) (ty_28 hS.1.1) (by decide)) ?_
  rintro _ _ ⟨rfl, rfl⟩
  refine Tr.nmA (P := St Tru ws_X3_clear_27 as_X3_clear_27 M0) (St.wp (x := 28) (v := 0) 3 hS (by decide) (by decide) (by decide +kernel) (by decide +kernel) (by decide +kernel) trivial) (fil_wa _ _ _ _) (fun M25 hS w25 => ?_)
  refine Tr.sc [] rfl ?_
  refine Tr.aload_n (pc := 28) (i := 0) d_X3_clear_28 rfl rfl ?_
  refine Tr.getf (pc := 29) d_X3_clear_29 f_3_15 (by decide) (by decide) (ty_27 hS.1.1) ?_
  refine Tr.tp 29 (fx_27_5 hS.1.1) ?_
  refine Tr.iconst (pc := 32) d_X3_clear_32 (by decide) ?_
  refine Tr.callS (pc := 33) (as := [_, _]) d_X3_clear_33 s_3_53 ok_J7_fill_53178 rfl rfl (Nat.le_of_ble_eq_true rfl) (Nat.le_of_ble_eq_true rfl) ?_
  refine Tr.imp (sp_fill (N := 24) (ty_29 hS.1.1) (by decide)) ?_
  rintro _ _ ⟨rfl, rfl⟩
  refine Tr.nmA (P := St Tru ws_X3_clear_27 as_X3_clear_27 M0) (sf_29 (v := 0) 24 hS (by decide) (by omega) trivial) (fil_wa _ _ _ _) (fun M33 hS w33 => ?_)
  refine Tr.sc [] rfl ?_
  refine Tr.aload_n (pc := 36) (i := 0) d_X3_clear_36 rfl rfl ?_
  refine Tr.getf (pc := 37) d_X3_clear_37 f_3_24 (by decide) (by decide) (ty_27 hS.1.1) ?_
  refine Tr.tp 32 (fx_27_8 hS.1.1) ?_
  refine Tr.iconst (pc := 40) d_X3_clear_40 (by decide) ?_
  refine Tr.callS (pc := 41) (as := [_, _]) d_X3_clear_41 s_3_53 ok_J7_fill_53178 rfl rfl (Nat.le_of_ble_eq_true rfl) (Nat.le_of_ble_eq_true rfl) ?_
  refine Tr.imp (sp_fill (N := 3) (ty_32 hS.1.1) (by decide)) ?_
  rintro _ _ ⟨rfl, rfl⟩
  refine Tr.nmA (P := St Tru ws_X3_clear_27 as_X3_clear_27 M0) (sf_32 (v := 0) 3 hS (by decide) (by omega) trivial) (fil_wa _ _ _ _) (fun M41 hS w41 => ?_)
  refine Tr.sc [] rfl ?_
  refine Tr.aload_n (pc := 44) (i := 0) d_X3_clear_44 rfl rfl ?_
  refine Tr.getf (pc := 45) d_X3_clear_45 f_3_27 (by decide) (by decide) (ty_27 hS.1.1) ?_
  refine Tr.tp 33 (fx_27_9 hS.1.1) ?_
  refine Tr.iconst (pc := 48) d_X3_clear_48 (by decide) ?_
  refine Tr.callS (pc := 49) (as := [_, _]) d_X3_clear_49 s_3_53 ok_J7_fill_53178 rfl rfl (Nat.le_of_ble_eq_true rfl) (Nat.le_of_ble_eq_true rfl) ?_
  refine Tr.imp (sp_fill (N := 3) (ty_33 hS.1.1) (by decide)) ?_
  rintro _ _ ⟨rfl, rfl⟩
  refine Tr.nmA (P := St Tru ws_X3_clear_27 as_X3_clear_27 M0) (sf_33 (v := 0) 3 hS (by decide) (by omega) trivial) (fil_wa _ _ _ _) (fun M49 hS w49 => ?_)
  refine Tr.sc [] rfl ?_
  refine Tr.aload_n (pc := 52) (i := 0) d_X3_clear_52 rfl rfl ?_
  refine Tr.getf (pc := 53) d_X3_clear_53 f_3_30 (by decide) (by decide) (ty_27 hS.1.1) ?_
  refine Tr.tp 34 (fx_27_10 hS.1.1) ?_
  refine Tr.iconst (pc := 56) d_X3_clear_56 (by decide) ?_
  refine Tr.callS (pc := 57) (as := [_, _]) d_X3_clear_57 s_3_53 ok_J7_fill_53178 rfl rfl (Nat.le_of_ble_eq_true rfl) (Nat.le_of_ble_eq_true rfl) ?_
  refine Tr.imp (sp_fill (N := 15) (ty_34 hS.1.1) (by decide)) ?_
  rintro _ _ ⟨rfl, rfl⟩
  refine Tr.nmA (P := St Tru ws_X3_clear_27 as_X3_clear_27 M0) (sf_34 (v := 0) 15 hS (by decide) (by omega) trivial) (fil_wa _ _ _ _) (fun M57 hS w57 => ?_)
  refine Tr.sc [] rfl ?_
  refine Tr.aload_n (pc := 60) (i := 0) d_X3_clear_60 rfl rfl ?_
  refine Tr.getf (pc := 61) d_X3_clear_61 f_3_36 (by decide) (by decide) (ty_27 hS.1.1) ?_
  refine Tr.tp 35 (fx_27_11 hS.1.1) ?_
  refine Tr.callV (pc := 64) (as := []) d_X3_clear_64 s_3_59 ok_X4_clear rfl rfl (Nat.le_of_ble_eq_true rfl) (Nat.le_of_ble_eq_true rfl) (by decide) (ty_35 hS.1.1) ?_
  refine Tr.imp (Tr.deep (by decide) (sp_X4_clear_35 hS.1 )) ?_
  rintro M64 _ ⟨h64, rfl⟩
  have hS := St.tr hS h64 (by decide) (by decide)
  refine Tr.sc [] rfl ?_
  exact Tr.vret (pc := 67) d_X3_clear_67 rfl ⟨hS, rfl⟩

def ws_X5_goOn_6 : List (Int × Int) := [(6, 5)]
def as_X5_goOn_6 : List Int := []
def q_X5_goOn_6 (M0 M' : Mem) (r : Option PV) : Prop := St Tru ws_X5_goOn_6 as_X5_goOn_6 M0 M' ∧ ∃ v : Int, r = some (0, v) ∧ 1 ≤ v ∧ v ≤ 1
set_option maxRecDepth 100000 in
set_option maxHeartbeats 4000000 in
theorem sp_X5_goOn_6 {l : Launch} {K : EC} {M0 : Mem} (hI : In Tru M0)    : Tr l K 0 mX5_goOn 0 [(0, (2, 6))] [] M0 (q_X5_goOn_6 M0) := by
  have hS : St Tru ws_X5_goOn_6 as_X5_goOn_6 M0 M0 := St.rf hI
  refine Tr.aload_n (pc := 0) (i := 0) d_X5_goOn_0 rfl rfl ?_
  refine Tr.getf (pc := 1) d_X5_goOn_1 f_5_36 (by decide) (by decide) (ty_6 hS.1.1) ?_
  refine Tr.gen (P := fun v => 0 ≤ v ∧ v ≤ 900) (ir_6_5 hS.1.2.1) (fun r1 er1 br1 => ?_)
  refine Tr.sipush (pc := 4) d_X5_goOn_4 rfl (by decide) ?_
  refine Tr.icmp_ge (pc := 7) (tgt := 20) d_X5_goOn_7 rfl (fun c7 => ?_) (fun c7 => ?_)
  · refine Tr.iconst (pc := 20) d_X5_goOn_20 (by decide) ?_
    exact Tr.zret (pc := 21) d_X5_goOn_21 rfl (by omega) ⟨hS, _, rfl, by omega, by omega⟩
  · refine Tr.aload_n (pc := 10) (i := 0) d_X5_goOn_10 rfl rfl ?_
    refine Tr.dup (pc := 11) d_X5_goOn_11 ne21 ?_
    refine Tr.getf (pc := 12) d_X5_goOn_12 f_5_36 (by decide) (by decide) (ty_6 hS.1.1) ?_
    refine Tr.tp r1 er1 ?_
    refine Tr.iconst (pc := 15) d_X5_goOn_15 (by decide) ?_
    refine Tr.iadd (pc := 16) d_X5_goOn_16 ?_
    refine Tr.tp (r1 + 1) ((w32_id (by omega)).trans (by omega)) ?_
    refine Tr.putfS (pc := 17) (P := St Tru ws_X5_goOn_6 as_X5_goOn_6 M0) d_X5_goOn_17 f_5_36 (by decide) (by decide) (ty_6 hS.1.1) (st_6_5 hS (by decide) (by omega) trivial) (fun M17 hS w17 => ?_)
    refine Tr.iconst (pc := 20) d_X5_goOn_20 (by decide) ?_
    exact Tr.zret (pc := 21) d_X5_goOn_21 rfl (by omega) ⟨hS, _, rfl, by omega, by omega⟩

def ws_X3_find_27 : List (Int × Int) := []
def as_X3_find_27 : List Int := []
def q_X3_find_27 (M0 M' : Mem) (r : Option PV) : Prop := St Tru ws_X3_find_27 as_X3_find_27 M0 M' ∧ ∃ v : Int, r = some (0, v) ∧ (-1) ≤ v ∧ v ≤ 14
set_option maxRecDepth 100000 in
set_option maxHeartbeats 4000000 in
theorem sp_X3_find_27 {l : Launch} {K : EC} {M0 : Mem} (hI : In Tru M0)  (a1 : Int) (ha1 : (-2147483648) ≤ a1 ∧ a1 ≤ 2147483647)  : Tr l K 0 mX3_find 0 [(0, (2, 27)), (1, (0, a1))] [] M0 (q_X3_find_27 M0) := by
  have hS : St Tru ws_X3_find_27 as_X3_find_27 M0 M0 := St.rf hI
  refine Tr.iconst (pc := 0) d_X3_find_0 (by decide) ?_
  refine Tr.istore_n (pc := 1) (i := 2) (ls2 := [(2, (0, 0)), (0, (2, 27)), (1, (0, a1))]) d_X3_find_1 rfl (by decide) rfl ?_
  have J2 : ∀ (n2 : Nat) (M : Mem) (p2_2 : Int), St Tru ws_X3_find_27 as_X3_find_27 M0 M → (0 ≤ p2_2 ∧ p2_2 ≤ 15) → (15 - p2_2).toNat < n2 → Tr l K 0 mX3_find 2 [(0, (2, 27)), (1, (0, a1)), (2, (0, p2_2))] [] M (q_X3_find_27 M0) := by
    intro n2
    induction n2 with
    | zero => intro M p2_2 hS bp2_2  hm2; exact absurd hm2 (Nat.not_lt_zero _)
    | succ n2 J2 =>
      intro M p2_2 hS bp2_2  hm2
      refine Tr.iload_n (pc := 2) (i := 2) d_X3_find_2 rfl rfl ?_
      refine Tr.bipush (pc := 3) d_X3_find_3 rfl (by decide) ?_
      refine Tr.icmp_ge (pc := 5) (tgt := 26) d_X3_find_5 rfl (fun c5 => ?_) (fun c5 => ?_)
      · refine Tr.iconst (pc := 26) d_X3_find_26 (by decide) ?_
        exact Tr.iret (pc := 27) d_X3_find_27 rfl ⟨hS, _, rfl, by omega, by omega⟩
      · refine Tr.aload_n (pc := 8) (i := 0) d_X3_find_8 rfl rfl ?_
        refine Tr.getf (pc := 9) d_X3_find_9 f_3_30 (by decide) (by decide) (ty_27 hS.1.1) ?_
        refine Tr.tp 34 (fx_27_10 hS.1.1) ?_
        refine Tr.iload_n (pc := 12) (i := 2) d_X3_find_12 rfl rfl ?_
        refine Tr.iald (pc := 13) d_X3_find_13 (ty_34 hS.1.1) (by omega) (by omega) ?_
        refine Tr.gen (P := fun v => (-2147483648) ≤ v ∧ v ≤ 2147483647) (ar_34 hS.1.2.1 _) (fun r13 er13 br13 => ?_)
        refine Tr.iload_n (pc := 14) (i := 1) d_X3_find_14 rfl rfl ?_
        refine Tr.icmp_ne (pc := 15) (tgt := 20) d_X3_find_15 rfl (fun c15 => ?_) (fun c15 => ?_)
        · refine Tr.iincV (pc := 20) (n2 := (p2_2 + 1)) (ls2 := [(2, (0, (p2_2 + 1))), (0, (2, 27)), (1, (0, a1))]) d_X3_find_20 rfl (by decide) ((w32_id (by omega)).trans (by omega)) rfl ?_
          refine Tr.goto (pc := 23) (tgt := 2) d_X3_find_23 rfl ?_
          refine Tr.pick [1, 2, 0] (ls2 := [(0, (2, 27)), (1, (0, a1)), (2, (0, (p2_2 + 1)))]) rfl ?_
          exact J2 _ _ hS (by omega) (by omega)
        · refine Tr.iload_n (pc := 18) (i := 2) d_X3_find_18 rfl rfl ?_
          exact Tr.iret (pc := 19) d_X3_find_19 rfl ⟨hS, _, rfl, by omega, by omega⟩
  refine Tr.pick [1, 2, 0] (ls2 := [(0, (2, 27)), (1, (0, a1)), (2, (0, 0))]) rfl ?_
  exact J2 _ _ _ hS (by omega) (Nat.lt_succ_self _)

def ws_X5_refuse_6 : List (Int × Int) := [(6, 0), (6, 1)]
def as_X5_refuse_6 : List Int := []
def q_X5_refuse_6 (M0 M' : Mem) (r : Option PV) : Prop := St Tru ws_X5_refuse_6 as_X5_refuse_6 M0 M' ∧ ∃ v : Int, r = some (0, v) ∧ 0 ≤ v ∧ v ≤ 0
set_option maxRecDepth 100000 in
set_option maxHeartbeats 4000000 in
theorem sp_X5_refuse_6 {l : Launch} {K : EC} {M0 : Mem} (hI : In Tru M0) (en_6_2 : rd M0 6 2 = 2) (a1 : Int) (ha1 : 2 ≤ a1 ∧ a1 ≤ 2)  : Tr l K 0 mX5_refuse 0 [(0, (2, 6)), (1, (0, a1))] [] M0 (q_X5_refuse_6 M0) := by
  have hS : St Tru ws_X5_refuse_6 as_X5_refuse_6 M0 M0 := St.rf hI
  refine Tr.aload_n (pc := 0) (i := 0) d_X5_refuse_0 rfl rfl ?_
  refine Tr.iload_n (pc := 1) (i := 1) d_X5_refuse_1 rfl rfl ?_
  refine Tr.tp 2 (by omega) ?_
  refine Tr.putfS (pc := 2) (P := St Tru ws_X5_refuse_6 as_X5_refuse_6 M0) d_X5_refuse_2 f_5_9 (by decide) (by decide) (ty_6 hS.1.1) (st_6_0 hS (by decide) (by omega) trivial) (fun M2 hS w2 => ?_)
  refine Tr.aload_n (pc := 5) (i := 0) d_X5_refuse_5 rfl rfl ?_
  refine Tr.aload_n (pc := 6) (i := 0) d_X5_refuse_6 rfl rfl ?_
  refine Tr.getf (pc := 7) d_X5_refuse_7 f_5_18 (by decide) (by decide) (ty_6 hS.1.1) ?_
  refine Tr.tp 2 ((St.kp hS (by decide) (by decide) (by decide)).trans en_6_2) ?_
  refine Tr.getf (pc := 10) d_X5_refuse_10 f_5_65 (by decide) (by decide) (ty_2 hS.1.1) ?_
  refine Tr.tp 4 (fx_2_1 hS.1.1) ?_
  refine Tr.aload_n (pc := 13) (i := 0) d_X5_refuse_13 rfl rfl ?_
  refine Tr.getf (pc := 14) d_X5_refuse_14 f_5_36 (by decide) (by decide) (ty_6 hS.1.1) ?_
  refine Tr.gen (P := fun v => 0 ≤ v ∧ v ≤ 900) (ir_6_5 hS.1.2.1) (fun r14 er14 br14 => ?_)
  refine Tr.iald (pc := 17) d_X5_refuse_17 (ty_4 hS.1.1) (by omega) (by omega) ?_
  refine Tr.gen (P := fun v => (-2147483648) ≤ v ∧ v ≤ 2147483647) (ar_4 hS.1.2.1 _) (fun r17 er17 br17 => ?_)
  refine Tr.putfS (pc := 18) (P := St Tru ws_X5_refuse_6 as_X5_refuse_6 M0) d_X5_refuse_18 f_5_15 (by decide) (by decide) (ty_6 hS.1.1) (st_6_1 hS (by decide) (by omega) trivial) (fun M18 hS w18 => ?_)
  refine Tr.iconst (pc := 21) d_X5_refuse_21 (by decide) ?_
  exact Tr.zret (pc := 22) d_X5_refuse_22 rfl (by omega) ⟨hS, _, rfl, by omega, by omega⟩

def ws_X5_refuse_6_w1 : List (Int × Int) := [(6, 0), (6, 1)]
def as_X5_refuse_6_w1 : List Int := []
def q_X5_refuse_6_w1 (M0 M' : Mem) (r : Option PV) : Prop := St Tru ws_X5_refuse_6_w1 as_X5_refuse_6_w1 M0 M' ∧ ∃ v : Int, r = some (0, v) ∧ 0 ≤ v ∧ v ≤ 0
set_option maxRecDepth 100000 in
set_option maxHeartbeats 4000000 in
theorem sp_X5_refuse_6_w1 {l : Launch} {K : EC} {M0 : Mem} (hI : In Tru M0) (en_6_2 : rd M0 6 2 = 2) (a1 : Int) (ha1 : 1 ≤ a1 ∧ a1 ≤ 1)  : Tr l K 0 mX5_refuse 0 [(0, (2, 6)), (1, (0, a1))] [] M0 (q_X5_refuse_6_w1 M0) := by
  have hS : St Tru ws_X5_refuse_6_w1 as_X5_refuse_6_w1 M0 M0 := St.rf hI
  refine Tr.aload_n (pc := 0) (i := 0) d_X5_refuse_0 rfl rfl ?_
  refine Tr.iload_n (pc := 1) (i := 1) d_X5_refuse_1 rfl rfl ?_
  refine Tr.tp 1 (by omega) ?_
  refine Tr.putfS (pc := 2) (P := St Tru ws_X5_refuse_6_w1 as_X5_refuse_6_w1 M0) d_X5_refuse_2 f_5_9 (by decide) (by decide) (ty_6 hS.1.1) (st_6_0 hS (by decide) (by omega) trivial) (fun M2 hS w2 => ?_)
  refine Tr.aload_n (pc := 5) (i := 0) d_X5_refuse_5 rfl rfl ?_
  refine Tr.aload_n (pc := 6) (i := 0) d_X5_refuse_6 rfl rfl ?_
  refine Tr.getf (pc := 7) d_X5_refuse_7 f_5_18 (by decide) (by decide) (ty_6 hS.1.1) ?_
  refine Tr.tp 2 ((St.kp hS (by decide) (by decide) (by decide)).trans en_6_2) ?_
  refine Tr.getf (pc := 10) d_X5_refuse_10 f_5_65 (by decide) (by decide) (ty_2 hS.1.1) ?_
  refine Tr.tp 4 (fx_2_1 hS.1.1) ?_
  refine Tr.aload_n (pc := 13) (i := 0) d_X5_refuse_13 rfl rfl ?_
  refine Tr.getf (pc := 14) d_X5_refuse_14 f_5_36 (by decide) (by decide) (ty_6 hS.1.1) ?_
  refine Tr.gen (P := fun v => 0 ≤ v ∧ v ≤ 900) (ir_6_5 hS.1.2.1) (fun r14 er14 br14 => ?_)
  refine Tr.iald (pc := 17) d_X5_refuse_17 (ty_4 hS.1.1) (by omega) (by omega) ?_
  refine Tr.gen (P := fun v => (-2147483648) ≤ v ∧ v ≤ 2147483647) (ar_4 hS.1.2.1 _) (fun r17 er17 br17 => ?_)
  refine Tr.putfS (pc := 18) (P := St Tru ws_X5_refuse_6_w1 as_X5_refuse_6_w1 M0) d_X5_refuse_18 f_5_15 (by decide) (by decide) (ty_6 hS.1.1) (st_6_1 hS (by decide) (by omega) trivial) (fun M18 hS w18 => ?_)
  refine Tr.iconst (pc := 21) d_X5_refuse_21 (by decide) ?_
  exact Tr.zret (pc := 22) d_X5_refuse_22 rfl (by omega) ⟨hS, _, rfl, by omega, by omega⟩

def ws_X5_refuse_6_w2 : List (Int × Int) := [(6, 0), (6, 1)]
def as_X5_refuse_6_w2 : List Int := []
def q_X5_refuse_6_w2 (M0 M' : Mem) (r : Option PV) : Prop := St Tru ws_X5_refuse_6_w2 as_X5_refuse_6_w2 M0 M' ∧ ∃ v : Int, r = some (0, v) ∧ 0 ≤ v ∧ v ≤ 0
set_option maxRecDepth 100000 in
set_option maxHeartbeats 4000000 in
theorem sp_X5_refuse_6_w2 {l : Launch} {K : EC} {M0 : Mem} (hI : In Tru M0) (en_6_2 : rd M0 6 2 = 2) (a1 : Int) (ha1 : 5 ≤ a1 ∧ a1 ≤ 5)  : Tr l K 0 mX5_refuse 0 [(0, (2, 6)), (1, (0, a1))] [] M0 (q_X5_refuse_6_w2 M0) := by
  have hS : St Tru ws_X5_refuse_6_w2 as_X5_refuse_6_w2 M0 M0 := St.rf hI
  refine Tr.aload_n (pc := 0) (i := 0) d_X5_refuse_0 rfl rfl ?_
  refine Tr.iload_n (pc := 1) (i := 1) d_X5_refuse_1 rfl rfl ?_
  refine Tr.tp 5 (by omega) ?_
  refine Tr.putfS (pc := 2) (P := St Tru ws_X5_refuse_6_w2 as_X5_refuse_6_w2 M0) d_X5_refuse_2 f_5_9 (by decide) (by decide) (ty_6 hS.1.1) (st_6_0 hS (by decide) (by omega) trivial) (fun M2 hS w2 => ?_)
  refine Tr.aload_n (pc := 5) (i := 0) d_X5_refuse_5 rfl rfl ?_
  refine Tr.aload_n (pc := 6) (i := 0) d_X5_refuse_6 rfl rfl ?_
  refine Tr.getf (pc := 7) d_X5_refuse_7 f_5_18 (by decide) (by decide) (ty_6 hS.1.1) ?_
  refine Tr.tp 2 ((St.kp hS (by decide) (by decide) (by decide)).trans en_6_2) ?_
  refine Tr.getf (pc := 10) d_X5_refuse_10 f_5_65 (by decide) (by decide) (ty_2 hS.1.1) ?_
  refine Tr.tp 4 (fx_2_1 hS.1.1) ?_
  refine Tr.aload_n (pc := 13) (i := 0) d_X5_refuse_13 rfl rfl ?_
  refine Tr.getf (pc := 14) d_X5_refuse_14 f_5_36 (by decide) (by decide) (ty_6 hS.1.1) ?_
  refine Tr.gen (P := fun v => 0 ≤ v ∧ v ≤ 900) (ir_6_5 hS.1.2.1) (fun r14 er14 br14 => ?_)
  refine Tr.iald (pc := 17) d_X5_refuse_17 (ty_4 hS.1.1) (by omega) (by omega) ?_
  refine Tr.gen (P := fun v => (-2147483648) ≤ v ∧ v ≤ 2147483647) (ar_4 hS.1.2.1 _) (fun r17 er17 br17 => ?_)
  refine Tr.putfS (pc := 18) (P := St Tru ws_X5_refuse_6_w2 as_X5_refuse_6_w2 M0) d_X5_refuse_18 f_5_15 (by decide) (by decide) (ty_6 hS.1.1) (st_6_1 hS (by decide) (by omega) trivial) (fun M18 hS w18 => ?_)
  refine Tr.iconst (pc := 21) d_X5_refuse_21 (by decide) ?_
  exact Tr.zret (pc := 22) d_X5_refuse_22 rfl (by omega) ⟨hS, _, rfl, by omega, by omega⟩

def ws_X5_isSign_6 : List (Int × Int) := []
def as_X5_isSign_6 : List Int := []
def q_X5_isSign_6 (M0 M' : Mem) (r : Option PV) : Prop := St Tru ws_X5_isSign_6 as_X5_isSign_6 M0 M' ∧ ∃ v : Int, r = some (0, v) ∧ 0 ≤ v ∧ v ≤ 1
set_option maxRecDepth 100000 in
set_option maxHeartbeats 4000000 in
theorem sp_X5_isSign_6 {l : Launch} {K : EC} {M0 : Mem} (hI : In Tru M0) (en_6_2 : rd M0 6 2 = 2) (a1 : Int) (ha1 : 59 ≤ a1 ∧ a1 ≤ 59)  : Tr l K 0 mX5_isSign 0 [(0, (2, 6)), (1, (0, a1))] [] M0 (q_X5_isSign_6 M0) := by
  have hS : St Tru ws_X5_isSign_6 as_X5_isSign_6 M0 M0 := St.rf hI
  refine Tr.aload_n (pc := 0) (i := 0) d_X5_isSign_0 rfl rfl ?_
  refine Tr.getf (pc := 1) d_X5_isSign_1 f_5_18 (by decide) (by decide) (ty_6 hS.1.1) ?_
  refine Tr.tp 2 ((St.kp hS (by decide) (by decide) (by decide)).trans en_6_2) ?_
  refine Tr.getf (pc := 4) d_X5_isSign_4 f_5_50 (by decide) (by decide) (ty_2 hS.1.1) ?_
  refine Tr.tp 3 (fx_2_0 hS.1.1) ?_
  refine Tr.aload_n (pc := 7) (i := 0) d_X5_isSign_7 rfl rfl ?_
  refine Tr.getf (pc := 8) d_X5_isSign_8 f_5_36 (by decide) (by decide) (ty_6 hS.1.1) ?_
  refine Tr.gen (P := fun v => 0 ≤ v ∧ v ≤ 900) (ir_6_5 hS.1.2.1) (fun r8 er8 br8 => ?_)
  refine Tr.iald (pc := 11) d_X5_isSign_11 (ty_3 hS.1.1) (by omega) (by omega) ?_
  refine Tr.gen (P := fun v => (-2147483648) ≤ v ∧ v ≤ 2147483647) (ar_3 hS.1.2.1 _) (fun r11 er11 br11 => ?_)
  refine Tr.iconst (pc := 12) d_X5_isSign_12 (by decide) ?_
  refine Tr.icmp_ne (pc := 13) (tgt := 36) d_X5_isSign_13 rfl (fun c13 => ?_) (fun c13 => ?_)
  · refine Tr.iconst (pc := 36) d_X5_isSign_36 (by decide) ?_
    exact Tr.zret (pc := 37) d_X5_isSign_37 rfl (by omega) ⟨hS, _, rfl, by omega, by omega⟩
  · refine Tr.aload_n (pc := 16) (i := 0) d_X5_isSign_16 rfl rfl ?_
    refine Tr.getf (pc := 17) d_X5_isSign_17 f_5_18 (by decide) (by decide) (ty_6 hS.1.1) ?_
    refine Tr.tp 2 ((St.kp hS (by decide) (by decide) (by decide)).trans en_6_2) ?_
    refine Tr.getf (pc := 20) d_X5_isSign_20 f_5_68 (by decide) (by decide) (ty_2 hS.1.1) ?_
    refine Tr.tp 5 (fx_2_2 hS.1.1) ?_
    refine Tr.aload_n (pc := 23) (i := 0) d_X5_isSign_23 rfl rfl ?_
    refine Tr.getf (pc := 24) d_X5_isSign_24 f_5_36 (by decide) (by decide) (ty_6 hS.1.1) ?_
    refine Tr.tp r8 er8 ?_
    refine Tr.iald (pc := 27) d_X5_isSign_27 (ty_5 hS.1.1) (by omega) (by omega) ?_
    refine Tr.gen (P := fun v => (-2147483648) ≤ v ∧ v ≤ 2147483647) (ar_5 hS.1.2.1 _) (fun r27 er27 br27 => ?_)
    refine Tr.iload_n (pc := 28) (i := 1) d_X5_isSign_28 rfl rfl ?_
    refine Tr.tp 59 (by omega) ?_
    refine Tr.icmp_ne (pc := 29) (tgt := 36) d_X5_isSign_29 rfl (fun c29 => ?_) (fun c29 => ?_)
    · refine Tr.iconst (pc := 36) d_X5_isSign_36 (by decide) ?_
      exact Tr.zret (pc := 37) d_X5_isSign_37 rfl (by omega) ⟨hS, _, rfl, by omega, by omega⟩
    · refine Tr.iconst (pc := 32) d_X5_isSign_32 (by decide) ?_
      refine Tr.goto (pc := 33) (tgt := 37) d_X5_isSign_33 rfl ?_
      exact Tr.zret (pc := 37) d_X5_isSign_37 rfl (by omega) ⟨hS, _, rfl, by omega, by omega⟩

def ws_X5_takeSign_6 : List (Int × Int) := [(6, 0), (6, 1), (6, 5)]
def as_X5_takeSign_6 : List Int := []
def q_X5_takeSign_6 (M0 M' : Mem) (r : Option PV) : Prop := St Tru ws_X5_takeSign_6 as_X5_takeSign_6 M0 M' ∧ ∃ v : Int, r = some (0, v) ∧ 0 ≤ v ∧ v ≤ 1
set_option maxRecDepth 100000 in
set_option maxHeartbeats 4000000 in
theorem sp_X5_takeSign_6 {l : Launch} {K : EC} {M0 : Mem} (hI : In Tru M0) (en_6_2 : rd M0 6 2 = 2) (a1 : Int) (ha1 : 59 ≤ a1 ∧ a1 ≤ 59)  : Tr l K 1 mX5_takeSign 0 [(0, (2, 6)), (1, (0, a1))] [] M0 (q_X5_takeSign_6 M0) := by
  have hS : St Tru ws_X5_takeSign_6 as_X5_takeSign_6 M0 M0 := St.rf hI
  refine Tr.aload_n (pc := 0) (i := 0) d_X5_takeSign_0 rfl rfl ?_
  refine Tr.iload_n (pc := 1) (i := 1) d_X5_takeSign_1 rfl rfl ?_
  refine Tr.tp 59 (by omega) ?_
  refine Tr.callV (pc := 2) (as := [_]) d_X5_takeSign_2 s_5_77 ok_X5_isSign rfl rfl (Nat.le_of_ble_eq_true rfl) (Nat.le_of_ble_eq_true rfl) (by decide) (ty_6 hS.1.1) ?_
  refine Tr.imp (Tr.deep (by decide) (sp_X5_isSign_6 hS.1 ((St.kp hS (by decide) (by decide) (by decide)).trans en_6_2) 59 (by omega))) ?_
  rintro M2 _ ⟨h2, r2, rfl, lr2, ur2⟩
  have hS := St.tr hS h2 (by decide) (by decide)
  refine Tr.sc [(0, r2)] rfl ?_
  refine Tr.if_eq (pc := 5) (tgt := 15) d_X5_takeSign_5 rfl (fun c5 => ?_) (fun c5 => ?_)
  · refine Tr.aload_n (pc := 15) (i := 0) d_X5_takeSign_15 rfl rfl ?_
    refine Tr.iconst (pc := 16) d_X5_takeSign_16 (by decide) ?_
    refine Tr.callV (pc := 17) (as := [_]) d_X5_takeSign_17 s_5_56 ok_X5_refuse rfl rfl (Nat.le_of_ble_eq_true rfl) (Nat.le_of_ble_eq_true rfl) (by decide) (ty_6 hS.1.1) ?_
    refine Tr.imp (Tr.deep (by decide) (sp_X5_refuse_6_w1 hS.1 ((St.kp hS (by decide) (by decide) (by decide)).trans en_6_2) 1 (by omega))) ?_
    rintro M17 _ ⟨h17, r17, rfl, lr17, ur17⟩
    have hS := St.tr hS h17 (by decide) (by decide)
    refine Tr.sc [(0, r17)] rfl ?_
    exact Tr.zret (pc := 20) d_X5_takeSign_20 rfl (by omega) ⟨hS, _, rfl, by omega, by omega⟩
  · refine Tr.aload_n (pc := 8) (i := 0) d_X5_takeSign_8 rfl rfl ?_
    refine Tr.callV (pc := 9) (as := []) d_X5_takeSign_9 s_5_74 ok_X5_goOn rfl rfl (Nat.le_of_ble_eq_true rfl) (Nat.le_of_ble_eq_true rfl) (by decide) (ty_6 hS.1.1) ?_
    refine Tr.imp (Tr.deep (by decide) (sp_X5_goOn_6 hS.1 )) ?_
    rintro M9 _ ⟨h9, r9, rfl, lr9, ur9⟩
    have hS := St.tr hS h9 (by decide) (by decide)
    refine Tr.sc [(0, r9)] rfl ?_
    refine Tr.goto (pc := 12) (tgt := 20) d_X5_takeSign_12 rfl ?_
    exact Tr.zret (pc := 20) d_X5_takeSign_20 rfl (by omega) ⟨hS, _, rfl, by omega, by omega⟩

def ws_X5_refuse_6_w3 : List (Int × Int) := [(6, 0), (6, 1)]
def as_X5_refuse_6_w3 : List Int := []
def q_X5_refuse_6_w3 (M0 M' : Mem) (r : Option PV) : Prop := St Tru ws_X5_refuse_6_w3 as_X5_refuse_6_w3 M0 M' ∧ ∃ v : Int, r = some (0, v) ∧ 0 ≤ v ∧ v ≤ 0
set_option maxRecDepth 100000 in
set_option maxHeartbeats 4000000 in
theorem sp_X5_refuse_6_w3 {l : Launch} {K : EC} {M0 : Mem} (hI : In Tru M0) (en_6_2 : rd M0 6 2 = 2) (a1 : Int) (ha1 : 3 ≤ a1 ∧ a1 ≤ 5)  : Tr l K 0 mX5_refuse 0 [(0, (2, 6)), (1, (0, a1))] [] M0 (q_X5_refuse_6_w3 M0) := by
  have hS : St Tru ws_X5_refuse_6_w3 as_X5_refuse_6_w3 M0 M0 := St.rf hI
  refine Tr.aload_n (pc := 0) (i := 0) d_X5_refuse_0 rfl rfl ?_
  refine Tr.iload_n (pc := 1) (i := 1) d_X5_refuse_1 rfl rfl ?_
  refine Tr.putfS (pc := 2) (P := St Tru ws_X5_refuse_6_w3 as_X5_refuse_6_w3 M0) d_X5_refuse_2 f_5_9 (by decide) (by decide) (ty_6 hS.1.1) (st_6_0 hS (by decide) (by omega) trivial) (fun M2 hS w2 => ?_)
  refine Tr.aload_n (pc := 5) (i := 0) d_X5_refuse_5 rfl rfl ?_
  refine Tr.aload_n (pc := 6) (i := 0) d_X5_refuse_6 rfl rfl ?_
  refine Tr.getf (pc := 7) d_X5_refuse_7 f_5_18 (by decide) (by decide) (ty_6 hS.1.1) ?_
  refine Tr.tp 2 ((St.kp hS (by decide) (by decide) (by decide)).trans en_6_2) ?_
  refine Tr.getf (pc := 10) d_X5_refuse_10 f_5_65 (by decide) (by decide) (ty_2 hS.1.1) ?_
  refine Tr.tp 4 (fx_2_1 hS.1.1) ?_
  refine Tr.aload_n (pc := 13) (i := 0) d_X5_refuse_13 rfl rfl ?_
  refine Tr.getf (pc := 14) d_X5_refuse_14 f_5_36 (by decide) (by decide) (ty_6 hS.1.1) ?_
  refine Tr.gen (P := fun v => 0 ≤ v ∧ v ≤ 900) (ir_6_5 hS.1.2.1) (fun r14 er14 br14 => ?_)
  refine Tr.iald (pc := 17) d_X5_refuse_17 (ty_4 hS.1.1) (by omega) (by omega) ?_
  refine Tr.gen (P := fun v => (-2147483648) ≤ v ∧ v ≤ 2147483647) (ar_4 hS.1.2.1 _) (fun r17 er17 br17 => ?_)
  refine Tr.putfS (pc := 18) (P := St Tru ws_X5_refuse_6_w3 as_X5_refuse_6_w3 M0) d_X5_refuse_18 f_5_15 (by decide) (by decide) (ty_6 hS.1.1) (st_6_1 hS (by decide) (by omega) trivial) (fun M18 hS w18 => ?_)
  refine Tr.iconst (pc := 21) d_X5_refuse_21 (by decide) ?_
  exact Tr.zret (pc := 22) d_X5_refuse_22 rfl (by omega) ⟨hS, _, rfl, by omega, by omega⟩

def ws_X5_takeNumber_6 : List (Int × Int) := [(6, 0), (6, 1), (6, 5)]
def as_X5_takeNumber_6 : List Int := []
def q_X5_takeNumber_6 (M0 M' : Mem) (r : Option PV) : Prop := St Tru ws_X5_takeNumber_6 as_X5_takeNumber_6 M0 M' ∧ ∃ v : Int, r = some (0, v) ∧ (-1) ≤ v ∧ v ≤ 99
set_option maxRecDepth 100000 in
set_option maxHeartbeats 4000000 in
theorem sp_X5_takeNumber_6 {l : Launch} {K : EC} {M0 : Mem} (hI : In Tru M0) (en_6_2 : rd M0 6 2 = 2) (a1 : Int) (ha1 : 0 ≤ a1 ∧ a1 ≤ 0) (a2 : Int) (ha2 : 99 ≤ a2 ∧ a2 ≤ 99)  : Tr l K 1 mX5_takeNumber 0 [(0, (2, 6)), (1, (0, a1)), (2, (0, a2))] [] M0 (q_X5_takeNumber_6 M0) := by
  have hS : St Tru ws_X5_takeNumber_6 as_X5_takeNumber_6 M0 M0 := St.rf hI
  refine Tr.aload_n (pc := 0) (i := 0) d_X5_takeNumber_0 rfl rfl ?_
  refine Tr.getf (pc := 1) d_X5_takeNumber_1 f_5_18 (by decide) (by decide) (ty_6 hS.1.1) ?_
  refine Tr.tp 2 ((St.kp hS (by decide) (by decide) (by decide)).trans en_6_2) ?_
  refine Tr.getf (pc := 4) d_X5_takeNumber_4 f_5_50 (by decide) (by decide) (ty_2 hS.1.1) ?_
  refine Tr.tp 3 (fx_2_0 hS.1.1) ?_
  refine Tr.aload_n (pc := 7) (i := 0) d_X5_takeNumber_7 rfl rfl ?_
  refine Tr.getf (pc := 8) d_X5_takeNumber_8 f_5_36 (by decide) (by decide) (ty_6 hS.1.1) ?_
  refine Tr.gen (P := fun v => 0 ≤ v ∧ v ≤ 900) (ir_6_5 hS.1.2.1) (fun r8 er8 br8 => ?_)
  refine Tr.iald (pc := 11) d_X5_takeNumber_11 (ty_3 hS.1.1) (by omega) (by omega) ?_
  refine Tr.gen (P := fun v => (-2147483648) ≤ v ∧ v ≤ 2147483647) (ar_3 hS.1.2.1 _) (fun r11 er11 br11 => ?_)
  refine Tr.iconst (pc := 12) d_X5_takeNumber_12 (by decide) ?_
  refine Tr.icmp_eq (pc := 13) (tgt := 24) d_X5_takeNumber_13 rfl (fun c13 => ?_) (fun c13 => ?_)
  · refine Tr.aload_n (pc := 24) (i := 0) d_X5_takeNumber_24 rfl rfl ?_
    refine Tr.getf (pc := 25) d_X5_takeNumber_25 f_5_18 (by decide) (by decide) (ty_6 hS.1.1) ?_
    refine Tr.tp 2 ((St.kp hS (by decide) (by decide) (by decide)).trans en_6_2) ?_
    refine Tr.getf (pc := 28) d_X5_takeNumber_28 f_5_68 (by decide) (by decide) (ty_2 hS.1.1) ?_
    refine Tr.tp 5 (fx_2_2 hS.1.1) ?_
    refine Tr.aload_n (pc := 31) (i := 0) d_X5_takeNumber_31 rfl rfl ?_
    refine Tr.getf (pc := 32) d_X5_takeNumber_32 f_5_36 (by decide) (by decide) (ty_6 hS.1.1) ?_
    refine Tr.tp r8 er8 ?_
    refine Tr.iald (pc := 35) d_X5_takeNumber_35 (ty_5 hS.1.1) (by omega) (by omega) ?_
    refine Tr.gen (P := fun v => (-2147483648) ≤ v ∧ v ≤ 2147483647) (ar_5 hS.1.2.1 _) (fun r35 er35 br35 => ?_)
    refine Tr.istore_n (pc := 36) (i := 3) (ls2 := [(3, (0, r35)), (0, (2, 6)), (1, (0, a1)), (2, (0, a2))]) d_X5_takeNumber_36 rfl (by decide) rfl ?_
    refine Tr.iload_n (pc := 37) (i := 3) d_X5_takeNumber_37 rfl rfl ?_
    refine Tr.iload_n (pc := 38) (i := 1) d_X5_takeNumber_38 rfl rfl ?_
    refine Tr.tp 0 (by omega) ?_
    have J47 : ∀ (M : Mem), St Tru ws_X5_takeNumber_6 as_X5_takeNumber_6 M0 M → rd M 3 r8 = r11 → rd M 5 r8 = r35 → rd M 6 5 = r8 → Tr l K 1 mX5_takeNumber 47 [(0, (2, 6))] [] M (q_X5_takeNumber_6 M0) := by
      intro M  hS  k47_3_r810 k47_5_r810 k47_6_5
      refine Tr.aload_n (pc := 47) (i := 0) d_X5_takeNumber_47 rfl rfl ?_
      refine Tr.iconst (pc := 48) d_X5_takeNumber_48 (by decide) ?_
      refine Tr.callV (pc := 49) (as := [_]) d_X5_takeNumber_49 s_5_56 ok_X5_refuse rfl rfl (Nat.le_of_ble_eq_true rfl) (Nat.le_of_ble_eq_true rfl) (by decide) (ty_6 hS.1.1) ?_
      refine Tr.imp (Tr.deep (by decide) (sp_X5_refuse_6_w3 hS.1 ((St.kp hS (by decide) (by decide) (by decide)).trans en_6_2) 4 (by omega))) ?_
      rintro M49 _ ⟨h49, r49, rfl, lr49, ur49⟩
      have hS := St.tr hS h49 (by decide) (by decide)
      refine Tr.sc [(0, r49)] rfl ?_
      refine Tr.pop (pc := 52) d_X5_takeNumber_52 ne01 ?_
      refine Tr.iconst (pc := 53) d_X5_takeNumber_53 (by decide) ?_
      exact Tr.iret (pc := 54) d_X5_takeNumber_54 rfl ⟨hS, _, rfl, by omega, by omega⟩
    refine Tr.icmp_lt (pc := 39) (tgt := 47) d_X5_takeNumber_39 rfl (fun c39 => ?_) (fun c39 => ?_)
    · refine Tr.pick [1] (ls2 := [(0, (2, 6))]) rfl ?_
      exact J47 _ hS er11 er35 er8
    · refine Tr.iload_n (pc := 42) (i := 3) d_X5_takeNumber_42 rfl rfl ?_
      refine Tr.iload_n (pc := 43) (i := 2) d_X5_takeNumber_43 rfl rfl ?_
      refine Tr.tp 99 (by omega) ?_
      refine Tr.icmp_le (pc := 44) (tgt := 55) d_X5_takeNumber_44 rfl (fun c44 => ?_) (fun c44 => ?_)
      · refine Tr.aload_n (pc := 55) (i := 0) d_X5_takeNumber_55 rfl rfl ?_
        refine Tr.callV (pc := 56) (as := []) d_X5_takeNumber_56 s_5_74 ok_X5_goOn rfl rfl (Nat.le_of_ble_eq_true rfl) (Nat.le_of_ble_eq_true rfl) (by decide) (ty_6 hS.1.1) ?_
        refine Tr.imp (Tr.deep (by decide) (sp_X5_goOn_6 hS.1 )) ?_
        rintro M56 _ ⟨h56, r56, rfl, lr56, ur56⟩
        have hS := St.tr hS h56 (by decide) (by decide)
        refine Tr.sc [(0, r56)] rfl ?_
        refine Tr.pop (pc := 59) d_X5_takeNumber_59 ne01 ?_
        refine Tr.iload_n (pc := 60) (i := 3) d_X5_takeNumber_60 rfl rfl ?_
        exact Tr.iret (pc := 61) d_X5_takeNumber_61 rfl ⟨hS, _, rfl, by omega, by omega⟩
      · refine Tr.pick [1] (ls2 := [(0, (2, 6))]) rfl ?_
        exact J47 _ hS er11 er35 er8
  · refine Tr.aload_n (pc := 16) (i := 0) d_X5_takeNumber_16 rfl rfl ?_
    refine Tr.iconst (pc := 17) d_X5_takeNumber_17 (by decide) ?_
    refine Tr.callV (pc := 18) (as := [_]) d_X5_takeNumber_18 s_5_56 ok_X5_refuse rfl rfl (Nat.le_of_ble_eq_true rfl) (Nat.le_of_ble_eq_true rfl) (by decide) (ty_6 hS.1.1) ?_
    refine Tr.imp (Tr.deep (by decide) (sp_X5_refuse_6_w1 hS.1 ((St.kp hS (by decide) (by decide) (by decide)).trans en_6_2) 1 (by omega))) ?_
    rintro M18 _ ⟨h18, r18, rfl, lr18, ur18⟩
    have hS := St.tr hS h18 (by decide) (by decide)
    refine Tr.sc [(0, r18)] rfl ?_
    refine Tr.pop (pc := 21) d_X5_takeNumber_21 ne01 ?_
    refine Tr.iconst (pc := 22) d_X5_takeNumber_22 (by decide) ?_
    exact Tr.iret (pc := 23) d_X5_takeNumber_23 rfl ⟨hS, _, rfl, by omega, by omega⟩

def ws_X5_takeNumber_6_w1 : List (Int × Int) := [(6, 0), (6, 1), (6, 5)]
def as_X5_takeNumber_6_w1 : List Int := []
def q_X5_takeNumber_6_w1 (M0 M' : Mem) (r : Option PV) : Prop := St Tru ws_X5_takeNumber_6_w1 as_X5_takeNumber_6_w1 M0 M' ∧ ∃ v : Int, r = some (0, v) ∧ (-1) ≤ v ∧ v ≤ 99
set_option maxRecDepth 100000 in
set_option maxHeartbeats 4000000 in
theorem sp_X5_takeNumber_6_w1 {l : Launch} {K : EC} {M0 : Mem} (hI : In Tru M0) (en_6_2 : rd M0 6 2 = 2) (a1 : Int) (ha1 : 0 ≤ a1 ∧ a1 ≤ 99) (a2 : Int) (ha2 : 99 ≤ a2 ∧ a2 ≤ 99)  : Tr l K 1 mX5_takeNumber 0 [(0, (2, 6)), (1, (0, a1)), (2, (0, a2))] [] M0 (q_X5_takeNumber_6_w1 M0) := by
  have hS : St Tru ws_X5_takeNumber_6_w1 as_X5_takeNumber_6_w1 M0 M0 := St.rf hI
  refine Tr.aload_n (pc := 0) (i := 0) d_X5_takeNumber_0 rfl rfl ?_
  refine Tr.getf (pc := 1) d_X5_takeNumber_1 f_5_18 (by decide) (by decide) (ty_6 hS.1.1) ?_
  refine Tr.tp 2 ((St.kp hS (by decide) (by decide) (by decide)).trans en_6_2) ?_
  refine Tr.getf (pc := 4) d_X5_takeNumber_4 f_5_50 (by decide) (by decide) (ty_2 hS.1.1) ?_
  refine Tr.tp 3 (fx_2_0 hS.1.1) ?_
  refine Tr.aload_n (pc := 7) (i := 0) d_X5_takeNumber_7 rfl rfl ?_
  refine Tr.getf (pc := 8) d_X5_takeNumber_8 f_5_36 (by decide) (by decide) (ty_6 hS.1.1) ?_
  refine Tr.gen (P := fun v => 0 ≤ v ∧ v ≤ 900) (ir_6_5 hS.1.2.1) (fun r8 er8 br8 => ?_)
  refine Tr.iald (pc := 11) d_X5_takeNumber_11 (ty_3 hS.1.1) (by omega) (by omega) ?_
  refine Tr.gen (P := fun v => (-2147483648) ≤ v ∧ v ≤ 2147483647) (ar_3 hS.1.2.1 _) (fun r11 er11 br11 => ?_)
  refine Tr.iconst (pc := 12) d_X5_takeNumber_12 (by decide) ?_
  refine Tr.icmp_eq (pc := 13) (tgt := 24) d_X5_takeNumber_13 rfl (fun c13 => ?_) (fun c13 => ?_)
  · refine Tr.aload_n (pc := 24) (i := 0) d_X5_takeNumber_24 rfl rfl ?_
    refine Tr.getf (pc := 25) d_X5_takeNumber_25 f_5_18 (by decide) (by decide) (ty_6 hS.1.1) ?_
    refine Tr.tp 2 ((St.kp hS (by decide) (by decide) (by decide)).trans en_6_2) ?_
    refine Tr.getf (pc := 28) d_X5_takeNumber_28 f_5_68 (by decide) (by decide) (ty_2 hS.1.1) ?_
    refine Tr.tp 5 (fx_2_2 hS.1.1) ?_
    refine Tr.aload_n (pc := 31) (i := 0) d_X5_takeNumber_31 rfl rfl ?_
    refine Tr.getf (pc := 32) d_X5_takeNumber_32 f_5_36 (by decide) (by decide) (ty_6 hS.1.1) ?_
    refine Tr.tp r8 er8 ?_
    refine Tr.iald (pc := 35) d_X5_takeNumber_35 (ty_5 hS.1.1) (by omega) (by omega) ?_
    refine Tr.gen (P := fun v => (-2147483648) ≤ v ∧ v ≤ 2147483647) (ar_5 hS.1.2.1 _) (fun r35 er35 br35 => ?_)
    refine Tr.istore_n (pc := 36) (i := 3) (ls2 := [(3, (0, r35)), (0, (2, 6)), (1, (0, a1)), (2, (0, a2))]) d_X5_takeNumber_36 rfl (by decide) rfl ?_
    refine Tr.iload_n (pc := 37) (i := 3) d_X5_takeNumber_37 rfl rfl ?_
    refine Tr.iload_n (pc := 38) (i := 1) d_X5_takeNumber_38 rfl rfl ?_
    have J47 : ∀ (M : Mem), St Tru ws_X5_takeNumber_6_w1 as_X5_takeNumber_6_w1 M0 M → rd M 3 r8 = r11 → rd M 5 r8 = r35 → rd M 6 5 = r8 → Tr l K 1 mX5_takeNumber 47 [(0, (2, 6))] [] M (q_X5_takeNumber_6_w1 M0) := by
      intro M  hS  k47_3_r810 k47_5_r810 k47_6_5
      refine Tr.aload_n (pc := 47) (i := 0) d_X5_takeNumber_47 rfl rfl ?_
      refine Tr.iconst (pc := 48) d_X5_takeNumber_48 (by decide) ?_
      refine Tr.callV (pc := 49) (as := [_]) d_X5_takeNumber_49 s_5_56 ok_X5_refuse rfl rfl (Nat.le_of_ble_eq_true rfl) (Nat.le_of_ble_eq_true rfl) (by decide) (ty_6 hS.1.1) ?_
      refine Tr.imp (Tr.deep (by decide) (sp_X5_refuse_6_w3 hS.1 ((St.kp hS (by decide) (by decide) (by decide)).trans en_6_2) 4 (by omega))) ?_
      rintro M49 _ ⟨h49, r49, rfl, lr49, ur49⟩
      have hS := St.tr hS h49 (by decide) (by decide)
      refine Tr.sc [(0, r49)] rfl ?_
      refine Tr.pop (pc := 52) d_X5_takeNumber_52 ne01 ?_
      refine Tr.iconst (pc := 53) d_X5_takeNumber_53 (by decide) ?_
      exact Tr.iret (pc := 54) d_X5_takeNumber_54 rfl ⟨hS, _, rfl, by omega, by omega⟩
    refine Tr.icmp_lt (pc := 39) (tgt := 47) d_X5_takeNumber_39 rfl (fun c39 => ?_) (fun c39 => ?_)
    · refine Tr.pick [1] (ls2 := [(0, (2, 6))]) rfl ?_
      exact J47 _ hS er11 er35 er8
    · refine Tr.iload_n (pc := 42) (i := 3) d_X5_takeNumber_42 rfl rfl ?_
      refine Tr.iload_n (pc := 43) (i := 2) d_X5_takeNumber_43 rfl rfl ?_
      refine Tr.tp 99 (by omega) ?_
      refine Tr.icmp_le (pc := 44) (tgt := 55) d_X5_takeNumber_44 rfl (fun c44 => ?_) (fun c44 => ?_)
      · refine Tr.aload_n (pc := 55) (i := 0) d_X5_takeNumber_55 rfl rfl ?_
        refine Tr.callV (pc := 56) (as := []) d_X5_takeNumber_56 s_5_74 ok_X5_goOn rfl rfl (Nat.le_of_ble_eq_true rfl) (Nat.le_of_ble_eq_true rfl) (by decide) (ty_6 hS.1.1) ?_
        refine Tr.imp (Tr.deep (by decide) (sp_X5_goOn_6 hS.1 )) ?_
        rintro M56 _ ⟨h56, r56, rfl, lr56, ur56⟩
        have hS := St.tr hS h56 (by decide) (by decide)
        refine Tr.sc [(0, r56)] rfl ?_
        refine Tr.pop (pc := 59) d_X5_takeNumber_59 ne01 ?_
        refine Tr.iload_n (pc := 60) (i := 3) d_X5_takeNumber_60 rfl rfl ?_
        exact Tr.iret (pc := 61) d_X5_takeNumber_61 rfl ⟨hS, _, rfl, by omega, by omega⟩
      · refine Tr.pick [1] (ls2 := [(0, (2, 6))]) rfl ?_
        exact J47 _ hS er11 er35 er8
  · refine Tr.aload_n (pc := 16) (i := 0) d_X5_takeNumber_16 rfl rfl ?_
    refine Tr.iconst (pc := 17) d_X5_takeNumber_17 (by decide) ?_
    refine Tr.callV (pc := 18) (as := [_]) d_X5_takeNumber_18 s_5_56 ok_X5_refuse rfl rfl (Nat.le_of_ble_eq_true rfl) (Nat.le_of_ble_eq_true rfl) (by decide) (ty_6 hS.1.1) ?_
    refine Tr.imp (Tr.deep (by decide) (sp_X5_refuse_6_w1 hS.1 ((St.kp hS (by decide) (by decide) (by decide)).trans en_6_2) 1 (by omega))) ?_
    rintro M18 _ ⟨h18, r18, rfl, lr18, ur18⟩
    have hS := St.tr hS h18 (by decide) (by decide)
    refine Tr.sc [(0, r18)] rfl ?_
    refine Tr.pop (pc := 21) d_X5_takeNumber_21 ne01 ?_
    refine Tr.iconst (pc := 22) d_X5_takeNumber_22 (by decide) ?_
    exact Tr.iret (pc := 23) d_X5_takeNumber_23 rfl ⟨hS, _, rfl, by omega, by omega⟩

def ws_X5_isOwn_6 : List (Int × Int) := []
def as_X5_isOwn_6 : List Int := []
def q_X5_isOwn_6 (M0 M' : Mem) (r : Option PV) : Prop := St Tru ws_X5_isOwn_6 as_X5_isOwn_6 M0 M' ∧ ∃ v : Int, r = some (0, v) ∧ 0 ≤ v ∧ v ≤ 1
set_option maxRecDepth 100000 in
set_option maxHeartbeats 4000000 in
theorem sp_X5_isOwn_6 {l : Launch} {K : EC} {M0 : Mem} (hI : In Tru M0) (en_6_2 : rd M0 6 2 = 2) (a1 : Int) (ha1 : 10 ≤ a1 ∧ a1 ≤ 15)  : Tr l K 0 mX5_isOwn 0 [(0, (2, 6)), (1, (0, a1))] [] M0 (q_X5_isOwn_6 M0) := by
  have hS : St Tru ws_X5_isOwn_6 as_X5_isOwn_6 M0 M0 := St.rf hI
  refine Tr.aload_n (pc := 0) (i := 0) d_X5_isOwn_0 rfl rfl ?_
  refine Tr.getf (pc := 1) d_X5_isOwn_1 f_5_18 (by decide) (by decide) (ty_6 hS.1.1) ?_
  refine Tr.tp 2 ((St.kp hS (by decide) (by decide) (by decide)).trans en_6_2) ?_
  refine Tr.getf (pc := 4) d_X5_isOwn_4 f_5_50 (by decide) (by decide) (ty_2 hS.1.1) ?_
  refine Tr.tp 3 (fx_2_0 hS.1.1) ?_
  refine Tr.aload_n (pc := 7) (i := 0) d_X5_isOwn_7 rfl rfl ?_
  refine Tr.getf (pc := 8) d_X5_isOwn_8 f_5_36 (by decide) (by decide) (ty_6 hS.1.1) ?_
  refine Tr.gen (P := fun v => 0 ≤ v ∧ v ≤ 900) (ir_6_5 hS.1.2.1) (fun r8 er8 br8 => ?_)
  refine Tr.iald (pc := 11) d_X5_isOwn_11 (ty_3 hS.1.1) (by omega) (by omega) ?_
  refine Tr.gen (P := fun v => (-2147483648) ≤ v ∧ v ≤ 2147483647) (ar_3 hS.1.2.1 _) (fun r11 er11 br11 => ?_)
  refine Tr.iconst (pc := 12) d_X5_isOwn_12 (by decide) ?_
  refine Tr.icmp_ne (pc := 13) (tgt := 36) d_X5_isOwn_13 rfl (fun c13 => ?_) (fun c13 => ?_)
  · refine Tr.iconst (pc := 36) d_X5_isOwn_36 (by decide) ?_
    exact Tr.zret (pc := 37) d_X5_isOwn_37 rfl (by omega) ⟨hS, _, rfl, by omega, by omega⟩
  · refine Tr.aload_n (pc := 16) (i := 0) d_X5_isOwn_16 rfl rfl ?_
    refine Tr.getf (pc := 17) d_X5_isOwn_17 f_5_18 (by decide) (by decide) (ty_6 hS.1.1) ?_
    refine Tr.tp 2 ((St.kp hS (by decide) (by decide) (by decide)).trans en_6_2) ?_
    refine Tr.getf (pc := 20) d_X5_isOwn_20 f_5_68 (by decide) (by decide) (ty_2 hS.1.1) ?_
    refine Tr.tp 5 (fx_2_2 hS.1.1) ?_
    refine Tr.aload_n (pc := 23) (i := 0) d_X5_isOwn_23 rfl rfl ?_
    refine Tr.getf (pc := 24) d_X5_isOwn_24 f_5_36 (by decide) (by decide) (ty_6 hS.1.1) ?_
    refine Tr.tp r8 er8 ?_
    refine Tr.iald (pc := 27) d_X5_isOwn_27 (ty_5 hS.1.1) (by omega) (by omega) ?_
    refine Tr.gen (P := fun v => (-2147483648) ≤ v ∧ v ≤ 2147483647) (ar_5 hS.1.2.1 _) (fun r27 er27 br27 => ?_)
    refine Tr.iload_n (pc := 28) (i := 1) d_X5_isOwn_28 rfl rfl ?_
    refine Tr.icmp_ne (pc := 29) (tgt := 36) d_X5_isOwn_29 rfl (fun c29 => ?_) (fun c29 => ?_)
    · refine Tr.iconst (pc := 36) d_X5_isOwn_36 (by decide) ?_
      exact Tr.zret (pc := 37) d_X5_isOwn_37 rfl (by omega) ⟨hS, _, rfl, by omega, by omega⟩
    · refine Tr.iconst (pc := 32) d_X5_isOwn_32 (by decide) ?_
      refine Tr.goto (pc := 33) (tgt := 37) d_X5_isOwn_33 rfl ?_
      exact Tr.zret (pc := 37) d_X5_isOwn_37 rfl (by omega) ⟨hS, _, rfl, by omega, by omega⟩
