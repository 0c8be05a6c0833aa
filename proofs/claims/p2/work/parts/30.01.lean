def ws_X1_paysAsLast_56 : List (Int × Int) := []
def as_X1_paysAsLast_56 : List Int := []
def q_X1_paysAsLast_56 (M0 M' : Mem) (r : Option PV) : Prop := St Tru ws_X1_paysAsLast_56 as_X1_paysAsLast_56 M0 M' ∧ ∃ v : Int, r = some (0, v) ∧ (-2147483648) ≤ v ∧ v ≤ 2147483647
set_option maxRecDepth 100000 in
set_option maxHeartbeats 4000000 in
theorem sp_X1_paysAsLast_56 {l : Launch} {K : EC} {M0 : Mem} (hI : In Tru M0)  (a1 : Int) (ha1 : 0 ≤ a1 ∧ a1 ≤ 59)  : Tr l K 0 mX1_paysAsLast 0 [(0, (2, 56)), (1, (0, a1))] [] M0 (q_X1_paysAsLast_56 M0) := by
  have hS : St Tru ws_X1_paysAsLast_56 as_X1_paysAsLast_56 M0 M0 := St.rf hI
  refine Tr.aload_n (pc := 0) (i := 0) d_X1_paysAsLast_0 rfl rfl ?_
  refine Tr.getf (pc := 1) d_X1_paysAsLast_1 f_1_21 (by decide) (by decide) (ty_56 hS.1.1) ?_
  refine Tr.tp 60 (fx_56_5 hS.1.1) ?_
  refine Tr.iload_n (pc := 4) (i := 1) d_X1_paysAsLast_4 rfl rfl ?_
  refine Tr.iald (pc := 5) d_X1_paysAsLast_5 (ty_60 hS.1.1) (by omega) (by omega) ?_
  refine Tr.gen (P := fun v => (-2147483648) ≤ v ∧ v ≤ 2147483647) (ar_60 hS.1.2.1 _) (fun r5 er5 br5 => ?_)
  refine Tr.aload_n (pc := 6) (i := 0) d_X1_paysAsLast_6 rfl rfl ?_
  refine Tr.getf (pc := 7) d_X1_paysAsLast_7 f_1_24 (by decide) (by decide) (ty_56 hS.1.1) ?_
  refine Tr.tp 61 (fx_56_6 hS.1.1) ?_
  refine Tr.iload_n (pc := 10) (i := 1) d_X1_paysAsLast_10 rfl rfl ?_
  refine Tr.iald (pc := 11) d_X1_paysAsLast_11 (ty_61 hS.1.1) (by omega) (by omega) ?_
  refine Tr.gen (P := fun v => (-2147483648) ≤ v ∧ v ≤ 2147483647) (ar_61 hS.1.2.1 _) (fun r11 er11 br11 => ?_)
  refine Tr.iadd (pc := 12) d_X1_paysAsLast_12 ?_
  refine Tr.gen (P := fun v => (-2147483648) ≤ v ∧ v ≤ 2147483647) (w32_b _) (fun r12 er12 br12 => ?_)
  exact Tr.iret (pc := 13) d_X1_paysAsLast_13 rfl ⟨hS, _, rfl, by omega, by omega⟩

def ws_X1_sippedAsleep_56 : List (Int × Int) := []
def as_X1_sippedAsleep_56 : List Int := []
def q_X1_sippedAsleep_56 (M0 M' : Mem) (r : Option PV) : Prop := St Tru ws_X1_sippedAsleep_56 as_X1_sippedAsleep_56 M0 M' ∧ ∃ v : Int, r = some (0, v) ∧ (-2147483648) ≤ v ∧ v ≤ 2147483647
set_option maxRecDepth 100000 in
set_option maxHeartbeats 4000000 in
theorem sp_X1_sippedAsleep_56 {l : Launch} {K : EC} {M0 : Mem} (hI : In Tru M0) (en_56_1 : rd M0 56 1 = 7)   : Tr l K 0 mX1_sippedAsleep 0 [(0, (2, 56))] [] M0 (q_X1_sippedAsleep_56 M0) := by
  have hS : St Tru ws_X1_sippedAsleep_56 as_X1_sippedAsleep_56 M0 M0 := St.rf hI
  refine Tr.iconst (pc := 0) d_X1_sippedAsleep_0 (by decide) ?_
  refine Tr.istore_n (pc := 1) (i := 1) (ls2 := [(1, (0, 0)), (0, (2, 56))]) d_X1_sippedAsleep_1 rfl (by decide) rfl ?_
  refine Tr.iconst (pc := 2) d_X1_sippedAsleep_2 (by decide) ?_
  refine Tr.istore_n (pc := 3) (i := 2) (ls2 := [(2, (0, 0)), (1, (0, 0)), (0, (2, 56))]) d_X1_sippedAsleep_3 rfl (by decide) rfl ?_
  have J4 : ∀ (n4 : Nat) (M : Mem) (p4_1 p4_2 : Int), St Tru ws_X1_sippedAsleep_56 as_X1_sippedAsleep_56 M0 M → ((-2147483648) ≤ p4_1 ∧ p4_1 ≤ 2147483647) → (0 ≤ p4_2 ∧ p4_2 ≤ 6) → (6 - p4_2).toNat < n4 → Tr l K 0 mX1_sippedAsleep 4 [(0, (2, 56)), (1, (0, p4_1)), (2, (0, p4_2))] [] M (q_X1_sippedAsleep_56 M0) := by
    intro n4
    induction n4 with
    | zero => intro M p4_1 p4_2 hS bp4_1 bp4_2  hm4; exact absurd hm4 (Nat.not_lt_zero _)
    | succ n4 J4 =>
      intro M p4_1 p4_2 hS bp4_1 bp4_2  hm4
      refine Tr.iload_n (pc := 4) (i := 2) d_X1_sippedAsleep_4 rfl rfl ?_
      refine Tr.aload_n (pc := 5) (i := 0) d_X1_sippedAsleep_5 rfl rfl ?_
      refine Tr.getf (pc := 6) d_X1_sippedAsleep_6 f_1_41 (by decide) (by decide) (ty_56 hS.1.1) ?_
      refine Tr.tp 7 ((St.kp hS (by decide) (by decide) (by decide)).trans en_56_1) ?_
      refine Tr.getf (pc := 9) d_X1_sippedAsleep_9 f_1_91 (by decide) (by decide) (ty_7 hS.1.1) ?_
      refine Tr.tp 8 (fx_7_4 hS.1.1) ?_
      refine Tr.iconst (pc := 12) d_X1_sippedAsleep_12 (by decide) ?_
      refine Tr.iald (pc := 13) d_X1_sippedAsleep_13 (ty_8 hS.1.1) (by omega) (by omega) ?_
      refine Tr.gen (P := fun v => 0 ≤ v ∧ v ≤ 6) (ir_8_0 hS.1.2.1) (fun r13 er13 br13 => ?_)
      refine Tr.icmp_ge (pc := 14) (tgt := 50) d_X1_sippedAsleep_14 rfl (fun c14 => ?_) (fun c14 => ?_)
      · refine Tr.iload_n (pc := 50) (i := 1) d_X1_sippedAsleep_50 rfl rfl ?_
        exact Tr.iret (pc := 51) d_X1_sippedAsleep_51 rfl ⟨hS, _, rfl, by omega, by omega⟩
      · refine Tr.iload_n (pc := 17) (i := 1) d_X1_sippedAsleep_17 rfl rfl ?_
        refine Tr.aload_n (pc := 18) (i := 0) d_X1_sippedAsleep_18 rfl rfl ?_
        refine Tr.getf (pc := 19) d_X1_sippedAsleep_19 f_1_9 (by decide) (by decide) (ty_56 hS.1.1) ?_
        refine Tr.tp 57 (fx_56_2 hS.1.1) ?_
        refine Tr.iload_n (pc := 22) (i := 2) d_X1_sippedAsleep_22 rfl rfl ?_
        refine Tr.iconst (pc := 23) d_X1_sippedAsleep_23 (by decide) ?_
        refine Tr.imul (pc := 24) d_X1_sippedAsleep_24 ?_
        refine Tr.tp (4 * p4_2) ((w32_id (by omega)).trans (by omega)) ?_
        refine Tr.iconst (pc := 25) d_X1_sippedAsleep_25 (by decide) ?_
        refine Tr.iadd (pc := 26) d_X1_sippedAsleep_26 ?_
        refine Tr.tp (4 * p4_2) ((w32_id (by omega)).trans (by omega)) ?_
        refine Tr.iald (pc := 27) d_X1_sippedAsleep_27 (ty_57 hS.1.1) (by omega) (by omega) ?_
        refine Tr.gen (P := fun v => (-2147483648) ≤ v ∧ v ≤ 2147483647) (ar_57 hS.1.2.1 _) (fun r27 er27 br27 => ?_)
        refine Tr.aload_n (pc := 28) (i := 0) d_X1_sippedAsleep_28 rfl rfl ?_
        refine Tr.getf (pc := 29) d_X1_sippedAsleep_29 f_1_41 (by decide) (by decide) (ty_56 hS.1.1) ?_
        refine Tr.tp 7 ((St.kp hS (by decide) (by decide) (by decide)).trans en_56_1) ?_
        refine Tr.getf (pc := 32) d_X1_sippedAsleep_32 f_1_71 (by decide) (by decide) (ty_7 hS.1.1) ?_
        refine Tr.tp 9 (fx_7_5 hS.1.1) ?_
        refine Tr.iload_n (pc := 35) (i := 2) d_X1_sippedAsleep_35 rfl rfl ?_
        refine Tr.iconst (pc := 36) d_X1_sippedAsleep_36 (by decide) ?_
        refine Tr.imul (pc := 37) d_X1_sippedAsleep_37 ?_
        refine Tr.tp (4 * p4_2) ((w32_id (by omega)).trans (by omega)) ?_
        refine Tr.iconst (pc := 38) d_X1_sippedAsleep_38 (by decide) ?_
        refine Tr.iadd (pc := 39) d_X1_sippedAsleep_39 ?_
        refine Tr.tp (4 * p4_2) ((w32_id (by omega)).trans (by omega)) ?_
        refine Tr.iald (pc := 40) d_X1_sippedAsleep_40 (ty_9 hS.1.1) (by omega) (by omega) ?_
        refine Tr.gen (P := fun v => (-1) ≤ v ∧ v ≤ 999) (ar_9 hS.1.2.1 _) (fun r40 er40 br40 => ?_)
        refine Tr.imul (pc := 41) d_X1_sippedAsleep_41 ?_
        refine Tr.gen (P := fun v => (-2147483648) ≤ v ∧ v ≤ 2147483647) (w32_b _) (fun r41 er41 br41 => ?_)
        refine Tr.iadd (pc := 42) d_X1_sippedAsleep_42 ?_
        refine Tr.gen (P := fun v => (-2147483648) ≤ v ∧ v ≤ 2147483647) (w32_b _) (fun r42 er42 br42 => ?_)
        refine Tr.istore_n (pc := 43) (i := 1) (ls2 := [(1, (0, r42)), (0, (2, 56)), (2, (0, p4_2))]) d_X1_sippedAsleep_43 rfl (by decide) rfl ?_
        refine Tr.iincV (pc := 44) (n2 := (p4_2 + 1)) (ls2 := [(2, (0, (p4_2 + 1))), (1, (0, r42)), (0, (2, 56))]) d_X1_sippedAsleep_44 rfl (by decide) ((w32_id (by omega)).trans (by omega)) rfl ?_
        refine Tr.goto (pc := 47) (tgt := 4) d_X1_sippedAsleep_47 rfl ?_
        refine Tr.pick [2, 1, 0] (ls2 := [(0, (2, 56)), (1, (0, r42)), (2, (0, (p4_2 + 1)))]) rfl ?_
        exact J4 _ _ _ hS (by omega) (by omega) (by omega)
  refine Tr.pick [2, 1, 0] (ls2 := [(0, (2, 56)), (1, (0, 0)), (2, (0, 0))]) rfl ?_
  exact J4 _ _ _ _ hS (by omega) (by omega) (Nat.lt_succ_self _)

def ws_X11_pays_0_w1 : List (Int × Int) := []
def as_X11_pays_0_w1 : List Int := []
def q_X11_pays_0_w1 (M0 M' : Mem) (r : Option PV) : Prop := St Tru ws_X11_pays_0_w1 as_X11_pays_0_w1 M0 M' ∧ ∃ v : Int, r = some (0, v) ∧ (-2147483648) ≤ v ∧ v ≤ 2147483647
set_option maxRecDepth 100000 in
set_option maxHeartbeats 4000000 in
theorem sp_X11_pays_0_w1 {l : Launch} {K : EC} {M0 : Mem} (hI : In Tru M0) (en_0_4 : rd M0 0 4 = 7) (en_0_9 : rd M0 0 9 = 1) (en_56_1 : rd M0 56 1 = 7) (a1 : Int) (ha1 : (-2147483648) ≤ a1 ∧ a1 ≤ 2147483647) (a2 : Int) (ha2 : (-2147483648) ≤ a2 ∧ a2 ≤ 2147483647)  : Tr l K 3 mX11_pays 0 [(0, (2, 0)), (1, (0, a1)), (2, (0, a2))] [] M0 (q_X11_pays_0_w1 M0) := by
  have hS : St Tru ws_X11_pays_0_w1 as_X11_pays_0_w1 M0 M0 := St.rf hI
  refine Tr.aload_n (pc := 0) (i := 0) d_X11_pays_0 rfl rfl ?_
  refine Tr.getz (pc := 1) d_X11_pays_1 f_11_109 (by decide) (ty_0 hS.1.1) ?_
  refine Tr.tp 1 ((St.kp hS (by decide) (by decide) (by decide)).trans en_0_9) ?_
  refine Tr.if_eq (pc := 4) (tgt := 16) d_X11_pays_4 rfl (fun hc => absurd hc (by omega)) (fun _ => ?_)
  refine Tr.iload_n (pc := 7) (i := 2) d_X11_pays_7 rfl rfl ?_
  refine Tr.if_lt (pc := 8) (tgt := 16) d_X11_pays_8 rfl (fun c8 => ?_) (fun c8 => ?_)
  · refine Tr.iconst (pc := 16) d_X11_pays_16 (by decide) ?_
    exact Tr.iret (pc := 17) d_X11_pays_17 rfl ⟨hS, _, rfl, by omega, by omega⟩
  · refine Tr.iload_n (pc := 11) (i := 2) d_X11_pays_11 rfl rfl ?_
    refine Tr.iconst (pc := 12) d_X11_pays_12 (by decide) ?_
    refine Tr.icmp_le (pc := 13) (tgt := 18) d_X11_pays_13 rfl (fun c13 => ?_) (fun c13 => ?_)
    · refine Tr.iload_n (pc := 18) (i := 1) d_X11_pays_18 rfl rfl ?_
      refine Tr.iconst (pc := 19) d_X11_pays_19 (by decide) ?_
      refine Tr.icmp_ne (pc := 20) (tgt := 34) d_X11_pays_20 rfl (fun c20 => ?_) (fun c20 => ?_)
      · refine Tr.aload_n (pc := 34) (i := 0) d_X11_pays_34 rfl rfl ?_
        refine Tr.iload_n (pc := 35) (i := 1) d_X11_pays_35 rfl rfl ?_
        refine Tr.callV (pc := 36) (as := [_]) d_X11_pays_36 s_11_191 ok_X11_isLine rfl rfl (Nat.le_of_ble_eq_true rfl) (Nat.le_of_ble_eq_true rfl) (by decide) (ty_0 hS.1.1) ?_
        refine Tr.imp (Tr.deep (by decide) (sp_X11_isLine_0 hS.1 ((St.kp hS (by decide) (by decide) (by decide)).trans en_0_4) a1 (by omega))) ?_
        rintro M36 _ ⟨h36, r36, rfl, lr36, ur36, wr36⟩
        have hS := St.tr hS h36 (by decide) (by decide)
        refine Tr.sc [(0, r36)] rfl ?_
        refine Tr.if_ne (pc := 39) (tgt := 44) d_X11_pays_39 rfl (fun c39 => ?_) (fun c39 => ?_)
        · refine Tr.iload_n (pc := 44) (i := 2) d_X11_pays_44 rfl rfl ?_
          refine Tr.if_ne (pc := 45) (tgt := 62) d_X11_pays_45 rfl (fun c45 => ?_) (fun c45 => ?_)
          · refine Tr.aload_n (pc := 62) (i := 0) d_X11_pays_62 rfl rfl ?_
            refine Tr.getf (pc := 63) d_X11_pays_63 f_11_46 (by decide) (by decide) (ty_0 hS.1.1) ?_
            refine Tr.tp 48 (fx_0_7 hS.1.1) ?_
            refine Tr.getf (pc := 66) d_X11_pays_66 f_11_178 (by decide) (by decide) (ty_48 hS.1.1) ?_
            refine Tr.tp 56 (fx_48_0 hS.1.1) ?_
            refine Tr.iload_n (pc := 69) (i := 1) d_X11_pays_69 rfl rfl ?_
            refine Tr.callV (pc := 70) (as := [_]) d_X11_pays_70 s_11_198 ok_X1_paysInParts rfl rfl (Nat.le_of_ble_eq_true rfl) (Nat.le_of_ble_eq_true rfl) (by decide) (ty_56 hS.1.1) ?_
            refine Tr.imp (Tr.deep (by decide) (sp_X1_paysInParts_56 hS.1 ((St.kp hS (by decide) (by decide) (by decide)).trans en_56_1) a1 (by omega))) ?_
            rintro M70 _ ⟨h70, r70, rfl, lr70, ur70⟩
            have hS := St.tr hS h70 (by decide) (by decide)
            refine Tr.sc [(0, r70)] rfl ?_
            exact Tr.iret (pc := 73) d_X11_pays_73 rfl ⟨hS, _, rfl, by omega, by omega⟩
          · refine Tr.aload_n (pc := 48) (i := 0) d_X11_pays_48 rfl rfl ?_
            refine Tr.getf (pc := 49) d_X11_pays_49 f_11_46 (by decide) (by decide) (ty_0 hS.1.1) ?_
            refine Tr.tp 48 (fx_0_7 hS.1.1) ?_
            refine Tr.getf (pc := 52) d_X11_pays_52 f_11_178 (by decide) (by decide) (ty_48 hS.1.1) ?_
            refine Tr.tp 56 (fx_48_0 hS.1.1) ?_
            refine Tr.iload_n (pc := 55) (i := 1) d_X11_pays_55 rfl rfl ?_
            refine Tr.callV (pc := 56) (as := [_]) d_X11_pays_56 s_11_194 ok_X1_paysAsLast rfl rfl (Nat.le_of_ble_eq_true rfl) (Nat.le_of_ble_eq_true rfl) (by decide) (ty_56 hS.1.1) ?_
            refine Tr.imp (Tr.deep (by decide) (sp_X1_paysAsLast_56 hS.1 a1 (by omega))) ?_
            rintro M56 _ ⟨h56, r56, rfl, lr56, ur56⟩
            have hS := St.tr hS h56 (by decide) (by decide)
            refine Tr.sc [(0, r56)] rfl ?_
            refine Tr.goto (pc := 59) (tgt := 73) d_X11_pays_59 rfl ?_
            exact Tr.iret (pc := 73) d_X11_pays_73 rfl ⟨hS, _, rfl, by omega, by omega⟩
        · refine Tr.iconst (pc := 42) d_X11_pays_42 (by decide) ?_
          exact Tr.iret (pc := 43) d_X11_pays_43 rfl ⟨hS, _, rfl, by omega, by omega⟩
      · refine Tr.aload_n (pc := 23) (i := 0) d_X11_pays_23 rfl rfl ?_
        refine Tr.getf (pc := 24) d_X11_pays_24 f_11_46 (by decide) (by decide) (ty_0 hS.1.1) ?_
        refine Tr.tp 48 (fx_0_7 hS.1.1) ?_
        refine Tr.getf (pc := 27) d_X11_pays_27 f_11_178 (by decide) (by decide) (ty_48 hS.1.1) ?_
        refine Tr.tp 56 (fx_48_0 hS.1.1) ?_
        refine Tr.callV (pc := 30) (as := []) d_X11_pays_30 s_11_187 ok_X1_sippedAsleep rfl rfl (Nat.le_of_ble_eq_true rfl) (Nat.le_of_ble_eq_true rfl) (by decide) (ty_56 hS.1.1) ?_
        refine Tr.imp (Tr.deep (by decide) (sp_X1_sippedAsleep_56 hS.1 ((St.kp hS (by decide) (by decide) (by decide)).trans en_56_1))) ?_
        rintro M30 _ ⟨h30, r30, rfl, lr30, ur30⟩
        have hS := St.tr hS h30 (by decide) (by decide)
        refine Tr.sc [(0, r30)] rfl ?_
        exact Tr.iret (pc := 33) d_X11_pays_33 rfl ⟨hS, _, rfl, by omega, by omega⟩
    · refine Tr.iconst (pc := 16) d_X11_pays_16 (by decide) ?_
      exact Tr.iret (pc := 17) d_X11_pays_17 rfl ⟨hS, _, rfl, by omega, by omega⟩

def ws_X11_stretches_0 : List (Int × Int) := []
def as_X11_stretches_0 : List Int := []
def q_X11_stretches_0 (M0 M' : Mem) (r : Option PV) : Prop := St Tru ws_X11_stretches_0 as_X11_stretches_0 M0 M' ∧ ∃ v : Int, r = some (0, v) ∧ (-1) ≤ v ∧ v ≤ (-1)
set_option maxRecDepth 100000 in
set_option maxHeartbeats 4000000 in
theorem sp_X11_stretches_0 {l : Launch} {K : EC} {M0 : Mem} (hI : In Tru M0) (en_0_9 : rd M0 0 9 = 0) (a1 : Int) (ha1 : (-2147483648) ≤ a1 ∧ a1 ≤ 2147483647)  : Tr l K 0 mX11_stretches 0 [(0, (2, 0)), (1, (0, a1))] [] M0 (q_X11_stretches_0 M0) := by
  have hS : St Tru ws_X11_stretches_0 as_X11_stretches_0 M0 M0 := St.rf hI
  refine Tr.aload_n (pc := 0) (i := 0) d_X11_stretches_0 rfl rfl ?_
  refine Tr.getz (pc := 1) d_X11_stretches_1 f_11_109 (by decide) (ty_0 hS.1.1) ?_
  refine Tr.tp 0 ((St.kp hS (by decide) (by decide) (by decide)).trans en_0_9) ?_
  refine Tr.if_eq (pc := 4) (tgt := 15) d_X11_stretches_4 rfl (fun _ => ?_) (fun hc => absurd (by omega) hc)
  refine Tr.iconst (pc := 15) d_X11_stretches_15 (by decide) ?_
  exact Tr.iret (pc := 16) d_X11_stretches_16 rfl ⟨hS, _, rfl, by omega, by omega⟩

def ws_X8_countOf_63 : List (Int × Int) := []
def as_X8_countOf_63 : List Int := []
def q_X8_countOf_63 (M0 M' : Mem) (r : Option PV) : Prop := St Tru ws_X8_countOf_63 as_X8_countOf_63 M0 M' ∧ ∃ v : Int, r = some (0, v) ∧ (-2147483648) ≤ v ∧ v ≤ 2147483647
set_option maxRecDepth 100000 in
set_option maxHeartbeats 4000000 in
theorem sp_X8_countOf_63 {l : Launch} {K : EC} {M0 : Mem} (hI : In Tru M0)  (a1 : Int) (ha1 : 0 ≤ a1 ∧ a1 ≤ 5)  : Tr l K 0 mX8_countOf 0 [(0, (2, 63)), (1, (0, a1))] [] M0 (q_X8_countOf_63 M0) := by
  have hS : St Tru ws_X8_countOf_63 as_X8_countOf_63 M0 M0 := St.rf hI
  obtain ⟨g63_1, eg63_1⟩ : ∃ v, rd M0 63 1 = v := ⟨_, rfl⟩
  have bg63_1 : (-1000000000) ≤ g63_1 ∧ g63_1 ≤ 1000000000 := by rw [← eg63_1]; exact ir_63_1 hI.2.1
  obtain ⟨g63_0, eg63_0⟩ : ∃ v, rd M0 63 0 = v := ⟨_, rfl⟩
  have bg63_0 : (-2147483648) ≤ g63_0 ∧ g63_0 ≤ 2147483647 := by rw [← eg63_0]; exact ir_63_0 hI.2.1
  refine Tr.iconst (pc := 0) d_X8_countOf_0 (by decide) ?_
  refine Tr.istore_n (pc := 1) (i := 2) (ls2 := [(2, (0, 0)), (0, (2, 63)), (1, (0, a1))]) d_X8_countOf_1 rfl (by decide) rfl ?_
  refine Tr.iconst (pc := 2) d_X8_countOf_2 (by decide) ?_
  refine Tr.istore_n (pc := 3) (i := 3) (ls2 := [(3, (0, 0)), (2, (0, 0)), (0, (2, 63)), (1, (0, a1))]) d_X8_countOf_3 rfl (by decide) rfl ?_
  have J4 : ∀ (n4 : Nat) (M : Mem) (p4_2 p4_3 : Int), St Tru ws_X8_countOf_63 as_X8_countOf_63 M0 M → ((-2147483648) ≤ p4_2 ∧ p4_2 ≤ 2147483647) → (0 ≤ p4_3 ∧ p4_3 ≤ 2016) → rd M 63 0 = g63_0 → rd M 63 1 = g63_1 → (2016 - p4_3).toNat < n4 → Tr l K 0 mX8_countOf 4 [(0, (2, 63)), (1, (0, a1)), (2, (0, p4_2)), (3, (0, p4_3))] [] M (q_X8_countOf_63 M0) := by
    intro n4
    induction n4 with
    | zero => intro M p4_2 p4_3 hS bp4_2 bp4_3 k4_63_0 k4_63_1 hm4; exact absurd hm4 (Nat.not_lt_zero _)
    | succ n4 J4 =>
      intro M p4_2 p4_3 hS bp4_2 bp4_3 k4_63_0 k4_63_1 hm4
      refine Tr.iload_n (pc := 4) (i := 3) d_X8_countOf_4 rfl rfl ?_
      refine Tr.aload_n (pc := 5) (i := 0) d_X8_countOf_5 rfl rfl ?_
      refine Tr.getf (pc := 6) d_X8_countOf_6 f_8_43 (by decide) (by decide) (ty_63 hS.1.1) ?_
      refine Tr.tp g63_0 k4_63_0 ?_
      refine Tr.icmp_ge (pc := 9) (tgt := 31) d_X8_countOf_9 rfl (fun c9 => ?_) (fun c9 => ?_)
      · refine Tr.iload_n (pc := 31) (i := 2) d_X8_countOf_31 rfl rfl ?_
        exact Tr.iret (pc := 32) d_X8_countOf_32 rfl ⟨hS, _, rfl, by omega, by omega⟩
      · refine Tr.aload_n (pc := 12) (i := 0) d_X8_countOf_12 rfl rfl ?_
        refine Tr.getf (pc := 13) d_X8_countOf_13 f_8_9 (by decide) (by decide) (ty_63 hS.1.1) ?_
        refine Tr.gen (P := fun v => v = tref g63_1 1) (tl_ref hS k4_63_1 (by decide)) (fun t13 et13 bt13 => ?_)
        refine Tr.iload_n (pc := 16) (i := 3) d_X8_countOf_16 rfl rfl ?_
        have nk17_0 : rd M 63 0 = g63_0 := k4_63_0
        have nn17 := tl_n hS k4_63_1
        refine Tr.iald (pc := 17) d_X8_countOf_17 (tl_tyI hS k4_63_1 (j := 1) (by decide) (by decide) bt13) (by omega) (by omega) ?_
        refine Tr.gen (P := fun v => 0 ≤ v ∧ v ≤ 5) (tl_eP hS k4_63_1 (j := 1) (by decide) (by decide) bt13 (by omega) (by omega)) (fun r17 er17 br17 => ?_)
        refine Tr.iload_n (pc := 18) (i := 1) d_X8_countOf_18 rfl rfl ?_
        have J25 : ∀ (M : Mem) (p25_2 : Int), St Tru ws_X8_countOf_63 as_X8_countOf_63 M0 M → ((-2147483648) ≤ p25_2 ∧ p25_2 ≤ 2147483647) → rd M 63 0 = g63_0 → rd M 63 1 = g63_1 → Tr l K 0 mX8_countOf 25 [(0, (2, 63)), (1, (0, a1)), (2, (0, p25_2)), (3, (0, p4_3))] [] M (q_X8_countOf_63 M0) := by
          intro M p25_2 hS bp25_2 k25_63_0 k25_63_1
          refine Tr.iincV (pc := 25) (n2 := (p4_3 + 1)) (ls2 := [(3, (0, (p4_3 + 1))), (0, (2, 63)), (1, (0, a1)), (2, (0, p25_2))]) d_X8_countOf_25 rfl (by decide) ((w32_id (by omega)).trans (by omega)) rfl ?_
          refine Tr.goto (pc := 28) (tgt := 4) d_X8_countOf_28 rfl ?_
          refine Tr.pick [1, 2, 3, 0] (ls2 := [(0, (2, 63)), (1, (0, a1)), (2, (0, p25_2)), (3, (0, (p4_3 + 1)))]) rfl ?_
          exact J4 _ _ _ hS (by omega) (by omega) k25_63_0 k25_63_1 (by omega)
        refine Tr.icmp_ne (pc := 19) (tgt := 25) d_X8_countOf_19 rfl (fun c19 => ?_) (fun c19 => ?_)
        · refine Tr.pick [0, 1, 2, 3] (ls2 := [(0, (2, 63)), (1, (0, a1)), (2, (0, p4_2)), (3, (0, p4_3))]) rfl ?_
          exact J25 _ _ hS (by omega) k4_63_0 k4_63_1
        · refine Tr.iincG (pc := 22) d_X8_countOf_22 rfl (by decide) (fun r22 br22 => ?_)
          refine Tr.lc [(2, (0, r22)), (0, (2, 63)), (1, (0, a1)), (3, (0, p4_3))] rfl ?_
          refine Tr.pick [1, 2, 0, 3] (ls2 := [(0, (2, 63)), (1, (0, a1)), (2, (0, r22)), (3, (0, p4_3))]) rfl ?_
          exact J25 _ _ hS (by omega) k4_63_0 k4_63_1
  refine Tr.pick [2, 3, 1, 0] (ls2 := [(0, (2, 63)), (1, (0, a1)), (2, (0, 0)), (3, (0, 0))]) rfl ?_
  exact J4 _ _ _ _ hS (by omega) (by omega) eg63_0 eg63_1 (Nat.lt_succ_self _)

def ws_X11_stretches_0_w1 : List (Int × Int) := []
def as_X11_stretches_0_w1 : List Int := []
def q_X11_stretches_0_w1 (M0 M' : Mem) (r : Option PV) : Prop := St Tru ws_X11_stretches_0_w1 as_X11_stretches_0_w1 M0 M' ∧ ∃ v : Int, r = some (0, v) ∧ (-2147483648) ≤ v ∧ v ≤ 2147483647
set_option maxRecDepth 100000 in
set_option maxHeartbeats 4000000 in
theorem sp_X11_stretches_0_w1 {l : Launch} {K : EC} {M0 : Mem} (hI : In Tru M0) (en_0_4 : rd M0 0 4 = 7) (en_0_9 : rd M0 0 9 = 1) (a1 : Int) (ha1 : (-2147483648) ≤ a1 ∧ a1 ≤ 2147483647)  : Tr l K 1 mX11_stretches 0 [(0, (2, 0)), (1, (0, a1))] [] M0 (q_X11_stretches_0_w1 M0) := by
  have hS : St Tru ws_X11_stretches_0_w1 as_X11_stretches_0_w1 M0 M0 := St.rf hI
  refine Tr.aload_n (pc := 0) (i := 0) d_X11_stretches_0 rfl rfl ?_
  refine Tr.getz (pc := 1) d_X11_stretches_1 f_11_109 (by decide) (ty_0 hS.1.1) ?_
  refine Tr.tp 1 ((St.kp hS (by decide) (by decide) (by decide)).trans en_0_9) ?_
  refine Tr.if_eq (pc := 4) (tgt := 15) d_X11_stretches_4 rfl (fun hc => absurd hc (by omega)) (fun _ => ?_)
  refine Tr.aload_n (pc := 7) (i := 0) d_X11_stretches_7 rfl rfl ?_
  refine Tr.iload_n (pc := 8) (i := 1) d_X11_stretches_8 rfl rfl ?_
  refine Tr.callV (pc := 9) (as := [_]) d_X11_stretches_9 s_11_174 ok_X11_isPart rfl rfl (Nat.le_of_ble_eq_true rfl) (Nat.le_of_ble_eq_true rfl) (by decide) (ty_0 hS.1.1) ?_
  refine Tr.imp (Tr.deep (by decide) (sp_X11_isPart_0 hS.1 ((St.kp hS (by decide) (by decide) (by decide)).trans en_0_4) a1 (by omega))) ?_
  rintro M9 _ ⟨h9, r9, rfl, lr9, ur9, wr9⟩
  have hS := St.tr hS h9 (by decide) (by decide)
  refine Tr.sc [(0, r9)] rfl ?_
  refine Tr.if_ne (pc := 12) (tgt := 17) d_X11_stretches_12 rfl (fun c12 => ?_) (fun c12 => ?_)
  · refine Tr.aload_n (pc := 17) (i := 0) d_X11_stretches_17 rfl rfl ?_
    refine Tr.getf (pc := 18) d_X11_stretches_18 f_11_46 (by decide) (by decide) (ty_0 hS.1.1) ?_
    refine Tr.tp 48 (fx_0_7 hS.1.1) ?_
    refine Tr.getf (pc := 21) d_X11_stretches_21 f_11_178 (by decide) (by decide) (ty_48 hS.1.1) ?_
    refine Tr.tp 56 (fx_48_0 hS.1.1) ?_
    refine Tr.getf (pc := 24) d_X11_stretches_24 f_11_201 (by decide) (by decide) (ty_56 hS.1.1) ?_
    refine Tr.tp 63 (fx_56_8 hS.1.1) ?_
    refine Tr.iload_n (pc := 27) (i := 1) d_X11_stretches_27 rfl rfl ?_
    refine Tr.callV (pc := 28) (as := [_]) d_X11_stretches_28 s_11_205 ok_X8_countOf rfl rfl (Nat.le_of_ble_eq_true rfl) (Nat.le_of_ble_eq_true rfl) (by decide) (ty_63 hS.1.1) ?_
    refine Tr.imp (Tr.deep (by decide) (sp_X8_countOf_63 hS.1 a1 (by omega))) ?_
    rintro M28 _ ⟨h28, r28, rfl, lr28, ur28⟩
    have hS := St.tr hS h28 (by decide) (by decide)
    refine Tr.sc [(0, r28)] rfl ?_
    exact Tr.iret (pc := 31) d_X11_stretches_31 rfl ⟨hS, _, rfl, by omega, by omega⟩
  · refine Tr.iconst (pc := 15) d_X11_stretches_15 (by decide) ?_
    exact Tr.iret (pc := 16) d_X11_stretches_16 rfl ⟨hS, _, rfl, by omega, by omega⟩

def ws_X11_stretchPlace_0 : List (Int × Int) := []
def as_X11_stretchPlace_0 : List Int := []
def q_X11_stretchPlace_0 (a1 : Int) (a2 : Int) (M0 M' : Mem) (r : Option PV) : Prop := St Tru ws_X11_stretchPlace_0 as_X11_stretchPlace_0 M0 M' ∧ ∃ v : Int, r = some (0, v) ∧ (-1) ≤ v ∧ v ≤ (-1) ∧ (v < rd M' 63 0 ∨ v = -1)
set_option maxRecDepth 100000 in
set_option maxHeartbeats 4000000 in
theorem sp_X11_stretchPlace_0 {l : Launch} {K : EC} {M0 : Mem} (hI : In Tru M0) (en_0_9 : rd M0 0 9 = 0) (a1 : Int) (ha1 : (-2147483648) ≤ a1 ∧ a1 ≤ 2147483647) (a2 : Int) (ha2 : (-2147483648) ≤ a2 ∧ a2 ≤ 2147483647)  : Tr l K 0 mX11_stretchPlace 0 [(0, (2, 0)), (1, (0, a1)), (2, (0, a2))] [] M0 (q_X11_stretchPlace_0 a1 a2 M0) := by
  have hS : St Tru ws_X11_stretchPlace_0 as_X11_stretchPlace_0 M0 M0 := St.rf hI
  obtain ⟨g63_1, eg63_1⟩ : ∃ v, rd M0 63 1 = v := ⟨_, rfl⟩
  have bg63_1 : (-1000000000) ≤ g63_1 ∧ g63_1 ≤ 1000000000 := by rw [← eg63_1]; exact ir_63_1 hI.2.1
  obtain ⟨g63_0, eg63_0⟩ : ∃ v, rd M0 63 0 = v := ⟨_, rfl⟩
  have bg63_0 : (-2147483648) ≤ g63_0 ∧ g63_0 ≤ 2147483647 := by rw [← eg63_0]; exact ir_63_0 hI.2.1
  refine Tr.aload_n (pc := 0) (i := 0) d_X11_stretchPlace_0 rfl rfl ?_
  refine Tr.getz (pc := 1) d_X11_stretchPlace_1 f_11_109 (by decide) (ty_0 hS.1.1) ?_
  refine Tr.tp 0 ((St.kp hS (by decide) (by decide) (by decide)).trans en_0_9) ?_
  refine Tr.if_eq (pc := 4) (tgt := 19) d_X11_stretchPlace_4 rfl (fun _ => ?_) (fun hc => absurd (by omega) hc)
  refine Tr.iconst (pc := 19) d_X11_stretchPlace_19 (by decide) ?_
  have kr_63_0 : rd M0 63 0 = g63_0 := eg63_0
  exact Tr.iret (pc := 20) d_X11_stretchPlace_20 rfl ⟨hS, _, rfl, by omega, by omega, by omega⟩

def ws_X11_stretch_0 : List (Int × Int) := []
def as_X11_stretch_0 : List Int := []
def q_X11_stretch_0 (M0 M' : Mem) (r : Option PV) : Prop := St Tru ws_X11_stretch_0 as_X11_stretch_0 M0 M' ∧ ∃ v : Int, r = some (0, v) ∧ (-1) ≤ v ∧ v ≤ (-1)
set_option maxRecDepth 100000 in
set_option maxHeartbeats 4000000 in
theorem sp_X11_stretch_0 {l : Launch} {K : EC} {M0 : Mem} (hI : In Tru M0) (en_0_9 : rd M0 0 9 = 0) (a1 : Int) (ha1 : (-2147483648) ≤ a1 ∧ a1 ≤ 2147483647) (a2 : Int) (ha2 : (-2147483648) ≤ a2 ∧ a2 ≤ 2147483647) (a3 : Int) (ha3 : (-2147483648) ≤ a3 ∧ a3 ≤ 2147483647)  : Tr l K 1 mX11_stretch 0 [(0, (2, 0)), (1, (0, a1)), (2, (0, a2)), (3, (0, a3))] [] M0 (q_X11_stretch_0 M0) := by
  have hS : St Tru ws_X11_stretch_0 as_X11_stretch_0 M0 M0 := St.rf hI
  obtain ⟨g63_1, eg63_1⟩ : ∃ v, rd M0 63 1 = v := ⟨_, rfl⟩
  have bg63_1 : (-1000000000) ≤ g63_1 ∧ g63_1 ≤ 1000000000 := by rw [← eg63_1]; exact ir_63_1 hI.2.1
  obtain ⟨g63_0, eg63_0⟩ : ∃ v, rd M0 63 0 = v := ⟨_, rfl⟩
  have bg63_0 : (-2147483648) ≤ g63_0 ∧ g63_0 ≤ 2147483647 := by rw [← eg63_0]; exact ir_63_0 hI.2.1
  refine Tr.aload_n (pc := 0) (i := 0) d_X11_stretch_0 rfl rfl ?_
  refine Tr.iload_n (pc := 1) (i := 1) d_X11_stretch_1 rfl rfl ?_
  refine Tr.iload_n (pc := 2) (i := 2) d_X11_stretch_2 rfl rfl ?_
  refine Tr.callV (pc := 3) (as := [_, _]) d_X11_stretch_3 s_11_214 ok_X11_stretchPlace rfl rfl (Nat.le_of_ble_eq_true rfl) (Nat.le_of_ble_eq_true rfl) (by decide) (ty_0 hS.1.1) ?_
  refine Tr.imp (Tr.deep (by decide) (sp_X11_stretchPlace_0 hS.1 ((St.kp hS (by decide) (by decide) (by decide)).trans en_0_9) a1 (by omega) a2 (by omega))) ?_
  rintro M3 _ ⟨h3, r3, rfl, lr3, ur3, z3_0⟩
  have hS := St.tr hS h3 (by decide) (by decide)
  have ka3_63_0 : rd M3 63 0 = g63_0 := ((St.kp h3 (by decide) (by decide) (by decide)).trans eg63_0)
  refine Tr.sc [(0, r3)] rfl ?_
  refine Tr.istore (pc := 6) (i := 4) (ls2 := [(4, (0, r3)), (0, (2, 0)), (1, (0, a1)), (2, (0, a2)), (3, (0, a3))]) d_X11_stretch_6 (by decide) rfl ?_
  refine Tr.iload (pc := 8) (i := 4) d_X11_stretch_8 rfl ?_
  refine Tr.tp (-1) (by omega) ?_
  refine Tr.if_ge (pc := 10) (tgt := 15) d_X11_stretch_10 rfl (fun hc => absurd hc (by omega)) (fun _ => ?_)
  refine Tr.iconst (pc := 13) d_X11_stretch_13 (by decide) ?_
  exact Tr.iret (pc := 14) d_X11_stretch_14 rfl ⟨hS, _, rfl, by omega, by omega⟩

def ws_X8_placeOf_63 : List (Int × Int) := []
def as_X8_placeOf_63 : List Int := []
def q_X8_placeOf_63 (a1 : Int) (a2 : Int) (M0 M' : Mem) (r : Option PV) : Prop := St Tru ws_X8_placeOf_63 as_X8_placeOf_63 M0 M' ∧ ∃ v : Int, r = some (0, v) ∧ (-1) ≤ v ∧ v ≤ 2015 ∧ (v < rd M' 63 0 ∨ v = -1)
set_option maxRecDepth 100000 in
set_option maxHeartbeats 4000000 in
theorem sp_X8_placeOf_63 {l : Launch} {K : EC} {M0 : Mem} (hI : In Tru M0)  (a1 : Int) (ha1 : 0 ≤ a1 ∧ a1 ≤ 5) (a2 : Int) (ha2 : 0 ≤ a2 ∧ a2 ≤ 2147483647)  : Tr l K 0 mX8_placeOf 0 [(0, (2, 63)), (1, (0, a1)), (2, (0, a2))] [] M0 (q_X8_placeOf_63 a1 a2 M0) := by
  have hS : St Tru ws_X8_placeOf_63 as_X8_placeOf_63 M0 M0 := St.rf hI
  obtain ⟨g63_1, eg63_1⟩ : ∃ v, rd M0 63 1 = v := ⟨_, rfl⟩
  have bg63_1 : (-1000000000) ≤ g63_1 ∧ g63_1 ≤ 1000000000 := by rw [← eg63_1]; exact ir_63_1 hI.2.1
  obtain ⟨g63_0, eg63_0⟩ : ∃ v, rd M0 63 0 = v := ⟨_, rfl⟩
  have bg63_0 : (-2147483648) ≤ g63_0 ∧ g63_0 ≤ 2147483647 := by rw [← eg63_0]; exact ir_63_0 hI.2.1
  refine Tr.iconst (pc := 0) d_X8_placeOf_0 (by decide) ?_
  refine Tr.istore_n (pc := 1) (i := 3) (ls2 := [(3, (0, 0)), (0, (2, 63)), (1, (0, a1)), (2, (0, a2))]) d_X8_placeOf_1 rfl (by decide) rfl ?_
  refine Tr.iconst (pc := 2) d_X8_placeOf_2 (by decide) ?_
  refine Tr.istore (pc := 3) (i := 4) (ls2 := [(4, (0, 0)), (3, (0, 0)), (0, (2, 63)), (1, (0, a1)), (2, (0, a2))]) d_X8_placeOf_3 (by decide) rfl ?_
  have J5 : ∀ (n5 : Nat) (M : Mem) (p5_3 p5_4 : Int), St Tru ws_X8_placeOf_63 as_X8_placeOf_63 M0 M → ((-2147483648) ≤ p5_3 ∧ p5_3 ≤ 2147483647) → (0 ≤ p5_4 ∧ p5_4 ≤ 2016) → rd M 63 0 = g63_0 → rd M 63 1 = g63_1 → (2016 - p5_4).toNat < n5 → Tr l K 0 mX8_placeOf 5 [(0, (2, 63)), (1, (0, a1)), (2, (0, a2)), (3, (0, p5_3)), (4, (0, p5_4))] [] M (q_X8_placeOf_63 a1 a2 M0) := by
    intro n5
    induction n5 with
    | zero => intro M p5_3 p5_4 hS bp5_3 bp5_4 k5_63_0 k5_63_1 hm5; exact absurd hm5 (Nat.not_lt_zero _)
    | succ n5 J5 =>
      intro M p5_3 p5_4 hS bp5_3 bp5_4 k5_63_0 k5_63_1 hm5
      refine Tr.iload (pc := 5) (i := 4) d_X8_placeOf_5 rfl ?_
      refine Tr.aload_n (pc := 7) (i := 0) d_X8_placeOf_7 rfl rfl ?_
      refine Tr.getf (pc := 8) d_X8_placeOf_8 f_8_43 (by decide) (by decide) (ty_63 hS.1.1) ?_
      refine Tr.tp g63_0 k5_63_0 ?_
      refine Tr.icmp_ge (pc := 11) (tgt := 42) d_X8_placeOf_11 rfl (fun c11 => ?_) (fun c11 => ?_)
      · refine Tr.iconst (pc := 42) d_X8_placeOf_42 (by decide) ?_
        have kr_63_0 : rd M 63 0 = g63_0 := k5_63_0
        exact Tr.iret (pc := 43) d_X8_placeOf_43 rfl ⟨hS, _, rfl, by omega, by omega, by omega⟩
      · refine Tr.aload_n (pc := 14) (i := 0) d_X8_placeOf_14 rfl rfl ?_
        refine Tr.getf (pc := 15) d_X8_placeOf_15 f_8_9 (by decide) (by decide) (ty_63 hS.1.1) ?_
        refine Tr.gen (P := fun v => v = tref g63_1 1) (tl_ref hS k5_63_1 (by decide)) (fun t15 et15 bt15 => ?_)
        refine Tr.iload (pc := 18) (i := 4) d_X8_placeOf_18 rfl ?_
        have nk20_0 : rd M 63 0 = g63_0 := k5_63_0
        have nn20 := tl_n hS k5_63_1
        refine Tr.iald (pc := 20) d_X8_placeOf_20 (tl_tyI hS k5_63_1 (j := 1) (by decide) (by decide) bt15) (by omega) (by omega) ?_
        refine Tr.gen (P := fun v => 0 ≤ v ∧ v ≤ 5) (tl_eP hS k5_63_1 (j := 1) (by decide) (by decide) bt15 (by omega) (by omega)) (fun r20 er20 br20 => ?_)
        refine Tr.iload_n (pc := 21) (i := 1) d_X8_placeOf_21 rfl rfl ?_
        have J36 : ∀ (M : Mem) (p36_3 : Int), St Tru ws_X8_placeOf_63 as_X8_placeOf_63 M0 M → ((-2147483648) ≤ p36_3 ∧ p36_3 ≤ 2147483647) → rd M 63 0 = g63_0 → rd M 63 1 = g63_1 → Tr l K 0 mX8_placeOf 36 [(0, (2, 63)), (1, (0, a1)), (2, (0, a2)), (3, (0, p36_3)), (4, (0, p5_4))] [] M (q_X8_placeOf_63 a1 a2 M0) := by
          intro M p36_3 hS bp36_3 k36_63_0 k36_63_1
          refine Tr.iincV (pc := 36) (n2 := (p5_4 + 1)) (ls2 := [(4, (0, (p5_4 + 1))), (0, (2, 63)), (1, (0, a1)), (2, (0, a2)), (3, (0, p36_3))]) d_X8_placeOf_36 rfl (by decide) ((w32_id (by omega)).trans (by omega)) rfl ?_
          refine Tr.goto (pc := 39) (tgt := 5) d_X8_placeOf_39 rfl ?_
          refine Tr.pick [1, 2, 3, 4, 0] (ls2 := [(0, (2, 63)), (1, (0, a1)), (2, (0, a2)), (3, (0, p36_3)), (4, (0, (p5_4 + 1)))]) rfl ?_
          exact J5 _ _ _ hS (by omega) (by omega) k36_63_0 k36_63_1 (by omega)
        refine Tr.icmp_ne (pc := 22) (tgt := 36) d_X8_placeOf_22 rfl (fun c22 => ?_) (fun c22 => ?_)
        · refine Tr.pick [0, 1, 2, 3, 4] (ls2 := [(0, (2, 63)), (1, (0, a1)), (2, (0, a2)), (3, (0, p5_3)), (4, (0, p5_4))]) rfl ?_
          exact J36 _ _ hS (by omega) k5_63_0 k5_63_1
        · refine Tr.iload_n (pc := 25) (i := 3) d_X8_placeOf_25 rfl rfl ?_
          refine Tr.iload_n (pc := 26) (i := 2) d_X8_placeOf_26 rfl rfl ?_
          refine Tr.icmp_ne (pc := 27) (tgt := 33) d_X8_placeOf_27 rfl (fun c27 => ?_) (fun c27 => ?_)
          · refine Tr.iincG (pc := 33) d_X8_placeOf_33 rfl (by decide) (fun r33 br33 => ?_)
            refine Tr.lc [(3, (0, r33)), (0, (2, 63)), (1, (0, a1)), (2, (0, a2)), (4, (0, p5_4))] rfl ?_
            refine Tr.pick [1, 2, 3, 0, 4] (ls2 := [(0, (2, 63)), (1, (0, a1)), (2, (0, a2)), (3, (0, r33)), (4, (0, p5_4))]) rfl ?_
            exact J36 _ _ hS (by omega) k5_63_0 k5_63_1
          · refine Tr.iload (pc := 30) (i := 4) d_X8_placeOf_30 rfl ?_
            have kr_63_0 : rd M 63 0 = g63_0 := k5_63_0
            exact Tr.iret (pc := 32) d_X8_placeOf_32 rfl ⟨hS, _, rfl, by omega, by omega, by omega⟩
  refine Tr.pick [2, 3, 4, 1, 0] (ls2 := [(0, (2, 63)), (1, (0, a1)), (2, (0, a2)), (3, (0, 0)), (4, (0, 0))]) rfl ?_
  exact J5 _ _ _ _ hS (by omega) (by omega) eg63_0 eg63_1 (Nat.lt_succ_self _)

def ws_X11_stretchPlace_0_w1 : List (Int × Int) := []
def as_X11_stretchPlace_0_w1 : List Int := []
def q_X11_stretchPlace_0_w1 (a1 : Int) (a2 : Int) (M0 M' : Mem) (r : Option PV) : Prop := St Tru ws_X11_stretchPlace_0_w1 as_X11_stretchPlace_0_w1 M0 M' ∧ ∃ v : Int, r = some (0, v) ∧ (-1) ≤ v ∧ v ≤ 2015 ∧ (v < rd M' 63 0 ∨ v = -1)
set_option maxRecDepth 100000 in
set_option maxHeartbeats 4000000 in
theorem sp_X11_stretchPlace_0_w1 {l : Launch} {K : EC} {M0 : Mem} (hI : In Tru M0) (en_0_4 : rd M0 0 4 = 7) (en_0_9 : rd M0 0 9 = 1) (a1 : Int) (ha1 : (-2147483648) ≤ a1 ∧ a1 ≤ 2147483647) (a2 : Int) (ha2 : (-2147483648) ≤ a2 ∧ a2 ≤ 2147483647)  : Tr l K 1 mX11_stretchPlace 0 [(0, (2, 0)), (1, (0, a1)), (2, (0, a2))] [] M0 (q_X11_stretchPlace_0_w1 a1 a2 M0) := by
  have hS : St Tru ws_X11_stretchPlace_0_w1 as_X11_stretchPlace_0_w1 M0 M0 := St.rf hI
  obtain ⟨g63_1, eg63_1⟩ : ∃ v, rd M0 63 1 = v := ⟨_, rfl⟩
  have bg63_1 : (-1000000000) ≤ g63_1 ∧ g63_1 ≤ 1000000000 := by rw [← eg63_1]; exact ir_63_1 hI.2.1
  obtain ⟨g63_0, eg63_0⟩ : ∃ v, rd M0 63 0 = v := ⟨_, rfl⟩
  have bg63_0 : (-2147483648) ≤ g63_0 ∧ g63_0 ≤ 2147483647 := by rw [← eg63_0]; exact ir_63_0 hI.2.1
  refine Tr.aload_n (pc := 0) (i := 0) d_X11_stretchPlace_0 rfl rfl ?_
  refine Tr.getz (pc := 1) d_X11_stretchPlace_1 f_11_109 (by decide) (ty_0 hS.1.1) ?_
  refine Tr.tp 1 ((St.kp hS (by decide) (by decide) (by decide)).trans en_0_9) ?_
  refine Tr.if_eq (pc := 4) (tgt := 19) d_X11_stretchPlace_4 rfl (fun hc => absurd hc (by omega)) (fun _ => ?_)
  refine Tr.aload_n (pc := 7) (i := 0) d_X11_stretchPlace_7 rfl rfl ?_
  refine Tr.iload_n (pc := 8) (i := 1) d_X11_stretchPlace_8 rfl rfl ?_
  refine Tr.callV (pc := 9) (as := [_]) d_X11_stretchPlace_9 s_11_174 ok_X11_isPart rfl rfl (Nat.le_of_ble_eq_true rfl) (Nat.le_of_ble_eq_true rfl) (by decide) (ty_0 hS.1.1) ?_
  refine Tr.imp (Tr.deep (by decide) (sp_X11_isPart_0 hS.1 ((St.kp hS (by decide) (by decide) (by decide)).trans en_0_4) a1 (by omega))) ?_
  rintro M9 _ ⟨h9, r9, rfl, lr9, ur9, wr9⟩
  have hS := St.tr hS h9 (by decide) (by decide)
  refine Tr.sc [(0, r9)] rfl ?_
  refine Tr.if_eq (pc := 12) (tgt := 19) d_X11_stretchPlace_12 rfl (fun c12 => ?_) (fun c12 => ?_)
  · refine Tr.iconst (pc := 19) d_X11_stretchPlace_19 (by decide) ?_
    have kr_63_0 : rd M9 63 0 = g63_0 := ((St.kp h9 (by decide) (by decide) (by decide)).trans eg63_0)
    exact Tr.iret (pc := 20) d_X11_stretchPlace_20 rfl ⟨hS, _, rfl, by omega, by omega, by omega⟩
  · refine Tr.iload_n (pc := 15) (i := 2) d_X11_stretchPlace_15 rfl rfl ?_
    refine Tr.if_ge (pc := 16) (tgt := 21) d_X11_stretchPlace_16 rfl (fun c16 => ?_) (fun c16 => ?_)
    · refine Tr.aload_n (pc := 21) (i := 0) d_X11_stretchPlace_21 rfl rfl ?_
      refine Tr.getf (pc := 22) d_X11_stretchPlace_22 f_11_46 (by decide) (by decide) (ty_0 hS.1.1) ?_
      refine Tr.tp 48 (fx_0_7 hS.1.1) ?_
      refine Tr.getf (pc := 25) d_X11_stretchPlace_25 f_11_178 (by decide) (by decide) (ty_48 hS.1.1) ?_
      refine Tr.tp 56 (fx_48_0 hS.1.1) ?_
      refine Tr.getf (pc := 28) d_X11_stretchPlace_28 f_11_201 (by decide) (by decide) (ty_56 hS.1.1) ?_
      refine Tr.tp 63 (fx_56_8 hS.1.1) ?_
      refine Tr.iload_n (pc := 31) (i := 1) d_X11_stretchPlace_31 rfl rfl ?_
      refine Tr.iload_n (pc := 32) (i := 2) d_X11_stretchPlace_32 rfl rfl ?_
      refine Tr.callV (pc := 33) (as := [_, _]) d_X11_stretchPlace_33 s_11_210 ok_X8_placeOf rfl rfl (Nat.le_of_ble_eq_true rfl) (Nat.le_of_ble_eq_true rfl) (by decide) (ty_63 hS.1.1) ?_
      refine Tr.imp (Tr.deep (by decide) (sp_X8_placeOf_63 hS.1 a1 (by omega) a2 (by omega))) ?_
      rintro M33 _ ⟨h33, r33, rfl, lr33, ur33, z33_0⟩
      have hS := St.tr hS h33 (by decide) (by decide)
      have ka33_63_0 : rd M33 63 0 = g63_0 := ((St.kp h33 (by decide) (by decide) (by decide)).trans ((St.kp h9 (by decide) (by decide) (by decide)).trans eg63_0))
      refine Tr.sc [(0, r33)] rfl ?_
      have kr_63_0 : rd M33 63 0 = g63_0 := ((St.kp h33 (by decide) (by decide) (by decide)).trans ((St.kp h9 (by decide) (by decide) (by decide)).trans eg63_0))
      exact Tr.iret (pc := 36) d_X11_stretchPlace_36 rfl ⟨hS, _, rfl, by omega, by omega, by omega⟩
    · refine Tr.iconst (pc := 19) d_X11_stretchPlace_19 (by decide) ?_
      have kr_63_0 : rd M9 63 0 = g63_0 := ((St.kp h9 (by decide) (by decide) (by decide)).trans eg63_0)
      exact Tr.iret (pc := 20) d_X11_stretchPlace_20 rfl ⟨hS, _, rfl, by omega, by omega, by omega⟩

def ws_X11_stretch_0_w1 : List (Int × Int) := []
def as_X11_stretch_0_w1 : List Int := []
def q_X11_stretch_0_w1 (M0 M' : Mem) (r : Option PV) : Prop := St Tru ws_X11_stretch_0_w1 as_X11_stretch_0_w1 M0 M' ∧ ∃ v : Int, r = some (0, v) ∧ (-2147483648) ≤ v ∧ v ≤ 2147483647
set_option maxRecDepth 100000 in
set_option maxHeartbeats 4000000 in
theorem sp_X11_stretch_0_w1 {l : Launch} {K : EC} {M0 : Mem} (hI : In Tru M0) (en_0_4 : rd M0 0 4 = 7) (en_0_9 : rd M0 0 9 = 1) (a1 : Int) (ha1 : (-2147483648) ≤ a1 ∧ a1 ≤ 2147483647) (a2 : Int) (ha2 : (-2147483648) ≤ a2 ∧ a2 ≤ 2147483647) (a3 : Int) (ha3 : (-2147483648) ≤ a3 ∧ a3 ≤ 2147483647)  : Tr l K 2 mX11_stretch 0 [(0, (2, 0)), (1, (0, a1)), (2, (0, a2)), (3, (0, a3))] [] M0 (q_X11_stretch_0_w1 M0) := by
  have hS : St Tru ws_X11_stretch_0_w1 as_X11_stretch_0_w1 M0 M0 := St.rf hI
  obtain ⟨g63_1, eg63_1⟩ : ∃ v, rd M0 63 1 = v := ⟨_, rfl⟩
  have bg63_1 : (-1000000000) ≤ g63_1 ∧ g63_1 ≤ 1000000000 := by rw [← eg63_1]; exact ir_63_1 hI.2.1
  obtain ⟨g63_0, eg63_0⟩ : ∃ v, rd M0 63 0 = v := ⟨_, rfl⟩
  have bg63_0 : (-2147483648) ≤ g63_0 ∧ g63_0 ≤ 2147483647 := by rw [← eg63_0]; exact ir_63_0 hI.2.1
  refine Tr.aload_n (pc := 0) (i := 0) d_X11_stretch_0 rfl rfl ?_
  refine Tr.iload_n (pc := 1) (i := 1) d_X11_stretch_1 rfl rfl ?_
  refine Tr.iload_n (pc := 2) (i := 2) d_X11_stretch_2 rfl rfl ?_
  refine Tr.callV (pc := 3) (as := [_, _]) d_X11_stretch_3 s_11_214 ok_X11_stretchPlace rfl rfl (Nat.le_of_ble_eq_true rfl) (Nat.le_of_ble_eq_true rfl) (by decide) (ty_0 hS.1.1) ?_
  refine Tr.imp (Tr.deep (by decide) (sp_X11_stretchPlace_0_w1 hS.1 ((St.kp hS (by decide) (by decide) (by decide)).trans en_0_4) ((St.kp hS (by decide) (by decide) (by decide)).trans en_0_9) a1 (by omega) a2 (by omega))) ?_
  rintro M3 _ ⟨h3, r3, rfl, lr3, ur3, z3_0⟩
  have hS := St.tr hS h3 (by decide) (by decide)
  have ka3_63_0 : rd M3 63 0 = g63_0 := ((St.kp h3 (by decide) (by decide) (by decide)).trans eg63_0)
  refine Tr.sc [(0, r3)] rfl ?_
  refine Tr.istore (pc := 6) (i := 4) (ls2 := [(4, (0, r3)), (0, (2, 0)), (1, (0, a1)), (2, (0, a2)), (3, (0, a3))]) d_X11_stretch_6 (by decide) rfl ?_
  refine Tr.iload (pc := 8) (i := 4) d_X11_stretch_8 rfl ?_
  refine Tr.if_ge (pc := 10) (tgt := 15) d_X11_stretch_10 rfl (fun c10 => ?_) (fun c10 => ?_)
  · refine Tr.aload_n (pc := 15) (i := 0) d_X11_stretch_15 rfl rfl ?_
    refine Tr.getf (pc := 16) d_X11_stretch_16 f_11_46 (by decide) (by decide) (ty_0 hS.1.1) ?_
    refine Tr.tp 48 (fx_0_7 hS.1.1) ?_
    refine Tr.getf (pc := 19) d_X11_stretch_19 f_11_178 (by decide) (by decide) (ty_48 hS.1.1) ?_
    refine Tr.tp 56 (fx_48_0 hS.1.1) ?_
    refine Tr.getf (pc := 22) d_X11_stretch_22 f_11_201 (by decide) (by decide) (ty_56 hS.1.1) ?_
    refine Tr.tp 63 (fx_56_8 hS.1.1) ?_
    refine Tr.astore (pc := 25) (i := 5) (ls2 := [(5, (2, 63)), (4, (0, r3)), (0, (2, 0)), (1, (0, a1)), (2, (0, a2)), (3, (0, a3))]) d_X11_stretch_25 (by decide) rfl ?_
    refine Tr.iload_n (pc := 27) (i := 3) d_X11_stretch_27 rfl rfl ?_
    rcases (show (a3 < 0 ∨ 2 < a3) ∨ a3 = 0 ∨ a3 = 1 ∨ a3 = 2 by omega) with c28 | c28 | c28 | c28
    · refine Tr.tswOut (pc := 28) (tgt := 83) d_X11_stretch_28 c28 rfl ?_
      refine Tr.iconst (pc := 83) d_X11_stretch_83 (by decide) ?_
      exact Tr.iret (pc := 84) d_X11_stretch_84 rfl ⟨hS, _, rfl, by omega, by omega⟩
    · refine Tr.tp 0 c28 ?_
      refine Tr.tswIn (pc := 28) (off := 28) (tgt := 56) d_X11_stretch_28 (by decide) (by decide) rfl rfl ?_
      refine Tr.aload (pc := 56) (i := 5) d_X11_stretch_56 rfl ?_
      refine Tr.getf (pc := 58) d_X11_stretch_58 f_11_217 (by decide) (by decide) (ty_63 hS.1.1) ?_
      refine Tr.gen (P := fun v => v = tref g63_1 2) (tl_ref hS ((St.kp h3 (by decide) (by decide) (by decide)).trans eg63_1) (by decide)) (fun t58 et58 bt58 => ?_)
      refine Tr.iload (pc := 61) (i := 4) d_X11_stretch_61 rfl ?_
      have nk63_0 : rd M3 63 0 = g63_0 := ((St.kp h3 (by decide) (by decide) (by decide)).trans eg63_0)
      have nn63 := tl_n hS ((St.kp h3 (by decide) (by decide) (by decide)).trans eg63_1)
      refine Tr.iald (pc := 63) d_X11_stretch_63 (tl_tyI hS ((St.kp h3 (by decide) (by decide) (by decide)).trans eg63_1) (j := 2) (by decide) (by decide) bt58) (by omega) (by omega) ?_
      refine Tr.gen (P := fun v => (-2147483648) ≤ v ∧ v ≤ 2147483647) (tl_eI hS ((St.kp h3 (by decide) (by decide) (by decide)).trans eg63_1) (j := 2) (by decide) (by decide) bt58 (by omega) (by omega)) (fun r63 er63 br63 => ?_)
      exact Tr.iret (pc := 64) d_X11_stretch_64 rfl ⟨hS, _, rfl, by omega, by omega⟩
    · refine Tr.tp 1 c28 ?_
      refine Tr.tswIn (pc := 28) (off := 37) (tgt := 65) d_X11_stretch_28 (by decide) (by decide) rfl rfl ?_
      refine Tr.aload (pc := 65) (i := 5) d_X11_stretch_65 rfl ?_
      refine Tr.getf (pc := 67) d_X11_stretch_67 f_11_220 (by decide) (by decide) (ty_63 hS.1.1) ?_
      refine Tr.gen (P := fun v => v = tref g63_1 3) (tl_ref hS ((St.kp h3 (by decide) (by decide) (by decide)).trans eg63_1) (by decide)) (fun t67 et67 bt67 => ?_)
      refine Tr.iload (pc := 70) (i := 4) d_X11_stretch_70 rfl ?_
      have nk72_0 : rd M3 63 0 = g63_0 := ((St.kp h3 (by decide) (by decide) (by decide)).trans eg63_0)
      have nn72 := tl_n hS ((St.kp h3 (by decide) (by decide) (by decide)).trans eg63_1)
      refine Tr.iald (pc := 72) d_X11_stretch_72 (tl_tyI hS ((St.kp h3 (by decide) (by decide) (by decide)).trans eg63_1) (j := 3) (by decide) (by decide) bt67) (by omega) (by omega) ?_
      refine Tr.gen (P := fun v => (-2147483648) ≤ v ∧ v ≤ 2147483647) (tl_eI hS ((St.kp h3 (by decide) (by decide) (by decide)).trans eg63_1) (j := 3) (by decide) (by decide) bt67 (by omega) (by omega)) (fun r72 er72 br72 => ?_)
      exact Tr.iret (pc := 73) d_X11_stretch_73 rfl ⟨hS, _, rfl, by omega, by omega⟩
    · refine Tr.tp 2 c28 ?_
      refine Tr.tswIn (pc := 28) (off := 46) (tgt := 74) d_X11_stretch_28 (by decide) (by decide) rfl rfl ?_
      refine Tr.aload (pc := 74) (i := 5) d_X11_stretch_74 rfl ?_
      refine Tr.getf (pc := 76) d_X11_stretch_76 f_11_223 (by decide) (by decide) (ty_63 hS.1.1) ?_
      refine Tr.gen (P := fun v => v = tref g63_1 4) (tl_ref hS ((St.kp h3 (by decide) (by decide) (by decide)).trans eg63_1) (by decide)) (fun t76 et76 bt76 => ?_)
      refine Tr.iload (pc := 79) (i := 4) d_X11_stretch_79 rfl ?_
      have nk81_0 : rd M3 63 0 = g63_0 := ((St.kp h3 (by decide) (by decide) (by decide)).trans eg63_0)
      have nn81 := tl_n hS ((St.kp h3 (by decide) (by decide) (by decide)).trans eg63_1)
      refine Tr.iald (pc := 81) d_X11_stretch_81 (tl_tyI hS ((St.kp h3 (by decide) (by decide) (by decide)).trans eg63_1) (j := 4) (by decide) (by decide) bt76) (by omega) (by omega) ?_
      refine Tr.gen (P := fun v => (-2147483648) ≤ v ∧ v ≤ 2147483647) (tl_eI hS ((St.kp h3 (by decide) (by decide) (by decide)).trans eg63_1) (j := 4) (by decide) (by decide) bt76 (by omega) (by omega)) (fun r81 er81 br81 => ?_)
      exact Tr.iret (pc := 82) d_X11_stretch_82 rfl ⟨hS, _, rfl, by omega, by omega⟩
  · refine Tr.iconst (pc := 13) d_X11_stretch_13 (by decide) ?_
    exact Tr.iret (pc := 14) d_X11_stretch_14 rfl ⟨hS, _, rfl, by omega, by omega⟩

def ws_X11_lines_0 : List (Int × Int) := []
def as_X11_lines_0 : List Int := []
def q_X11_lines_0 (M0 M' : Mem) (r : Option PV) : Prop := St Tru ws_X11_lines_0 as_X11_lines_0 M0 M' ∧ ∃ v : Int, r = some (1, v) ∧ 0 ≤ v ∧ v ≤ 0
set_option maxRecDepth 100000 in
set_option maxHeartbeats 4000000 in
theorem sp_X11_lines_0 {l : Launch} {K : EC} {M0 : Mem} (hI : In Tru M0) (en_0_9 : rd M0 0 9 = 0) (a1 : Int) (ha1 : (-2147483648) ≤ a1 ∧ a1 ≤ 2147483647) (a2 : Int) (ha2 : (-2147483648) ≤ a2 ∧ a2 ≤ 2147483647)  : Tr l K 1 mX11_lines 0 [(0, (2, 0)), (1, (0, a1)), (2, (0, a2))] [] M0 (q_X11_lines_0 M0) := by
  have hS : St Tru ws_X11_lines_0 as_X11_lines_0 M0 M0 := St.rf hI
  obtain ⟨g63_1, eg63_1⟩ : ∃ v, rd M0 63 1 = v := ⟨_, rfl⟩
  have bg63_1 : (-1000000000) ≤ g63_1 ∧ g63_1 ≤ 1000000000 := by rw [← eg63_1]; exact ir_63_1 hI.2.1
  obtain ⟨g63_0, eg63_0⟩ : ∃ v, rd M0 63 0 = v := ⟨_, rfl⟩
  have bg63_0 : (-2147483648) ≤ g63_0 ∧ g63_0 ≤ 2147483647 := by rw [← eg63_0]; exact ir_63_0 hI.2.1
  refine Tr.aload_n (pc := 0) (i := 0) d_X11_lines_0 rfl rfl ?_
  refine Tr.iload_n (pc := 1) (i := 1) d_X11_lines_1 rfl rfl ?_
  refine Tr.iload_n (pc := 2) (i := 2) d_X11_lines_2 rfl rfl ?_
  refine Tr.callV (pc := 3) (as := [_, _]) d_X11_lines_3 s_11_214 ok_X11_stretchPlace rfl rfl (Nat.le_of_ble_eq_true rfl) (Nat.le_of_ble_eq_true rfl) (by decide) (ty_0 hS.1.1) ?_
  refine Tr.imp (Tr.deep (by decide) (sp_X11_stretchPlace_0 hS.1 ((St.kp hS (by decide) (by decide) (by decide)).trans en_0_9) a1 (by omega) a2 (by omega))) ?_
  rintro M3 _ ⟨h3, r3, rfl, lr3, ur3, z3_0⟩
  have hS := St.tr hS h3 (by decide) (by decide)
  have ka3_63_0 : rd M3 63 0 = g63_0 := ((St.kp h3 (by decide) (by decide) (by decide)).trans eg63_0)
  refine Tr.sc [(0, r3)] rfl ?_
  refine Tr.istore_n (pc := 6) (i := 3) (ls2 := [(3, (0, r3)), (0, (2, 0)), (1, (0, a1)), (2, (0, a2))]) d_X11_lines_6 rfl (by decide) rfl ?_
  refine Tr.iload_n (pc := 7) (i := 3) d_X11_lines_7 rfl rfl ?_
  refine Tr.tp (-1) (by omega) ?_
  refine Tr.if_ge (pc := 8) (tgt := 15) d_X11_lines_8 rfl (fun hc => absurd hc (by omega)) (fun _ => ?_)
  refine Tr.lconst (pc := 11) (v := 0) d_X11_lines_11 rfl (by decide) ?_
  refine Tr.goto (pc := 12) (tgt := 30) d_X11_lines_12 rfl ?_
  exact Tr.lret (pc := 30) d_X11_lines_30 rfl ⟨hS, _, rfl, by omega, by omega⟩

def ws_X11_lines_0_w1 : List (Int × Int) := []
def as_X11_lines_0_w1 : List Int := []
def q_X11_lines_0_w1 (M0 M' : Mem) (r : Option PV) : Prop := St Tru ws_X11_lines_0_w1 as_X11_lines_0_w1 M0 M' ∧ ∃ v : Int, r = some (1, v) ∧ (-9223372036854775808) ≤ v ∧ v ≤ 9223372036854775807
set_option maxRecDepth 100000 in
set_option maxHeartbeats 4000000 in
theorem sp_X11_lines_0_w1 {l : Launch} {K : EC} {M0 : Mem} (hI : In Tru M0) (en_0_4 : rd M0 0 4 = 7) (en_0_9 : rd M0 0 9 = 1) (a1 : Int) (ha1 : (-2147483648) ≤ a1 ∧ a1 ≤ 2147483647) (a2 : Int) (ha2 : (-2147483648) ≤ a2 ∧ a2 ≤ 2147483647)  : Tr l K 2 mX11_lines 0 [(0, (2, 0)), (1, (0, a1)), (2, (0, a2))] [] M0 (q_X11_lines_0_w1 M0) := by
  have hS : St Tru ws_X11_lines_0_w1 as_X11_lines_0_w1 M0 M0 := St.rf hI
  obtain ⟨g63_1, eg63_1⟩ : ∃ v, rd M0 63 1 = v := ⟨_, rfl⟩
  have bg63_1 : (-1000000000) ≤ g63_1 ∧ g63_1 ≤ 1000000000 := by rw [← eg63_1]; exact ir_63_1 hI.2.1
  obtain ⟨g63_0, eg63_0⟩ : ∃ v, rd M0 63 0 = v := ⟨_, rfl⟩
  have bg63_0 : (-2147483648) ≤ g63_0 ∧ g63_0 ≤ 2147483647 := by rw [← eg63_0]; exact ir_63_0 hI.2.1
  refine Tr.aload_n (pc := 0) (i := 0) d_X11_lines_0 rfl rfl ?_
  refine Tr.iload_n (pc := 1) (i := 1) d_X11_lines_1 rfl rfl ?_
  refine Tr.iload_n (pc := 2) (i := 2) d_X11_lines_2 rfl rfl ?_
  refine Tr.callV (pc := 3) (as := [_, _]) d_X11_lines_3 s_11_214 ok_X11_stretchPlace rfl rfl (Nat.le_of_ble_eq_true rfl) (Nat.le_of_ble_eq_true rfl) (by decide) (ty_0 hS.1.1) ?_
  refine Tr.imp (Tr.deep (by decide) (sp_X11_stretchPlace_0_w1 hS.1 ((St.kp hS (by decide) (by decide) (by decide)).trans en_0_4) ((St.kp hS (by decide) (by decide) (by decide)).trans en_0_9) a1 (by omega) a2 (by omega))) ?_
  rintro M3 _ ⟨h3, r3, rfl, lr3, ur3, z3_0⟩
  have hS := St.tr hS h3 (by decide) (by decide)
  have ka3_63_0 : rd M3 63 0 = g63_0 := ((St.kp h3 (by decide) (by decide) (by decide)).trans eg63_0)
  refine Tr.sc [(0, r3)] rfl ?_
  refine Tr.istore_n (pc := 6) (i := 3) (ls2 := [(3, (0, r3)), (0, (2, 0)), (1, (0, a1)), (2, (0, a2))]) d_X11_lines_6 rfl (by decide) rfl ?_
  refine Tr.iload_n (pc := 7) (i := 3) d_X11_lines_7 rfl rfl ?_
  refine Tr.if_ge (pc := 8) (tgt := 15) d_X11_lines_8 rfl (fun c8 => ?_) (fun c8 => ?_)
  · refine Tr.aload_n (pc := 15) (i := 0) d_X11_lines_15 rfl rfl ?_
    refine Tr.getf (pc := 16) d_X11_lines_16 f_11_46 (by decide) (by decide) (ty_0 hS.1.1) ?_
    refine Tr.tp 48 (fx_0_7 hS.1.1) ?_
    refine Tr.getf (pc := 19) d_X11_lines_19 f_11_178 (by decide) (by decide) (ty_48 hS.1.1) ?_
    refine Tr.tp 56 (fx_48_0 hS.1.1) ?_
    refine Tr.getf (pc := 22) d_X11_lines_22 f_11_201 (by decide) (by decide) (ty_56 hS.1.1) ?_
    refine Tr.tp 63 (fx_56_8 hS.1.1) ?_
    refine Tr.getf (pc := 25) d_X11_lines_25 f_11_226 (by decide) (by decide) (ty_63 hS.1.1) ?_
    refine Tr.gen (P := fun v => v = tref g63_1 5) (tl_ref hS ((St.kp h3 (by decide) (by decide) (by decide)).trans eg63_1) (by decide)) (fun t25 et25 bt25 => ?_)
    refine Tr.iload_n (pc := 28) (i := 3) d_X11_lines_28 rfl rfl ?_
    have nk29_0 : rd M3 63 0 = g63_0 := ((St.kp h3 (by decide) (by decide) (by decide)).trans eg63_0)
    have nn29 := tl_n hS ((St.kp h3 (by decide) (by decide) (by decide)).trans eg63_1)
    refine Tr.lald (pc := 29) d_X11_lines_29 (tl_tyL hS ((St.kp h3 (by decide) (by decide) (by decide)).trans eg63_1) bt25) (by omega) (by omega) ?_
    refine Tr.gen (P := fun v => (-9223372036854775808) ≤ v ∧ v ≤ 9223372036854775807) (tl_eL hS ((St.kp h3 (by decide) (by decide) (by decide)).trans eg63_1) bt25 (by omega) (by omega)) (fun r29 er29 br29 => ?_)
    exact Tr.lret (pc := 30) d_X11_lines_30 rfl ⟨hS, _, rfl, by omega, by omega⟩
  · refine Tr.lconst (pc := 11) (v := 0) d_X11_lines_11 rfl (by decide) ?_
    refine Tr.goto (pc := 12) (tgt := 30) d_X11_lines_12 rfl ?_
    exact Tr.lret (pc := 30) d_X11_lines_30 rfl ⟨hS, _, rfl, by omega, by omega⟩

def ws_X11_byTurns_0 : List (Int × Int) := []
def as_X11_byTurns_0 : List Int := []
def q_X11_byTurns_0 (M0 M' : Mem) (r : Option PV) : Prop := St Tru ws_X11_byTurns_0 as_X11_byTurns_0 M0 M' ∧ ∃ v : Int, r = some (1, v) ∧ (-1000000000000000) ≤ v ∧ v ≤ (-1000000000000000)
set_option maxRecDepth 100000 in
set_option maxHeartbeats 4000000 in
theorem sp_X11_byTurns_0 {l : Launch} {K : EC} {M0 : Mem} (hI : In Tru M0) (en_0_9 : rd M0 0 9 = 0) (a1 : Int) (ha1 : (-2147483648) ≤ a1 ∧ a1 ≤ 2147483647) (a2 : Int) (ha2 : (-2147483648) ≤ a2 ∧ a2 ≤ 2147483647) (a3 : Int) (ha3 : (-2147483648) ≤ a3 ∧ a3 ≤ 2147483647) (a4 : Int) (ha4 : 0 ≤ a4 ∧ a4 ≤ 1)  : Tr l K 1 mX11_byTurns 0 [(0, (2, 0)), (1, (0, a1)), (2, (0, a2)), (3, (0, a3)), (4, (0, a4))] [] M0 (q_X11_byTurns_0 M0) := by
  have hS : St Tru ws_X11_byTurns_0 as_X11_byTurns_0 M0 M0 := St.rf hI
  obtain ⟨g63_1, eg63_1⟩ : ∃ v, rd M0 63 1 = v := ⟨_, rfl⟩
  have bg63_1 : (-1000000000) ≤ g63_1 ∧ g63_1 ≤ 1000000000 := by rw [← eg63_1]; exact ir_63_1 hI.2.1
  obtain ⟨g63_0, eg63_0⟩ : ∃ v, rd M0 63 0 = v := ⟨_, rfl⟩
  have bg63_0 : (-2147483648) ≤ g63_0 ∧ g63_0 ≤ 2147483647 := by rw [← eg63_0]; exact ir_63_0 hI.2.1
  refine Tr.aload_n (pc := 0) (i := 0) d_X11_byTurns_0 rfl rfl ?_
  refine Tr.iload_n (pc := 1) (i := 1) d_X11_byTurns_1 rfl rfl ?_
  refine Tr.iload_n (pc := 2) (i := 2) d_X11_byTurns_2 rfl rfl ?_
  refine Tr.callV (pc := 3) (as := [_, _]) d_X11_byTurns_3 s_11_214 ok_X11_stretchPlace rfl rfl (Nat.le_of_ble_eq_true rfl) (Nat.le_of_ble_eq_true rfl) (by decide) (ty_0 hS.1.1) ?_
  refine Tr.imp (Tr.deep (by decide) (sp_X11_stretchPlace_0 hS.1 ((St.kp hS (by decide) (by decide) (by decide)).trans en_0_9) a1 (by omega) a2 (by omega))) ?_
  rintro M3 _ ⟨h3, r3, rfl, lr3, ur3, z3_0⟩
  have hS := St.tr hS h3 (by decide) (by decide)
  have ka3_63_0 : rd M3 63 0 = g63_0 := ((St.kp h3 (by decide) (by decide) (by decide)).trans eg63_0)
  refine Tr.sc [(0, r3)] rfl ?_
  refine Tr.istore (pc := 6) (i := 5) (ls2 := [(5, (0, r3)), (0, (2, 0)), (1, (0, a1)), (2, (0, a2)), (3, (0, a3)), (4, (0, a4))]) d_X11_byTurns_6 (by decide) rfl ?_
  refine Tr.iload (pc := 8) (i := 5) d_X11_byTurns_8 rfl ?_
  refine Tr.tp (-1) (by omega) ?_
  refine Tr.if_lt (pc := 10) (tgt := 21) d_X11_byTurns_10 rfl (fun _ => ?_) (fun hc => absurd (by omega) hc)
  refine Tr.ldc2 (pc := 21) d_X11_byTurns_21 kl_11_230 (by decide) ?_
  exact Tr.lret (pc := 24) d_X11_byTurns_24 rfl ⟨hS, _, rfl, by omega, by omega⟩

def ws_X11_wasted_0 : List (Int × Int) := []
def as_X11_wasted_0 : List Int := []
def q_X11_wasted_0 (M0 M' : Mem) (r : Option PV) : Prop := St Tru ws_X11_wasted_0 as_X11_wasted_0 M0 M' ∧ ∃ v : Int, r = some (0, v) ∧ (-1) ≤ v ∧ v ≤ (-1)
set_option maxRecDepth 100000 in
set_option maxHeartbeats 4000000 in
theorem sp_X11_wasted_0 {l : Launch} {K : EC} {M0 : Mem} (hI : In Tru M0) (en_0_9 : rd M0 0 9 = 0) (a1 : Int) (ha1 : (-2147483648) ≤ a1 ∧ a1 ≤ 2147483647)  : Tr l K 0 mX11_wasted 0 [(0, (2, 0)), (1, (0, a1))] [] M0 (q_X11_wasted_0 M0) := by
  have hS : St Tru ws_X11_wasted_0 as_X11_wasted_0 M0 M0 := St.rf hI
  refine Tr.aload_n (pc := 0) (i := 0) d_X11_wasted_0 rfl rfl ?_
  refine Tr.getz (pc := 1) d_X11_wasted_1 f_11_109 (by decide) (ty_0 hS.1.1) ?_
  refine Tr.tp 0 ((St.kp hS (by decide) (by decide) (by decide)).trans en_0_9) ?_
  refine Tr.if_eq (pc := 4) (tgt := 15) d_X11_wasted_4 rfl (fun _ => ?_) (fun hc => absurd (by omega) hc)
  refine Tr.iconst (pc := 15) d_X11_wasted_15 (by decide) ?_
  exact Tr.iret (pc := 16) d_X11_wasted_16 rfl ⟨hS, _, rfl, by omega, by omega⟩

def ws_X11_wasted_0_w1 : List (Int × Int) := []
def as_X11_wasted_0_w1 : List Int := []
def q_X11_wasted_0_w1 (M0 M' : Mem) (r : Option PV) : Prop := St Tru ws_X11_wasted_0_w1 as_X11_wasted_0_w1 M0 M' ∧ ∃ v : Int, r = some (0, v) ∧ (-2147483648) ≤ v ∧ v ≤ 2147483647
set_option maxRecDepth 100000 in
set_option maxHeartbeats 4000000 in
theorem sp_X11_wasted_0_w1 {l : Launch} {K : EC} {M0 : Mem} (hI : In Tru M0) (en_0_4 : rd M0 0 4 = 7) (en_0_9 : rd M0 0 9 = 1) (a1 : Int) (ha1 : (-2147483648) ≤ a1 ∧ a1 ≤ 2147483647)  : Tr l K 1 mX11_wasted 0 [(0, (2, 0)), (1, (0, a1))] [] M0 (q_X11_wasted_0_w1 M0) := by
  have hS : St Tru ws_X11_wasted_0_w1 as_X11_wasted_0_w1 M0 M0 := St.rf hI
  refine Tr.aload_n (pc := 0) (i := 0) d_X11_wasted_0 rfl rfl ?_
  refine Tr.getz (pc := 1) d_X11_wasted_1 f_11_109 (by decide) (ty_0 hS.1.1) ?_
  refine Tr.tp 1 ((St.kp hS (by decide) (by decide) (by decide)).trans en_0_9) ?_
  refine Tr.if_eq (pc := 4) (tgt := 15) d_X11_wasted_4 rfl (fun hc => absurd hc (by omega)) (fun _ => ?_)
  refine Tr.aload_n (pc := 7) (i := 0) d_X11_wasted_7 rfl rfl ?_
  refine Tr.iload_n (pc := 8) (i := 1) d_X11_wasted_8 rfl rfl ?_
  refine Tr.callV (pc := 9) (as := [_]) d_X11_wasted_9 s_11_191 ok_X11_isLine rfl rfl (Nat.le_of_ble_eq_true rfl) (Nat.le_of_ble_eq_true rfl) (by decide) (ty_0 hS.1.1) ?_
  refine Tr.imp (Tr.deep (by decide) (sp_X11_isLine_0 hS.1 ((St.kp hS (by decide) (by decide) (by decide)).trans en_0_4) a1 (by omega))) ?_
  rintro M9 _ ⟨h9, r9, rfl, lr9, ur9, wr9⟩
  have hS := St.tr hS h9 (by decide) (by decide)
  refine Tr.sc [(0, r9)] rfl ?_
  refine Tr.if_ne (pc := 12) (tgt := 17) d_X11_wasted_12 rfl (fun c12 => ?_) (fun c12 => ?_)
  · refine Tr.aload_n (pc := 17) (i := 0) d_X11_wasted_17 rfl rfl ?_
    refine Tr.getf (pc := 18) d_X11_wasted_18 f_11_46 (by decide) (by decide) (ty_0 hS.1.1) ?_
    refine Tr.tp 48 (fx_0_7 hS.1.1) ?_
    refine Tr.getf (pc := 21) d_X11_wasted_21 f_11_178 (by decide) (by decide) (ty_48 hS.1.1) ?_
    refine Tr.tp 56 (fx_48_0 hS.1.1) ?_
    refine Tr.getf (pc := 24) d_X11_wasted_24 f_11_246 (by decide) (by decide) (ty_56 hS.1.1) ?_
    refine Tr.tp 62 (fx_56_7 hS.1.1) ?_
    refine Tr.iload_n (pc := 27) (i := 1) d_X11_wasted_27 rfl rfl ?_
    refine Tr.iald (pc := 28) d_X11_wasted_28 (ty_62 hS.1.1) (by omega) (by omega) ?_
    refine Tr.gen (P := fun v => (-2147483648) ≤ v ∧ v ≤ 2147483647) (ar_62 hS.1.2.1 _) (fun r28 er28 br28 => ?_)
    exact Tr.iret (pc := 29) d_X11_wasted_29 rfl ⟨hS, _, rfl, by omega, by omega⟩
  · refine Tr.iconst (pc := 15) d_X11_wasted_15 (by decide) ?_
    exact Tr.iret (pc := 16) d_X11_wasted_16 rfl ⟨hS, _, rfl, by omega, by omega⟩

def ws_X10_chosenInput_103 : List (Int × Int) := []
def as_X10_chosenInput_103 : List Int := []
def q_X10_chosenInput_103 (M0 M' : Mem) (r : Option PV) : Prop := St Tru ws_X10_chosenInput_103 as_X10_chosenInput_103 M0 M' ∧ ∃ v : Int, r = some (0, v) ∧ (-2147483648) ≤ v ∧ v ≤ 2147483647
set_option maxRecDepth 100000 in
set_option maxHeartbeats 4000000 in
theorem sp_X10_chosenInput_103 {l : Launch} {K : EC} {M0 : Mem} (hI : In Tru M0)  (a1 : Int) (ha1 : 0 ≤ a1 ∧ a1 ≤ 2)  : Tr l K 0 mX10_chosenInput 0 [(0, (2, 103)), (1, (0, a1))] [] M0 (q_X10_chosenInput_103 M0) := by
  have hS : St Tru ws_X10_chosenInput_103 as_X10_chosenInput_103 M0 M0 := St.rf hI
  refine Tr.aload_n (pc := 0) (i := 0) d_X10_chosenInput_0 rfl rfl ?_
  refine Tr.getz (pc := 1) d_X10_chosenInput_1 f_10_21 (by decide) (ty_103 hS.1.1) ?_
  refine Tr.gen (P := fun v => 0 ≤ v ∧ v ≤ 1) (ir_103_0 hS.1.2.1) (fun r1 er1 br1 => ?_)
  refine Tr.if_ne (pc := 4) (tgt := 9) d_X10_chosenInput_4 rfl (fun c4 => ?_) (fun c4 => ?_)
  · refine Tr.aload_n (pc := 9) (i := 0) d_X10_chosenInput_9 rfl rfl ?_
    refine Tr.getz (pc := 10) d_X10_chosenInput_10 f_10_52 (by decide) (ty_103 hS.1.1) ?_
    refine Tr.gen (P := fun v => 0 ≤ v ∧ v ≤ 1) (ir_103_1 hS.1.2.1) (fun r10 er10 br10 => ?_)
    refine Tr.if_eq (pc := 13) (tgt := 25) d_X10_chosenInput_13 rfl (fun c13 => ?_) (fun c13 => ?_)
    · refine Tr.aload_n (pc := 25) (i := 0) d_X10_chosenInput_25 rfl rfl ?_
      refine Tr.getf (pc := 26) d_X10_chosenInput_26 f_10_18 (by decide) (by decide) (ty_103 hS.1.1) ?_
      refine Tr.tp 106 (fx_103_6 hS.1.1) ?_
      refine Tr.iload_n (pc := 29) (i := 1) d_X10_chosenInput_29 rfl rfl ?_
      refine Tr.iald (pc := 30) d_X10_chosenInput_30 (ty_106 hS.1.1) (by omega) (by omega) ?_
      refine Tr.gen (P := fun v => (-2147483648) ≤ v ∧ v ≤ 2147483647) (ar_106 hS.1.2.1 _) (fun r30 er30 br30 => ?_)
      exact Tr.iret (pc := 31) d_X10_chosenInput_31 rfl ⟨hS, _, rfl, by omega, by omega⟩
    · refine Tr.aload_n (pc := 16) (i := 0) d_X10_chosenInput_16 rfl rfl ?_
      refine Tr.getf (pc := 17) d_X10_chosenInput_17 f_10_15 (by decide) (by decide) (ty_103 hS.1.1) ?_
      refine Tr.tp 105 (fx_103_5 hS.1.1) ?_
      refine Tr.iload_n (pc := 20) (i := 1) d_X10_chosenInput_20 rfl rfl ?_
      refine Tr.iald (pc := 21) d_X10_chosenInput_21 (ty_105 hS.1.1) (by omega) (by omega) ?_
      refine Tr.gen (P := fun v => (-2147483648) ≤ v ∧ v ≤ 2147483647) (ar_105 hS.1.2.1 _) (fun r21 er21 br21 => ?_)
      refine Tr.goto (pc := 22) (tgt := 31) d_X10_chosenInput_22 rfl ?_
      exact Tr.iret (pc := 31) d_X10_chosenInput_31 rfl ⟨hS, _, rfl, by omega, by omega⟩
  · refine Tr.iconst (pc := 7) d_X10_chosenInput_7 (by decide) ?_
    exact Tr.iret (pc := 8) d_X10_chosenInput_8 rfl ⟨hS, _, rfl, by omega, by omega⟩

def ws_X11_where_0 : List (Int × Int) := []
def as_X11_where_0 : List Int := []
def q_X11_where_0 (M0 M' : Mem) (r : Option PV) : Prop := St Tru ws_X11_where_0 as_X11_where_0 M0 M' ∧ ∃ v : Int, r = some (0, v) ∧ (-2147483648) ≤ v ∧ v ≤ 2147483647
set_option maxRecDepth 100000 in
set_option maxHeartbeats 4000000 in
theorem sp_X11_where_0 {l : Launch} {K : EC} {M0 : Mem} (hI : In Tru M0) (en_0_4 : rd M0 0 4 = 7) (a1 : Int) (ha1 : (-2147483648) ≤ a1 ∧ a1 ≤ 2147483647)  : Tr l K 1 mX11_where 0 [(0, (2, 0)), (1, (0, a1))] [] M0 (q_X11_where_0 M0) := by
  have hS : St Tru ws_X11_where_0 as_X11_where_0 M0 M0 := St.rf hI
  refine Tr.iload_n (pc := 0) (i := 1) d_X11_where_0 rfl rfl ?_
  refine Tr.if_lt (pc := 1) (tgt := 17) d_X11_where_1 rfl (fun c1 => ?_) (fun c1 => ?_)
  · refine Tr.iconst (pc := 17) d_X11_where_17 (by decide) ?_
    exact Tr.iret (pc := 18) d_X11_where_18 rfl ⟨hS, _, rfl, by omega, by omega⟩
  · refine Tr.iload_n (pc := 4) (i := 1) d_X11_where_4 rfl rfl ?_
    refine Tr.aload_n (pc := 5) (i := 0) d_X11_where_5 rfl rfl ?_
    refine Tr.getf (pc := 6) d_X11_where_6 f_11_30 (by decide) (by decide) (ty_0 hS.1.1) ?_
    refine Tr.tp 7 ((St.kp hS (by decide) (by decide) (by decide)).trans en_0_4) ?_
    refine Tr.getf (pc := 9) d_X11_where_9 f_11_130 (by decide) (by decide) (ty_7 hS.1.1) ?_
    refine Tr.tp 8 (fx_7_4 hS.1.1) ?_
    refine Tr.iconst (pc := 12) d_X11_where_12 (by decide) ?_
    refine Tr.iald (pc := 13) d_X11_where_13 (ty_8 hS.1.1) (by omega) (by omega) ?_
    refine Tr.gen (P := fun v => 0 ≤ v ∧ v ≤ 3) (ir_8_1 hS.1.2.1) (fun r13 er13 br13 => ?_)
    refine Tr.icmp_lt (pc := 14) (tgt := 19) d_X11_where_14 rfl (fun c14 => ?_) (fun c14 => ?_)
    · refine Tr.aload_n (pc := 19) (i := 0) d_X11_where_19 rfl rfl ?_
      refine Tr.getf (pc := 20) d_X11_where_20 f_11_63 (by decide) (by decide) (ty_0 hS.1.1) ?_
      refine Tr.tp 103 (fx_0_11 hS.1.1) ?_
      refine Tr.iload_n (pc := 23) (i := 1) d_X11_where_23 rfl rfl ?_
      refine Tr.callV (pc := 24) (as := [_]) d_X11_where_24 s_11_268 ok_X10_chosenInput rfl rfl (Nat.le_of_ble_eq_true rfl) (Nat.le_of_ble_eq_true rfl) (by decide) (ty_103 hS.1.1) ?_
      refine Tr.imp (Tr.deep (by decide) (sp_X10_chosenInput_103 hS.1 a1 (by omega))) ?_
      rintro M24 _ ⟨h24, r24, rfl, lr24, ur24⟩
      have hS := St.tr hS h24 (by decide) (by decide)
      refine Tr.sc [(0, r24)] rfl ?_
      exact Tr.iret (pc := 27) d_X11_where_27 rfl ⟨hS, _, rfl, by omega, by omega⟩
    · refine Tr.iconst (pc := 17) d_X11_where_17 (by decide) ?_
      exact Tr.iret (pc := 18) d_X11_where_18 rfl ⟨hS, _, rfl, by omega, by omega⟩

def ws_X2_ownSips_107_7 : List (Int × Int) := []
def as_X2_ownSips_107_7 : List Int := []
def q_X2_ownSips_107_7 (M0 M' : Mem) (r : Option PV) : Prop := St Tru ws_X2_ownSips_107_7 as_X2_ownSips_107_7 M0 M' ∧ ∃ v : Int, r = some (0, v) ∧ (-2147483648) ≤ v ∧ v ≤ 2147483647
set_option maxRecDepth 100000 in
set_option maxHeartbeats 4000000 in
theorem sp_X2_ownSips_107_7 {l : Launch} {K : EC} {M0 : Mem} (hI : In Tru M0)  (a2 : Int) (ha2 : 0 ≤ a2 ∧ a2 ≤ 5) (a3 : Int) (ha3 : 0 ≤ a3 ∧ a3 ≤ 11)  : Tr l K 0 mX2_ownSips 0 [(0, (2, 107)), (1, (2, 7)), (2, (0, a2)), (3, (0, a3))] [] M0 (q_X2_ownSips_107_7 M0) := by
  have hS : St Tru ws_X2_ownSips_107_7 as_X2_ownSips_107_7 M0 M0 := St.rf hI
  refine Tr.iconst (pc := 0) d_X2_ownSips_0 (by decide) ?_
  refine Tr.istore (pc := 1) (i := 4) (ls2 := [(4, (0, 0)), (0, (2, 107)), (1, (2, 7)), (2, (0, a2)), (3, (0, a3))]) d_X2_ownSips_1 (by decide) rfl ?_
  refine Tr.iconst (pc := 3) d_X2_ownSips_3 (by decide) ?_
  refine Tr.istore (pc := 4) (i := 5) (ls2 := [(5, (0, 0)), (4, (0, 0)), (0, (2, 107)), (1, (2, 7)), (2, (0, a2)), (3, (0, a3))]) d_X2_ownSips_4 (by decide) rfl ?_
  have J6 : ∀ (n6 : Nat) (M : Mem) (p6_4 p6_5 : Int), St Tru ws_X2_ownSips_107_7 as_X2_ownSips_107_7 M0 M → ((-2147483648) ≤ p6_4 ∧ p6_4 ≤ 2147483647) → (0 ≤ p6_5 ∧ p6_5 ≤ 4) → (4 - p6_5).toNat < n6 → Tr l K 0 mX2_ownSips 6 [(0, (2, 107)), (1, (2, 7)), (2, (0, a2)), (3, (0, a3)), (4, (0, p6_4)), (5, (0, p6_5))] [] M (q_X2_ownSips_107_7 M0) := by
    intro n6
    induction n6 with
    | zero => intro M p6_4 p6_5 hS bp6_4 bp6_5  hm6; exact absurd hm6 (Nat.not_lt_zero _)
    | succ n6 J6 =>
      intro M p6_4 p6_5 hS bp6_4 bp6_5  hm6
      refine Tr.iload (pc := 6) (i := 5) d_X2_ownSips_6 rfl ?_
      refine Tr.iconst (pc := 8) d_X2_ownSips_8 (by decide) ?_
      refine Tr.icmp_ge (pc := 9) (tgt := 57) d_X2_ownSips_9 rfl (fun c9 => ?_) (fun c9 => ?_)
      · refine Tr.iload (pc := 57) (i := 4) d_X2_ownSips_57 rfl ?_
        exact Tr.iret (pc := 59) d_X2_ownSips_59 rfl ⟨hS, _, rfl, by omega, by omega⟩
      · refine Tr.iload (pc := 12) (i := 5) d_X2_ownSips_12 rfl ?_
        refine Tr.iconst (pc := 14) d_X2_ownSips_14 (by decide) ?_
        have J51 : ∀ (M : Mem) (p51_4 : Int), St Tru ws_X2_ownSips_107_7 as_X2_ownSips_107_7 M0 M → ((-2147483648) ≤ p51_4 ∧ p51_4 ≤ 2147483647) → Tr l K 0 mX2_ownSips 51 [(0, (2, 107)), (1, (2, 7)), (2, (0, a2)), (3, (0, a3)), (4, (0, p51_4)), (5, (0, p6_5))] [] M (q_X2_ownSips_107_7 M0) := by
          intro M p51_4 hS bp51_4 
          refine Tr.iincV (pc := 51) (n2 := (p6_5 + 1)) (ls2 := [(5, (0, (p6_5 + 1))), (0, (2, 107)), (1, (2, 7)), (2, (0, a2)), (3, (0, a3)), (4, (0, p51_4))]) d_X2_ownSips_51 rfl (by decide) ((w32_id (by omega)).trans (by omega)) rfl ?_
          refine Tr.goto (pc := 54) (tgt := 6) d_X2_ownSips_54 rfl ?_
          refine Tr.pick [1, 2, 3, 4, 5, 0] (ls2 := [(0, (2, 107)), (1, (2, 7)), (2, (0, a2)), (3, (0, a3)), (4, (0, p51_4)), (5, (0, (p6_5 + 1)))]) rfl ?_
          exact J6 _ _ _ hS (by omega) (by omega) (by omega)
        refine Tr.icmp_eq (pc := 15) (tgt := 51) d_X2_ownSips_15 rfl (fun c15 => ?_) (fun c15 => ?_)
        · refine Tr.pick [0, 1, 2, 3, 4, 5] (ls2 := [(0, (2, 107)), (1, (2, 7)), (2, (0, a2)), (3, (0, a3)), (4, (0, p6_4)), (5, (0, p6_5))]) rfl ?_
          exact J51 _ _ hS (by omega)
        · refine Tr.iload (pc := 18) (i := 4) d_X2_ownSips_18 rfl ?_
          refine Tr.aload_n (pc := 20) (i := 1) d_X2_ownSips_20 rfl rfl ?_
          refine Tr.getf (pc := 21) d_X2_ownSips_21 f_2_62 (by decide) (by decide) (ty_7 hS.1.1) ?_
          refine Tr.tp 9 (fx_7_5 hS.1.1) ?_
          refine Tr.iload_n (pc := 24) (i := 2) d_X2_ownSips_24 rfl rfl ?_
          refine Tr.iconst (pc := 25) d_X2_ownSips_25 (by decide) ?_
          refine Tr.imul (pc := 26) d_X2_ownSips_26 ?_
          refine Tr.tp (4 * a2) ((w32_id (by omega)).trans (by omega)) ?_
          refine Tr.iload (pc := 27) (i := 5) d_X2_ownSips_27 rfl ?_
          refine Tr.iadd (pc := 29) d_X2_ownSips_29 ?_
          refine Tr.tp (4 * a2 + p6_5) ((w32_id (by omega)).trans (by omega)) ?_
          refine Tr.iald (pc := 30) d_X2_ownSips_30 (ty_9 hS.1.1) (by omega) (by omega) ?_
          refine Tr.gen (P := fun v => (-1) ≤ v ∧ v ≤ 999) (ar_9 hS.1.2.1 _) (fun r30 er30 br30 => ?_)
          refine Tr.aload_n (pc := 31) (i := 0) d_X2_ownSips_31 rfl rfl ?_
          refine Tr.getf (pc := 32) d_X2_ownSips_32 f_2_21 (by decide) (by decide) (ty_107 hS.1.1) ?_
          refine Tr.tp 111 (fx_107_5 hS.1.1) ?_
          refine Tr.iload_n (pc := 35) (i := 3) d_X2_ownSips_35 rfl rfl ?_
          refine Tr.bipush (pc := 36) d_X2_ownSips_36 rfl (by decide) ?_
          refine Tr.imul (pc := 38) d_X2_ownSips_38 ?_
          refine Tr.tp (24 * a3) ((w32_id (by omega)).trans (by omega)) ?_
          refine Tr.iload_n (pc := 39) (i := 2) d_X2_ownSips_39 rfl rfl ?_
          refine Tr.iconst (pc := 40) d_X2_ownSips_40 (by decide) ?_
          refine Tr.imul (pc := 41) d_X2_ownSips_41 ?_
          refine Tr.tp (4 * a2) ((w32_id (by omega)).trans (by omega)) ?_
          refine Tr.iadd (pc := 42) d_X2_ownSips_42 ?_
          refine Tr.tp (4 * a2 + 24 * a3) ((w32_id (by omega)).trans (by omega)) ?_
          refine Tr.iload (pc := 43) (i := 5) d_X2_ownSips_43 rfl ?_
          refine Tr.iadd (pc := 45) d_X2_ownSips_45 ?_
          refine Tr.tp (4 * a2 + 24 * a3 + p6_5) ((w32_id (by omega)).trans (by omega)) ?_
          refine Tr.iald (pc := 46) d_X2_ownSips_46 (ty_111 hS.1.1) (by omega) (by omega) ?_
          refine Tr.gen (P := fun v => (-2147483648) ≤ v ∧ v ≤ 2147483647) (ar_111 hS.1.2.1 _) (fun r46 er46 br46 => ?_)
          refine Tr.imul (pc := 47) d_X2_ownSips_47 ?_
          refine Tr.gen (P := fun v => (-2147483648) ≤ v ∧ v ≤ 2147483647) (w32_b _) (fun r47 er47 br47 => ?_)
          refine Tr.iadd (pc := 48) d_X2_ownSips_48 ?_
          refine Tr.gen (P := fun v => (-2147483648) ≤ v ∧ v ≤ 2147483647) (w32_b _) (fun r48 er48 br48 => ?_)
          refine Tr.istore (pc := 49) (i := 4) (ls2 := [(4, (0, r48)), (0, (2, 107)), (1, (2, 7)), (2, (0, a2)), (3, (0, a3)), (5, (0, p6_5))]) d_X2_ownSips_49 (by decide) rfl ?_
          refine Tr.pick [1, 2, 3, 4, 0, 5] (ls2 := [(0, (2, 107)), (1, (2, 7)), (2, (0, a2)), (3, (0, a3)), (4, (0, r48)), (5, (0, p6_5))]) rfl ?_
          exact J51 _ _ hS (by omega)
  refine Tr.pick [2, 3, 4, 5, 1, 0] (ls2 := [(0, (2, 107)), (1, (2, 7)), (2, (0, a2)), (3, (0, a3)), (4, (0, 0)), (5, (0, 0))]) rfl ?_
  exact J6 _ _ _ _ hS (by omega) (by omega) (Nat.lt_succ_self _)
