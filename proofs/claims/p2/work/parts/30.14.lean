def ws_X3_clear_27 : List (Int × Int) := [(27, 0), (27, 1), (27, 2), (27, 3), (35, 0), (35, 11)]
def as_X3_clear_27 : List Int := [28, 29, 32, 33, 34]
def q_X3_clear_27 (M0 M' : Mem) (r : Option PV) : Prop := St Tru ws_X3_clear_27 as_X3_clear_27 M0 M' ∧ r = none
set_option maxRecDepth 100000 in
set_option maxHeartbeats 4000000 in
theorem sp_X3_clear_27 {l : Launch} {K : EC} {M0 : Mem} (hI : In Tru M0)    : Tr l K 1 mX3_clear 0 [(0, (2, 27))] [] M0 (q_X3_clear_27 M0) := by
  have hS : St Tru ws_X3_clear_27 as_X3_clear_27 M0 M0 := St.rf hI
  refine Tr.aload_n (pc := 0) (i := 0) d_X3_clear_0 rfl rfl ?_
  refine Tr.iconst (pc := 1) d_X3_clear_1 (by decide) ?_
  refine Tr.putfS (pc := 2) (P := St Tru ws_X3_clear_27 as_X3_clear_27 M0) d_X3_clear_2 f_3_40 (by decide) (by decide) (ty_27 hS.1.1) (st_27_0 hS (by decide) (by omega) trivial) (fun M2 hS w2 => ?_)
  refine Tr.aload_n (pc := 5) (i := 0) d_X3_clear_5 rfl rfl ?_
  refine Tr.iconst (pc := 6) d_X3_clear_6 (by decide) ?_
  refine Tr.putfS (pc := 7) (P := St Tru ws_X3_clear_27 as_X3_clear_27 M0) d_X3_clear_7 f_3_44 (by decide) (by decide) (ty_27 hS.1.1) (st_27_1 hS (by decide) (by omega) trivial) (fun M7 hS w7 => ?_)
  refine Tr.aload_n (pc := 10) (i := 0) d_X3_clear_10 rfl rfl ?_
  refine Tr.iconst (pc := 11) d_X3_clear_11 (by decide) ?_
  refine Tr.putfS (pc := 12) (P := St Tru ws_X3_clear_27 as_X3_clear_27 M0) d_X3_clear_12 f_3_47 (by decide) (by decide) (ty_27 hS.1.1) (st_27_2 hS (by decide) (by omega) trivial) (fun M12 hS w12 => ?_)
  refine Tr.aload_n (pc := 15) (i := 0) d_X3_clear_15 rfl rfl ?_
  refine Tr.iconst (pc := 16) d_X3_clear_16 (by decide) ?_
  refine Tr.putfS (pc := 17) (P := St Tru ws_X3_clear_27 as_X3_clear_27 M0) d_X3_clear_17 f_3_50 (by decide) (by decide) (ty_27 hS.1.1) (st_27_3 hS (by decide) (by omega) trivial) (fun M17 hS w17 => ?_)
  refine Tr.aload_n (pc := 20) (i := 0) d_X3_clear_20 rfl rfl ?_
  refine Tr.getf (pc := 21) d_X3_clear_21 f_3_11 (by decide) (by decide) (ty_27 hS.1.1) ?_
  refine Tr.tp 28 (fx_27_4 hS.1.1) ?_
  refine Tr.iconst (pc := 24) d_X3_clear_24 (by decide) ?_
  refine Tr.callS (pc := 25) (as := [_, _]) d_X3_clear_25 s_3_53 ok_J7_fill_53178 rfl rfl (Nat.le_of_ble_eq_true rfl) (Nat.le_of_ble_eq_true rfl) ?_
  refine Tr.imp (sp_fill (N := 3) (ty_28 hS.1.1) (by decide)) ?_
  rintro _ _ ⟨rfl, rfl⟩
  refine Tr.nmA (P := St Tru ws_X3_clear_27 as_X3_clear_27 M0) (St.wp (x := 28) (v := 0) 3 hS (by decide) (by decide) (by decide +kernel) (by decide +kernel) (by decide +kernel) trivial) (fil_wa _ _ _ _) (fun M25 hS w25 => ?_)
  refine Tr.sc [] rfl ?_
  refine Tr.aload_n (pc := 28) (i := 0) d_X3_clear_28 rfl rfl ?_
  refine Tr.getf (pc := 29) d_X3_clear_29 f_3_15 (by decide) (by decide) (ty_27 hS.1.1) ?_
  refine Tr.tp 29 (fx_27_5 hS.1.1) ?_
  refine Tr.iconst (pc := 32) d_X3_clear_32 (by decide) ?_
  refine Tr.callS (pc := 33) (as := [_, _]) d_X3_clear_33 s_3_53 ok_J7_fill_53178 rfl rfl (Nat.le_of_ble_eq_true rfl) (Nat.le_of_ble_eq_true rfl) ?_
  refine Tr.imp (sp_fill (N := 24) (ty_29 hS.1.1) (by decide)) ?_
  rintro _ _ ⟨rfl, rfl⟩
  refine Tr.nmA (P := St Tru ws_X3_clear_27 as_X3_clear_27 M0) (sf_29 (v := 0) 24 hS (by decide) (by omega) trivial) (fil_wa _ _ _ _) (fun M33 hS w33 => ?_)
  refine Tr.sc [] rfl ?_
  refine Tr.aload_n (pc := 36) (i := 0) d_X3_clear_36 rfl rfl ?_
  refine Tr.getf (pc := 37) d_X3_clear_37 f_3_24 (by decide) (by decide) (ty_27 hS.1.1) ?_
  refine Tr.tp 32 (fx_27_8 hS.1.1) ?_
  refine Tr.iconst (pc := 40) d_X3_clear_40 (by decide) ?_
  refine Tr.callS (pc := 41) (as := [_, _]) d_X3_clear_41 s_3_53 ok_J7_fill_53178 rfl rfl (Nat.le_of_ble_eq_true rfl) (Nat.le_of_ble_eq_true rfl) ?_
  refine Tr.imp (sp_fill (N := 3) (ty_32 hS.1.1) (by decide)) ?_
  rintro _ _ ⟨rfl, rfl⟩
  refine Tr.nmA (P := St Tru ws_X3_clear_27 as_X3_clear_27 M0) (sf_32 (v := 0) 3 hS (by decide) (by omega) trivial) (fil_wa _ _ _ _) (fun M41 hS w41 => ?_)
  refine Tr.sc [] rfl ?_
  refine Tr.aload_n (pc := 44) (i := 0) d_X3_clear_44 rfl rfl ?_
  refine Tr.getf (pc := 45) d_X3_clear_45 f_3_27 (by decide) (by decide) (ty_27 hS.1.1) ?_
  refine Tr.tp 33 (fx_27_9 hS.1.1) ?_
  refine Tr.iconst (pc := 48) d_X3_clear_48 (by decide) ?_
  refine Tr.callS (pc := 49) (as := [_, _]) d_X3_clear_49 s_3_53 ok_J7_fill_53178 rfl rfl (Nat.le_of_ble_eq_true rfl) (Nat.le_of_ble_eq_true rfl) ?_
  refine Tr.imp (sp_fill (N := 3) (ty_33 hS.1.1) (by decide)) ?_
  rintro _ _ ⟨rfl, rfl⟩
  refine Tr.nmA (P := St Tru ws_X3_clear_27 as_X3_clear_27 M0) (sf_33 (v := 0) 3 hS (by decide) (by omega) trivial) (fil_wa _ _ _ _) (fun M49 hS w49 => ?_)
  refine Tr.sc [] rfl ?_
  refine Tr.aload_n (pc := 52) (i := 0) d_X3_clear_52 rfl rfl ?_
  refine Tr.getf (pc := 53) d_X3_clear_53 f_3_30 (by decide) (by decide) (ty_27 hS.1.1) ?_
  refine Tr.tp 34 (fx_27_10 hS.1.1) ?_
  refine Tr.iconst (pc := 56) d_X3_clear_56 (by decide) ?_
  refine Tr.callS (pc := 57) (as := [_, _]) d_X3_clear_57 s_3_53 ok_J7_fill_53178 rfl rfl (Nat.le_of_ble_eq_true rfl) (Nat.le_of_ble_eq_true rfl) ?_
  refine Tr.imp (sp_fill (N := 15) (ty_34 hS.1.1) (by decide)) ?_
  rintro _ _ ⟨rfl, rfl⟩
  refine Tr.nmA (P := St Tru ws_X3_clear_27 as_X3_clear_27 M0) (sf_34 (v := 0) 15 hS (by decide) (by omega) trivial) (fil_wa _ _ _ _) (fun M57 hS w57 => ?_)
  refine Tr.sc [] rfl ?_
  refine Tr.aload_n (pc := 60) (i := 0) d_X3_clear_60 rfl rfl ?_
  refine Tr.getf (pc := 61) d_X3_clear_61 f_3_36 (by decide) (by decide) (ty_27 hS.1.1) ?_
  refine Tr.tp 35 (fx_27_11 hS.1.1) ?_
  refine Tr.callV (pc := 64) (as := []) d_X3_clear_64 s_3_59 ok_X4_clear rfl rfl (Nat.le_of_ble_eq_true rfl) (Nat.le_of_ble_eq_true rfl) (by decide) (ty_35 hS.1.1) ?_
  refine Tr.imp (Tr.deep (by decide) (sp_X4_clear_35 hS.1 )) ?_
  rintro M64 _ ⟨h64, rfl⟩
  have hS := St.tr hS h64 (by decide) (by decide)
  refine Tr.sc [] rfl ?_
  exact Tr.vret (pc := 67) d_X3_clear_67 rfl ⟨hS, rfl⟩

def ws_X5_goOn_6 : List (Int × Int) := [(6, 5)]
def as_X5_goOn_6 : List Int := []
def q_X5_goOn_6 (M0 M' : Mem) (r : Option PV) : Prop := St Tru ws_X5_goOn_6 as_X5_goOn_6 M0 M' ∧ ∃ v : Int, r = some (0, v) ∧ 1 ≤ v ∧ v ≤ 1
set_option maxRecDepth 100000 in
set_option maxHeartbeats 4000000 in
theorem sp_X5_goOn_6 {l : Launch} {K : EC} {M0 : Mem} (hI : In Tru M0)    : Tr l K 0 mX5_goOn 0 [(0, (2, 6))] [] M0 (q_X5_goOn_6 M0) := by
  have hS : St Tru ws_X5_goOn_6 as_X5_goOn_6 M0 M0 := St.rf hI
  refine Tr.aload_n (pc := 0) (i := 0) d_X5_goOn_0 rfl rfl ?_
  refine Tr.getf (pc := 1) d_X5_goOn_1 f_5_36 (by decide) (by decide) (ty_6 hS.1.1) ?_
  refine Tr.gen (P := fun v => 0 ≤ v ∧ v ≤ 900) (ir_6_5 hS.1.2.1) (fun r1 er1 br1 => ?_)
  refine Tr.sipush (pc := 4) d_X5_goOn_4 rfl (by decide) ?_
  refine Tr.icmp_ge (pc := 7) (tgt := 20) d_X5_goOn_7 rfl (fun c7 => ?_) (fun c7 => ?_)
  · refine Tr.iconst (pc := 20) d_X5_goOn_20 (by decide) ?_
    exact Tr.zret (pc := 21) d_X5_goOn_21 rfl (by omega) ⟨hS, _, rfl, by omega, by omega⟩
  · refine Tr.aload_n (pc := 10) (i := 0) d_X5_goOn_10 rfl rfl ?_
    refine Tr.dup (pc := 11) d_X5_goOn_11 ne21 ?_
    refine Tr.getf (pc := 12) d_X5_goOn_12 f_5_36 (by decide) (by decide) (ty_6 hS.1.1) ?_
    refine Tr.tp r1 er1 ?_
    refine Tr.iconst (pc := 15) d_X5_goOn_15 (by decide) ?_
    refine Tr.iadd (pc := 16) d_X5_goOn_16 ?_
    refine Tr.tp (r1 + 1) ((w32_id (by omega)).trans (by omega)) ?_
    refine Tr.putfS (pc := 17) (P := St Tru ws_X5_goOn_6 as_X5_goOn_6 M0) d_X5_goOn_17 f_5_36 (by decide) (by decide) (ty_6 hS.1.1) (st_6_5 hS (by decide) (by omega) trivial) (fun M17 hS w17 => ?_)
    refine Tr.iconst (pc := 20) d_X5_goOn_20 (by decide) ?_
    exact Tr.zret (pc := 21) d_X5_goOn_21 rfl (by omega) ⟨hS, _, rfl, by omega, by omega⟩

def ws_X3_find_27 : List (Int × Int) := []
def as_X3_find_27 : List Int := []
def q_X3_find_27 (M0 M' : Mem) (r : Option PV) : Prop := St Tru ws_X3_find_27 as_X3_find_27 M0 M' ∧ ∃ v : Int, r = some (0, v) ∧ (-1) ≤ v ∧ v ≤ 14
set_option maxRecDepth 100000 in
set_option maxHeartbeats 4000000 in
theorem sp_X3_find_27 {l : Launch} {K : EC} {M0 : Mem} (hI : In Tru M0)  (a1 : Int) (ha1 : (-2147483648) ≤ a1 ∧ a1 ≤ 2147483647)  : Tr l K 0 mX3_find 0 [(0, (2, 27)), (1, (0, a1))] [] M0 (q_X3_find_27 M0) := by
  have hS : St Tru ws_X3_find_27 as_X3_find_27 M0 M0 := St.rf hI
  refine Tr.iconst (pc := 0) d_X3_find_0 (by decide) ?_
  refine Tr.istore_n (pc := 1) (i := 2) (ls2 := [(2, (0, 0)), (0, (2, 27)), (1, (0, a1))]) d_X3_find_1 rfl (by decide) rfl ?_
  have J2 : ∀ (n2 : Nat) (M : Mem) (p2_2 : Int), St Tru ws_X3_find_27 as_X3_find_27 M0 M → (0 ≤ p2_2 ∧ p2_2 ≤ 15) → (15 - p2_2).toNat < n2 → Tr l K 0 mX3_find 2 [(0, (2, 27)), (1, (0, a1)), (2, (0, p2_2))] [] M (q_X3_find_27 M0) := by
    intro n2
    induction n2 with
    | zero => intro M p2_2 hS bp2_2  hm2; exact absurd hm2 (Nat.not_lt_zero _)
    | succ n2 J2 =>
      intro M p2_2 hS bp2_2  hm2
      refine Tr.iload_n (pc := 2) (i := 2) d_X3_find_2 rfl rfl ?_
      refine Tr.bipush (pc := 3) d_X3_find_3 rfl (by decide) ?_
      refine Tr.icmp_ge (pc := 5) (tgt := 26) d_X3_find_5 rfl (fun c5 => ?_) (fun c5 => ?_)
      · refine Tr.iconst (pc := 26) d_X3_find_26 (by decide) ?_
        exact Tr.iret (pc := 27) d_X3_find_27 rfl ⟨hS, _, rfl, by omega, by omega⟩
      · refine Tr.aload_n (pc := 8) (i := 0) d_X3_find_8 rfl rfl ?_
        refine Tr.getf (pc := 9) d_X3_find_9 f_3_30 (by decide) (by decide) (ty_27 hS.1.1) ?_
        refine Tr.tp 34 (fx_27_10 hS.1.1) ?_
        refine Tr.iload_n (pc := 12) (i := 2) d_X3_find_12 rfl rfl ?_
        refine Tr.iald (pc := 13) d_X3_find_13 (ty_34 hS.1.1) (by omega) (by omega) ?_
        refine Tr.gen (P := fun v => (-2147483648) ≤ v ∧ v ≤ 2147483647) (ar_34 hS.1.2.1 _) (fun r13 er13 br13 => ?_)
        refine Tr.iload_n (pc := 14) (i := 1) d_X3_find_14 rfl rfl ?_
        refine Tr.icmp_ne (pc := 15) (tgt := 20) d_X3_find_15 rfl (fun c15 => ?_) (fun c15 => ?_)
        · refine Tr.iincV (pc := 20) (n2 := (p2_2 + 1)) (ls2 := [(2, (0, (p2_2 + 1))), (0, (2, 27)), (1, (0, a1))]) d_X3_find_20 rfl (by decide) ((w32_id (by omega)).trans (by omega)) rfl ?_
          refine Tr.goto (pc := 23) (tgt := 2) d_X3_find_23 rfl ?_
          refine Tr.pick [1, 2, 0] (ls2 := [(0, (2, 27)), (1, (0, a1)), (2, (0, (p2_2 + 1)))]) rfl ?_
          exact J2 _ _ hS (by omega) (by omega)
        · refine Tr.iload_n (pc := 18) (i := 2) d_X3_find_18 rfl rfl ?_
          exact Tr.iret (pc := 19) d_X3_find_19 rfl ⟨hS, _, rfl, by omega, by omega⟩
  refine Tr.pick [1, 2, 0] (ls2 := [(0, (2, 27)), (1, (0, a1)), (2, (0, 0))]) rfl ?_
  exact J2 _ _ _ hS (by omega) (Nat.lt_succ_self _)

def ws_X5_refuse_6 : List (Int × Int) := [(6, 0), (6, 1)]
def as_X5_refuse_6 : List Int := []
def q_X5_refuse_6 (M0 M' : Mem) (r : Option PV) : Prop := St Tru ws_X5_refuse_6 as_X5_refuse_6 M0 M' ∧ ∃ v : Int, r = some (0, v) ∧ 0 ≤ v ∧ v ≤ 0
set_option maxRecDepth 100000 in
set_option maxHeartbeats 4000000 in
theorem sp_X5_refuse_6 {l : Launch} {K : EC} {M0 : Mem} (hI : In Tru M0) (en_6_2 : rd M0 6 2 = 2) (a1 : Int) (ha1 : 2 ≤ a1 ∧ a1 ≤ 2)  : Tr l K 0 mX5_refuse 0 [(0, (2, 6)), (1, (0, a1))] [] M0 (q_X5_refuse_6 M0) := by
  have hS : St Tru ws_X5_refuse_6 as_X5_refuse_6 M0 M0 := St.rf hI
  refine Tr.aload_n (pc := 0) (i := 0) d_X5_refuse_0 rfl rfl ?_
  refine Tr.iload_n (pc := 1) (i := 1) d_X5_refuse_1 rfl rfl ?_
  refine Tr.tp 2 (by omega) ?_
  refine Tr.putfS (pc := 2) (P := St Tru ws_X5_refuse_6 as_X5_refuse_6 M0) d_X5_refuse_2 f_5_9 (by decide) (by decide) (ty_6 hS.1.1) (st_6_0 hS (by decide) (by omega) trivial) (fun M2 hS w2 => ?_)
  refine Tr.aload_n (pc := 5) (i := 0) d_X5_refuse_5 rfl rfl ?_
  refine Tr.aload_n (pc := 6) (i := 0) d_X5_refuse_6 rfl rfl ?_
  refine Tr.getf (pc := 7) d_X5_refuse_7 f_5_18 (by decide) (by decide) (ty_6 hS.1.1) ?_
  refine Tr.tp 2 ((St.kp hS (by decide) (by decide) (by decide)).trans en_6_2) ?_
  refine Tr.getf (pc := 10) d_X5_refuse_10 f_5_65 (by decide) (by decide) (ty_2 hS.1.1) ?_
  refine Tr.tp 4 (fx_2_1 hS.1.1) ?_
  refine Tr.aload_n (pc := 13) (i := 0) d_X5_refuse_13 rfl rfl ?_
  refine Tr.getf (pc := 14) d_X5_refuse_14 f_5_36 (by decide) (by decide) (ty_6 hS.1.1) ?_
  refine Tr.gen (P := fun v => 0 ≤ v ∧ v ≤ 900) (ir_6_5 hS.1.2.1) (fun r14 er14 br14 => ?_)
  refine Tr.iald (pc := 17) d_X5_refuse_17 (ty_4 hS.1.1) (by omega) (by omega) ?_
  refine Tr.gen (P := fun v => (-2147483648) ≤ v ∧ v ≤ 2147483647) (ar_4 hS.1.2.1 _) (fun r17 er17 br17 => ?_)
  refine Tr.putfS (pc := 18) (P := St Tru ws_X5_refuse_6 as_X5_refuse_6 M0) d_X5_refuse_18 f_5_15 (by decide) (by decide) (ty_6 hS.1.1) (st_6_1 hS (by decide) (by omega) trivial) (fun M18 hS w18 => ?_)
  refine Tr.iconst (pc := 21) d_X5_refuse_21 (by decide) ?_
  exact Tr.zret (pc := 22) d_X5_refuse_22 rfl (by omega) ⟨hS, _, rfl, by omega, by omega⟩

def ws_X5_refuse_6_w1 : List (Int × Int) := [(6, 0), (6, 1)]
def as_X5_refuse_6_w1 : List Int := []
def q_X5_refuse_6_w1 (M0 M' : Mem) (r : Option PV) : Prop := St Tru ws_X5_refuse_6_w1 as_X5_refuse_6_w1 M0 M' ∧ ∃ v : Int, r = some (0, v) ∧ 0 ≤ v ∧ v ≤ 0
set_option maxRecDepth 100000 in
set_option maxHeartbeats 4000000 in
theorem sp_X5_refuse_6_w1 {l : Launch} {K : EC} {M0 : Mem} (hI : In Tru M0) (en_6_2 : rd M0 6 2 = 2) (a1 : Int) (ha1 : 1 ≤ a1 ∧ a1 ≤ 1)  : Tr l K 0 mX5_refuse 0 [(0, (2, 6)), (1, (0, a1))] [] M0 (q_X5_refuse_6_w1 M0) := by
  have hS : St Tru ws_X5_refuse_6_w1 as_X5_refuse_6_w1 M0 M0 := St.rf hI
  refine Tr.aload_n (pc := 0) (i := 0) d_X5_refuse_0 rfl rfl ?_
  refine Tr.iload_n (pc := 1) (i := 1) d_X5_refuse_1 rfl rfl ?_
  refine Tr.tp 1 (by omega) ?_
  refine Tr.putfS (pc := 2) (P := St Tru ws_X5_refuse_6_w1 as_X5_refuse_6_w1 M0) d_X5_refuse_2 f_5_9 (by decide) (by decide) (ty_6 hS.1.1) (st_6_0 hS (by decide) (by omega) trivial) (fun M2 hS w2 => ?_)
  refine Tr.aload_n (pc := 5) (i := 0) d_X5_refuse_5 rfl rfl ?_
  refine Tr.aload_n (pc := 6) (i := 0) d_X5_refuse_6 rfl rfl ?_
  refine Tr.getf (pc := 7) d_X5_refuse_7 f_5_18 (by decide) (by decide) (ty_6 hS.1.1) ?_
  refine Tr.tp 2 ((St.kp hS (by decide) (by decide) (by decide)).trans en_6_2) ?_
  refine Tr.getf (pc := 10) d_X5_refuse_10 f_5_65 (by decide) (by decide) (ty_2 hS.1.1) ?_
  refine Tr.tp 4 (fx_2_1 hS.1.1) ?_
  refine Tr.aload_n (pc := 13) (i := 0) d_X5_refuse_13 rfl rfl ?_
  refine Tr.getf (pc := 14) d_X5_refuse_14 f_5_36 (by decide) (by decide) (ty_6 hS.1.1) ?_
  refine Tr.gen (P := fun v => 0 ≤ v ∧ v ≤ 900) (ir_6_5 hS.1.2.1) (fun r14 er14 br14 => ?_)
  refine Tr.iald (pc := 17) d_X5_refuse_17 (ty_4 hS.1.1) (by omega) (by omega) ?_
  refine Tr.gen (P := fun v => (-2147483648) ≤ v ∧ v ≤ 2147483647) (ar_4 hS.1.2.1 _) (fun r17 er17 br17 => ?_)
  refine Tr.putfS (pc := 18) (P := St Tru ws_X5_refuse_6_w1 as_X5_refuse_6_w1 M0) d_X5_refuse_18 f_5_15 (by decide) (by decide) (ty_6 hS.1.1) (st_6_1 hS (by decide) (by omega) trivial) (fun M18 hS w18 => ?_)
  refine Tr.iconst (pc := 21) d_X5_refuse_21 (by decide) ?_
  exact Tr.zret (pc := 22) d_X5_refuse_22 rfl (by omega) ⟨hS, _, rfl, by omega, by omega⟩

def ws_X5_refuse_6_w2 : List (Int × Int) := [(6, 0), (6, 1)]
def as_X5_refuse_6_w2 : List Int := []
def q_X5_refuse_6_w2 (M0 M' : Mem) (r : Option PV) : Prop := St Tru ws_X5_refuse_6_w2 as_X5_refuse_6_w2 M0 M' ∧ ∃ v : Int, r = some (0, v) ∧ 0 ≤ v ∧ v ≤ 0
set_option maxRecDepth 100000 in
set_option maxHeartbeats 4000000 in
theorem sp_X5_refuse_6_w2 {l : Launch} {K : EC} {M0 : Mem} (hI : In Tru M0) (en_6_2 : rd M0 6 2 = 2) (a1 : Int) (ha1 : 5 ≤ a1 ∧ a1 ≤ 5)  : Tr l K 0 mX5_refuse 0 [(0, (2, 6)), (1, (0, a1))] [] M0 (q_X5_refuse_6_w2 M0) := by
  have hS : St Tru ws_X5_refuse_6_w2 as_X5_refuse_6_w2 M0 M0 := St.rf hI
  refine Tr.aload_n (pc := 0) (i := 0) d_X5_refuse_0 rfl rfl ?_
  refine Tr.iload_n (pc := 1) (i := 1) d_X5_refuse_1 rfl rfl ?_
  refine Tr.tp 5 (by omega) ?_
  refine Tr.putfS (pc := 2) (P := St Tru ws_X5_refuse_6_w2 as_X5_refuse_6_w2 M0) d_X5_refuse_2 f_5_9 (by decide) (by decide) (ty_6 hS.1.1) (st_6_0 hS (by decide) (by omega) trivial) (fun M2 hS w2 => ?_)
  refine Tr.aload_n (pc := 5) (i := 0) d_X5_refuse_5 rfl rfl ?_
  refine Tr.aload_n (pc := 6) (i := 0) d_X5_refuse_6 rfl rfl ?_
  refine Tr.getf (pc := 7) d_X5_refuse_7 f_5_18 (by decide) (by decide) (ty_6 hS.1.1) ?_
  refine Tr.tp 2 ((St.kp hS (by decide) (by decide) (by decide)).trans en_6_2) ?_
  refine Tr.getf (pc := 10) d_X5_refuse_10 f_5_65 (by decide) (by decide) (ty_2 hS.1.1) ?_
  refine Tr.tp 4 (fx_2_1 hS.1.1) ?_
  refine Tr.aload_n (pc := 13) (i := 0) d_X5_refuse_13 rfl rfl ?_
  refine Tr.getf (pc := 14) d_X5_refuse_14 f_5_36 (by decide) (by decide) (ty_6 hS.1.1) ?_
  refine Tr.gen (P := fun v => 0 ≤ v ∧ v ≤ 900) (ir_6_5 hS.1.2.1) (fun r14 er14 br14 => ?_)
  refine Tr.iald (pc := 17) d_X5_refuse_17 (ty_4 hS.1.1) (by omega) (by omega) ?_
  refine Tr.gen (P := fun v => (-2147483648) ≤ v ∧ v ≤ 2147483647) (ar_4 hS.1.2.1 _) (fun r17 er17 br17 => ?_)
  refine Tr.putfS (pc := 18) (P := St Tru ws_X5_refuse_6_w2 as_X5_refuse_6_w2 M0) d_X5_refuse_18 f_5_15 (by decide) (by decide) (ty_6 hS.1.1) (st_6_1 hS (by decide) (by omega) trivial) (fun M18 hS w18 => ?_)
  refine Tr.iconst (pc := 21) d_X5_refuse_21 (by decide) ?_
  exact Tr.zret (pc := 22) d_X5_refuse_22 rfl (by omega) ⟨hS, _, rfl, by omega, by omega⟩

def ws_X5_isSign_6 : List (Int × Int) := []
def as_X5_isSign_6 : List Int := []
def q_X5_isSign_6 (M0 M' : Mem) (r : Option PV) : Prop := St Tru ws_X5_isSign_6 as_X5_isSign_6 M0 M' ∧ ∃ v : Int, r = some (0, v) ∧ 0 ≤ v ∧ v ≤ 1
set_option maxRecDepth 100000 in
set_option maxHeartbeats 4000000 in
theorem sp_X5_isSign_6 {l : Launch} {K : EC} {M0 : Mem} (hI : In Tru M0) (en_6_2 : rd M0 6 2 = 2) (a1 : Int) (ha1 : 59 ≤ a1 ∧ a1 ≤ 59)  : Tr l K 0 mX5_isSign 0 [(0, (2, 6)), (1, (0, a1))] [] M0 (q_X5_isSign_6 M0) := by
  have hS : St Tru ws_X5_isSign_6 as_X5_isSign_6 M0 M0 := St.rf hI
  refine Tr.aload_n (pc := 0) (i := 0) d_X5_isSign_0 rfl rfl ?_
  refine Tr.getf (pc := 1) d_X5_isSign_1 f_5_18 (by decide) (by decide) (ty_6 hS.1.1) ?_
  refine Tr.tp 2 ((St.kp hS (by decide) (by decide) (by decide)).trans en_6_2) ?_
  refine Tr.getf (pc := 4) d_X5_isSign_4 f_5_50 (by decide) (by decide) (ty_2 hS.1.1) ?_
  refine Tr.tp 3 (fx_2_0 hS.1.1) ?_
  refine Tr.aload_n (pc := 7) (i := 0) d_X5_isSign_7 rfl rfl ?_
  refine Tr.getf (pc := 8) d_X5_isSign_8 f_5_36 (by decide) (by decide) (ty_6 hS.1.1) ?_
  refine Tr.gen (P := fun v => 0 ≤ v ∧ v ≤ 900) (ir_6_5 hS.1.2.1) (fun r8 er8 br8 => ?_)
  refine Tr.iald (pc := 11) d_X5_isSign_11 (ty_3 hS.1.1) (by omega) (by omega) ?_
  refine Tr.gen (P := fun v => (-2147483648) ≤ v ∧ v ≤ 2147483647) (ar_3 hS.1.2.1 _) (fun r11 er11 br11 => ?_)
  refine Tr.iconst (pc := 12) d_X5_isSign_12 (by decide) ?_
  refine Tr.icmp_ne (pc := 13) (tgt := 36) d_X5_isSign_13 rfl (fun c13 => ?_) (fun c13 => ?_)
  · refine Tr.iconst (pc := 36) d_X5_isSign_36 (by decide) ?_
    exact Tr.zret (pc := 37) d_X5_isSign_37 rfl (by omega) ⟨hS, _, rfl, by omega, by omega⟩
  · refine Tr.aload_n (pc := 16) (i := 0) d_X5_isSign_16 rfl rfl ?_
    refine Tr.getf (pc := 17) d_X5_isSign_17 f_5_18 (by decide) (by decide) (ty_6 hS.1.1) ?_
    refine Tr.tp 2 ((St.kp hS (by decide) (by decide) (by decide)).trans en_6_2) ?_
    refine Tr.getf (pc := 20) d_X5_isSign_20 f_5_68 (by decide) (by decide) (ty_2 hS.1.1) ?_
    refine Tr.tp 5 (fx_2_2 hS.1.1) ?_
    refine Tr.aload_n (pc := 23) (i := 0) d_X5_isSign_23 rfl rfl ?_
    refine Tr.getf (pc := 24) d_X5_isSign_24 f_5_36 (by decide) (by decide) (ty_6 hS.1.1) ?_
    refine Tr.tp r8 er8 ?_
    refine Tr.iald (pc := 27) d_X5_isSign_27 (ty_5 hS.1.1) (by omega) (by omega) ?_
    refine Tr.gen (P := fun v => (-2147483648) ≤ v ∧ v ≤ 2147483647) (ar_5 hS.1.2.1 _) (fun r27 er27 br27 => ?_)
    refine Tr.iload_n (pc := 28) (i := 1) d_X5_isSign_28 rfl rfl ?_
    refine Tr.tp 59 (by omega) ?_
    refine Tr.icmp_ne (pc := 29) (tgt := 36) d_X5_isSign_29 rfl (fun c29 => ?_) (fun c29 => ?_)
    · refine Tr.iconst (pc := 36) d_X5_isSign_36 (by decide) ?_
      exact Tr.zret (pc := 37) d_X5_isSign_37 rfl (by omega) ⟨hS, _, rfl, by omega, by omega⟩
    · refine Tr.iconst (pc := 32) d_X5_isSign_32 (by decide) ?_
      refine Tr.goto (pc := 33) (tgt := 37) d_X5_isSign_33 rfl ?_
      exact Tr.zret (pc := 37) d_X5_isSign_37 rfl (by omega) ⟨hS, _, rfl, by omega, by omega⟩

def ws_X5_takeSign_6 : List (Int × Int) := [(6, 0), (6, 1), (6, 5)]
def as_X5_takeSign_6 : List Int := []
def q_X5_takeSign_6 (M0 M' : Mem) (r : Option PV) : Prop := St Tru ws_X5_takeSign_6 as_X5_takeSign_6 M0 M' ∧ ∃ v : Int, r = some (0, v) ∧ 0 ≤ v ∧ v ≤ 1
set_option maxRecDepth 100000 in
set_option maxHeartbeats 4000000 in
theorem sp_X5_takeSign_6 {l : Launch} {K : EC} {M0 : Mem} (hI : In Tru M0) (en_6_2 : rd M0 6 2 = 2) (a1 : Int) (ha1 : 59 ≤ a1 ∧ a1 ≤ 59)  : Tr l K 1 mX5_takeSign 0 [(0, (2, 6)), (1, (0, a1))] [] M0 (q_X5_takeSign_6 M0) := by
  have hS : St Tru ws_X5_takeSign_6 as_X5_takeSign_6 M0 M0 := St.rf hI
  refine Tr.aload_n (pc := 0) (i := 0) d_X5_takeSign_0 rfl rfl ?_
  refine Tr.iload_n (pc := 1) (i := 1) d_X5_takeSign_1 rfl rfl ?_
  refine Tr.tp 59 (by omega) ?_
  refine Tr.callV (pc := 2) (as := [_]) d_X5_takeSign_2 s_5_77 ok_X5_isSign rfl rfl (Nat.le_of_ble_eq_true rfl) (Nat.le_of_ble_eq_true rfl) (by decide) (ty_6 hS.1.1) ?_
  refine Tr.imp (Tr.deep (by decide) (sp_X5_isSign_6 hS.1 ((St.kp hS (by decide) (by decide) (by decide)).trans en_6_2) 59 (by omega))) ?_
  rintro M2 _ ⟨h2, r2, rfl, lr2, ur2⟩
  have hS := St.tr hS h2 (by decide) (by decide)
  refine Tr.sc [(0, r2)] rfl ?_
  refine Tr.if_eq (pc := 5) (tgt := 15) d_X5_takeSign_5 rfl (fun c5 => ?_) (fun c5 => ?_)
  · refine Tr.aload_n (pc := 15) (i := 0) d_X5_takeSign_15 rfl rfl ?_
    refine Tr.iconst (pc := 16) d_X5_takeSign_16 (by decide) ?_
    refine Tr.callV (pc := 17) (as := [_]) d_X5_takeSign_17 s_5_56 ok_X5_refuse rfl rfl (Nat.le_of_ble_eq_true rfl) (Nat.le_of_ble_eq_true rfl) (by decide) (ty_6 hS.1.1) ?_
    refine Tr.imp (Tr.deep (by decide) (sp_X5_refuse_6_w1 hS.1 ((St.kp hS (by decide) (by decide) (by decide)).trans en_6_2) 1 (by omega))) ?_
    rintro M17 _ ⟨h17, r17, rfl, lr17, ur17⟩
    have hS := St.tr hS h17 (by decide) (by decide)
    refine Tr.sc [(0, r17)] rfl ?_
    exact Tr.zret (pc := 20) d_X5_takeSign_20 rfl (by omega) ⟨hS, _, rfl, by omega, by omega⟩
  · refine Tr.aload_n (pc := 8) (i := 0) d_X5_takeSign_8 rfl rfl ?_
    refine Tr.callV (pc := 9) (as := []) d_X5_takeSign_9 s_5_74 ok_X5_goOn rfl rfl (Nat.le_of_ble_eq_true rfl) (Nat.le_of_ble_eq_true rfl) (by decide) (ty_6 hS.1.1) ?_
    refine Tr.imp (Tr.deep (by decide) (sp_X5_goOn_6 hS.1 )) ?_
    rintro M9 _ ⟨h9, r9, rfl, lr9, ur9⟩
    have hS := St.tr hS h9 (by decide) (by decide)
    refine Tr.sc [(0, r9)] rfl ?_
    refine Tr.goto (pc := 12) (tgt := 20) d_X5_takeSign_12 rfl ?_
    exact Tr.zret (pc := 20) d_X5_takeSign_20 rfl (by omega) ⟨hS, _, rfl, by omega, by omega⟩

def ws_X5_refuse_6_w3 : List (Int × Int) := [(6, 0), (6, 1)]
def as_X5_refuse_6_w3 : List Int := []
def q_X5_refuse_6_w3 (M0 M' : Mem) (r : Option PV) : Prop := St Tru ws_X5_refuse_6_w3 as_X5_refuse_6_w3 M0 M' ∧ ∃ v : Int, r = some (0, v) ∧ 0 ≤ v ∧ v ≤ 0
set_option maxRecDepth 100000 in
set_option maxHeartbeats 4000000 in
theorem sp_X5_refuse_6_w3 {l : Launch} {K : EC} {M0 : Mem} (hI : In Tru M0) (en_6_2 : rd M0 6 2 = 2) (a1 : Int) (ha1 : 3 ≤ a1 ∧ a1 ≤ 5)  : Tr l K 0 mX5_refuse 0 [(0, (2, 6)), (1, (0, a1))] [] M0 (q_X5_refuse_6_w3 M0) := by
  have hS : St Tru ws_X5_refuse_6_w3 as_X5_refuse_6_w3 M0 M0 := St.rf hI
  refine Tr.aload_n (pc := 0) (i := 0) d_X5_refuse_0 rfl rfl ?_
  refine Tr.iload_n (pc := 1) (i := 1) d_X5_refuse_1 rfl rfl ?_
  refine Tr.putfS (pc := 2) (P := St Tru ws_X5_refuse_6_w3 as_X5_refuse_6_w3 M0) d_X5_refuse_2 f_5_9 (by decide) (by decide) (ty_6 hS.1.1) (st_6_0 hS (by decide) (by omega) trivial) (fun M2 hS w2 => ?_)
  refine Tr.aload_n (pc := 5) (i := 0) d_X5_refuse_5 rfl rfl ?_
  refine Tr.aload_n (pc := 6) (i := 0) d_X5_refuse_6 rfl rfl ?_
  refine Tr.getf (pc := 7) d_X5_refuse_7 f_5_18 (by decide) (by decide) (ty_6 hS.1.1) ?_
  refine Tr.tp 2 ((St.kp hS (by decide) (by decide) (by decide)).trans en_6_2) ?_
  refine Tr.getf (pc := 10) d_X5_refuse_10 f_5_65 (by decide) (by decide) (ty_2 hS.1.1) ?_
  refine Tr.tp 4 (fx_2_1 hS.1.1) ?_
  refine Tr.aload_n (pc := 13) (i := 0) d_X5_refuse_13 rfl rfl ?_
  refine Tr.getf (pc := 14) d_X5_refuse_14 f_5_36 (by decide) (by decide) (ty_6 hS.1.1) ?_
  refine Tr.gen (P := fun v => 0 ≤ v ∧ v ≤ 900) (ir_6_5 hS.1.2.1) (fun r14 er14 br14 => ?_)
  refine Tr.iald (pc := 17) d_X5_refuse_17 (ty_4 hS.1.1) (by omega) (by omega) ?_
  refine Tr.gen (P := fun v => (-2147483648) ≤ v ∧ v ≤ 2147483647) (ar_4 hS.1.2.1 _) (fun r17 er17 br17 => ?_)
  refine Tr.putfS (pc := 18) (P := St Tru ws_X5_refuse_6_w3 as_X5_refuse_6_w3 M0) d_X5_refuse_18 f_5_15 (by decide) (by decide) (ty_6 hS.1.1) (st_6_1 hS (by decide) (by omega) trivial) (fun M18 hS w18 => ?_)
  refine Tr.iconst (pc := 21) d_X5_refuse_21 (by decide) ?_
  exact Tr.zret (pc := 22) d_X5_refuse_22 rfl (by omega) ⟨hS, _, rfl, by omega, by omega⟩

def ws_X5_takeNumber_6 : List (Int × Int) := [(6, 0), (6, 1), (6, 5)]
def as_X5_takeNumber_6 : List Int := []
def q_X5_takeNumber_6 (M0 M' : Mem) (r : Option PV) : Prop := St Tru ws_X5_takeNumber_6 as_X5_takeNumber_6 M0 M' ∧ ∃ v : Int, r = some (0, v) ∧ (-1) ≤ v ∧ v ≤ 99
set_option maxRecDepth 100000 in
set_option maxHeartbeats 4000000 in
theorem sp_X5_takeNumber_6 {l : Launch} {K : EC} {M0 : Mem} (hI : In Tru M0) (en_6_2 : rd M0 6 2 = 2) (a1 : Int) (ha1 : 0 ≤ a1 ∧ a1 ≤ 0) (a2 : Int) (ha2 : 99 ≤ a2 ∧ a2 ≤ 99)  : Tr l K 1 mX5_takeNumber 0 [(0, (2, 6)), (1, (0, a1)), (2, (0, a2))] [] M0 (q_X5_takeNumber_6 M0) := by
  have hS : St Tru ws_X5_takeNumber_6 as_X5_takeNumber_6 M0 M0 := St.rf hI
  refine Tr.aload_n (pc := 0) (i := 0) d_X5_takeNumber_0 rfl rfl ?_
  refine Tr.getf (pc := 1) d_X5_takeNumber_1 f_5_18 (by decide) (by decide) (ty_6 hS.1.1) ?_
  refine Tr.tp 2 ((St.kp hS (by decide) (by decide) (by decide)).trans en_6_2) ?_
  refine Tr.getf (pc := 4) d_X5_takeNumber_4 f_5_50 (by decide) (by decide) (ty_2 hS.1.1) ?_
  refine Tr.tp 3 (fx_2_0 hS.1.1) ?_
  refine Tr.aload_n (pc := 7) (i := 0) d_X5_takeNumber_7 rfl rfl ?_
  refine Tr.getf (pc := 8) d_X5_takeNumber_8 f_5_36 (by decide) (by decide) (ty_6 hS.1.1) ?_
  refine Tr.gen (P := fun v => 0 ≤ v ∧ v ≤ 900) (ir_6_5 hS.1.2.1) (fun r8 er8 br8 => ?_)
  refine Tr.iald (pc := 11) d_X5_takeNumber_11 (ty_3 hS.1.1) (by omega) (by omega) ?_
  refine Tr.gen (P := fun v => (-2147483648) ≤ v ∧ v ≤ 2147483647) (ar_3 hS.1.2.1 _) (fun r11 er11 br11 => ?_)
  refine Tr.iconst (pc := 12) d_X5_takeNumber_12 (by decide) ?_
  refine Tr.icmp_eq (pc := 13) (tgt := 24) d_X5_takeNumber_13 rfl (fun c13 => ?_) (fun c13 => ?_)
  · refine Tr.aload_n (pc := 24) (i := 0) d_X5_takeNumber_24 rfl rfl ?_
    refine Tr.getf (pc := 25) d_X5_takeNumber_25 f_5_18 (by decide) (by decide) (ty_6 hS.1.1) ?_
    refine Tr.tp 2 ((St.kp hS (by decide) (by decide) (by decide)).trans en_6_2) ?_
    refine Tr.getf (pc := 28) d_X5_takeNumber_28 f_5_68 (by decide) (by decide) (ty_2 hS.1.1) ?_
    refine Tr.tp 5 (fx_2_2 hS.1.1) ?_
    refine Tr.aload_n (pc := 31) (i := 0) d_X5_takeNumber_31 rfl rfl ?_
    refine Tr.getf (pc := 32) d_X5_takeNumber_32 f_5_36 (by decide) (by decide) (ty_6 hS.1.1) ?_
    refine Tr.tp r8 er8 ?_
    refine Tr.iald (pc := 35) d_X5_takeNumber_35 (ty_5 hS.1.1) (by omega) (by omega) ?_
    refine Tr.gen (P := fun v => (-2147483648) ≤ v ∧ v ≤ 2147483647) (ar_5 hS.1.2.1 _) (fun r35 er35 br35 => ?_)
    refine Tr.istore_n (pc := 36) (i := 3) (ls2 := [(3, (0, r35)), (0, (2, 6)), (1, (0, a1)), (2, (0, a2))]) d_X5_takeNumber_36 rfl (by decide) rfl ?_
    refine Tr.iload_n (pc := 37) (i := 3) d_X5_takeNumber_37 rfl rfl ?_
    refine Tr.iload_n (pc := 38) (i := 1) d_X5_takeNumber_38 rfl rfl ?_
    refine Tr.tp 0 (by omega) ?_
    have J47 : ∀ (M : Mem), St Tru ws_X5_takeNumber_6 as_X5_takeNumber_6 M0 M → rd M 3 r8 = r11 → rd M 5 r8 = r35 → rd M 6 5 = r8 → Tr l K 1 mX5_takeNumber 47 [(0, (2, 6))] [] M (q_X5_takeNumber_6 M0) := by
      intro M  hS  k47_3_r810 k47_5_r810 k47_6_5
      refine Tr.aload_n (pc := 47) (i := 0) d_X5_takeNumber_47 rfl rfl ?_
      refine Tr.iconst (pc := 48) d_X5_takeNumber_48 (by decide) ?_
      refine Tr.callV (pc := 49) (as := [_]) d_X5_takeNumber_49 s_5_56 ok_X5_refuse rfl rfl (Nat.le_of_ble_eq_true rfl) (Nat.le_of_ble_eq_true rfl) (by decide) (ty_6 hS.1.1) ?_
      refine Tr.imp (Tr.deep (by decide) (sp_X5_refuse_6_w3 hS.1 ((St.kp hS (by decide) (by decide) (by decide)).trans en_6_2) 4 (by omega))) ?_
      rintro M49 _ ⟨h49, r49, rfl, lr49, ur49⟩
      have hS := St.tr hS h49 (by decide) (by decide)
      refine Tr.sc [(0, r49)] rfl ?_
      refine Tr.pop (pc := 52) d_X5_takeNumber_52 ne01 ?_
      refine Tr.iconst (pc := 53) d_X5_takeNumber_53 (by decide) ?_
      exact Tr.iret (pc := 54) d_X5_takeNumber_54 rfl ⟨hS, _, rfl, by omega, by omega⟩
    refine Tr.icmp_lt (pc := 39) (tgt := 47) d_X5_takeNumber_39 rfl (fun c39 => ?_) (fun c39 => ?_)
    · refine Tr.pick [1] (ls2 := [(0, (2, 6))]) rfl ?_
      exact J47 _ hS er11 er35 er8
    · refine Tr.iload_n (pc := 42) (i := 3) d_X5_takeNumber_42 rfl rfl ?_
      refine Tr.iload_n (pc := 43) (i := 2) d_X5_takeNumber_43 rfl rfl ?_
      refine Tr.tp 99 (by omega) ?_
      refine Tr.icmp_le (pc := 44) (tgt := 55) d_X5_takeNumber_44 rfl (fun c44 => ?_) (fun c44 => ?_)
      · refine Tr.aload_n (pc := 55) (i := 0) d_X5_takeNumber_55 rfl rfl ?_
        refine Tr.callV (pc := 56) (as := []) d_X5_takeNumber_56 s_5_74 ok_X5_goOn rfl rfl (Nat.le_of_ble_eq_true rfl) (Nat.le_of_ble_eq_true rfl) (by decide) (ty_6 hS.1.1) ?_
        refine Tr.imp (Tr.deep (by decide) (sp_X5_goOn_6 hS.1 )) ?_
        rintro M56 _ ⟨h56, r56, rfl, lr56, ur56⟩
        have hS := St.tr hS h56 (by decide) (by decide)
        refine Tr.sc [(0, r56)] rfl ?_
        refine Tr.pop (pc := 59) d_X5_takeNumber_59 ne01 ?_
        refine Tr.iload_n (pc := 60) (i := 3) d_X5_takeNumber_60 rfl rfl ?_
        exact Tr.iret (pc := 61) d_X5_takeNumber_61 rfl ⟨hS, _, rfl, by omega, by omega⟩
      · refine Tr.pick [1] (ls2 := [(0, (2, 6))]) rfl ?_
        exact J47 _ hS er11 er35 er8
  · refine Tr.aload_n (pc := 16) (i := 0) d_X5_takeNumber_16 rfl rfl ?_
    refine Tr.iconst (pc := 17) d_X5_takeNumber_17 (by decide) ?_
    refine Tr.callV (pc := 18) (as := [_]) d_X5_takeNumber_18 s_5_56 ok_X5_refuse rfl rfl (Nat.le_of_ble_eq_true rfl) (Nat.le_of_ble_eq_true rfl) (by decide) (ty_6 hS.1.1) ?_
    refine Tr.imp (Tr.deep (by decide) (sp_X5_refuse_6_w1 hS.1 ((St.kp hS (by decide) (by decide) (by decide)).trans en_6_2) 1 (by omega))) ?_
    rintro M18 _ ⟨h18, r18, rfl, lr18, ur18⟩
    have hS := St.tr hS h18 (by decide) (by decide)
    refine Tr.sc [(0, r18)] rfl ?_
    refine Tr.pop (pc := 21) d_X5_takeNumber_21 ne01 ?_
    refine Tr.iconst (pc := 22) d_X5_takeNumber_22 (by decide) ?_
    exact Tr.iret (pc := 23) d_X5_takeNumber_23 rfl ⟨hS, _, rfl, by omega, by omega⟩

def ws_X5_takeNumber_6_w1 : List (Int × Int) := [(6, 0), (6, 1), (6, 5)]
def as_X5_takeNumber_6_w1 : List Int := []
def q_X5_takeNumber_6_w1 (M0 M' : Mem) (r : Option PV) : Prop := St Tru ws_X5_takeNumber_6_w1 as_X5_takeNumber_6_w1 M0 M' ∧ ∃ v : Int, r = some (0, v) ∧ (-1) ≤ v ∧ v ≤ 99
set_option maxRecDepth 100000 in
set_option maxHeartbeats 4000000 in
theorem sp_X5_takeNumber_6_w1 {l : Launch} {K : EC} {M0 : Mem} (hI : In Tru M0) (en_6_2 : rd M0 6 2 = 2) (a1 : Int) (ha1 : 0 ≤ a1 ∧ a1 ≤ 99) (a2 : Int) (ha2 : 99 ≤ a2 ∧ a2 ≤ 99)  : Tr l K 1 mX5_takeNumber 0 [(0, (2, 6)), (1, (0, a1)), (2, (0, a2))] [] M0 (q_X5_takeNumber_6_w1 M0) := by
  have hS : St Tru ws_X5_takeNumber_6_w1 as_X5_takeNumber_6_w1 M0 M0 := St.rf hI
  refine Tr.aload_n (pc := 0) (i := 0) d_X5_takeNumber_0 rfl rfl ?_
  refine Tr.getf (pc := 1) d_X5_takeNumber_1 f_5_18 (by decide) (by decide) (ty_6 hS.1.1) ?_
  refine Tr.tp 2 ((St.kp hS (by decide) (by decide) (by decide)).trans en_6_2) ?_
  refine Tr.getf (pc := 4) d_X5_takeNumber_4 f_5_50 (by decide) (by decide) (ty_2 hS.1.1) ?_
  refine Tr.tp 3 (fx_2_0 hS.1.1) ?_
  refine Tr.aload_n (pc := 7) (i := 0) d_X5_takeNumber_7 rfl rfl ?_
  refine Tr.getf (pc := 8) d_X5_takeNumber_8 f_5_36 (by decide) (by decide) (ty_6 hS.1.1) ?_
  refine Tr.gen (P := fun v => 0 ≤ v ∧ v ≤ 900) (ir_6_5 hS.1.2.1) (fun r8 er8 br8 => ?_)
  refine Tr.iald (pc := 11) d_X5_takeNumber_11 (ty_3 hS.1.1) (by omega) (by omega) ?_
  refine Tr.gen (P := fun v => (-2147483648) ≤ v ∧ v ≤ 2147483647) (ar_3 hS.1.2.1 _) (fun r11 er11 br11 => ?_)
  refine Tr.iconst (pc := 12) d_X5_takeNumber_12 (by decide) ?_
  refine Tr.icmp_eq (pc := 13) (tgt := 24) d_X5_takeNumber_13 rfl (fun c13 => ?_) (fun c13 => ?_)
  · refine Tr.aload_n (pc := 24) (i := 0) d_X5_takeNumber_24 rfl rfl ?_
    refine Tr.getf (pc := 25) d_X5_takeNumber_25 f_5_18 (by decide) (by decide) (ty_6 hS.1.1) ?_
    refine Tr.tp 2 ((St.kp hS (by decide) (by decide) (by decide)).trans en_6_2) ?_
    refine Tr.getf (pc := 28) d_X5_takeNumber_28 f_5_68 (by decide) (by decide) (ty_2 hS.1.1) ?_
    refine Tr.tp 5 (fx_2_2 hS.1.1) ?_
    refine Tr.aload_n (pc := 31) (i := 0) d_X5_takeNumber_31 rfl rfl ?_
    refine Tr.getf (pc := 32) d_X5_takeNumber_32 f_5_36 (by decide) (by decide) (ty_6 hS.1.1) ?_
    refine Tr.tp r8 er8 ?_
    refine Tr.iald (pc := 35) d_X5_takeNumber_35 (ty_5 hS.1.1) (by omega) (by omega) ?_
    refine Tr.gen (P := fun v => (-2147483648) ≤ v ∧ v ≤ 2147483647) (ar_5 hS.1.2.1 _) (fun r35 er35 br35 => ?_)
    refine Tr.istore_n (pc := 36) (i := 3) (ls2 := [(3, (0, r35)), (0, (2, 6)), (1, (0, a1)), (2, (0, a2))]) d_X5_takeNumber_36 rfl (by decide) rfl ?_
    refine Tr.iload_n (pc := 37) (i := 3) d_X5_takeNumber_37 rfl rfl ?_
    refine Tr.iload_n (pc := 38) (i := 1) d_X5_takeNumber_38 rfl rfl ?_
    have J47 : ∀ (M : Mem), St Tru ws_X5_takeNumber_6_w1 as_X5_takeNumber_6_w1 M0 M → rd M 3 r8 = r11 → rd M 5 r8 = r35 → rd M 6 5 = r8 → Tr l K 1 mX5_takeNumber 47 [(0, (2, 6))] [] M (q_X5_takeNumber_6_w1 M0) := by
      intro M  hS  k47_3_r810 k47_5_r810 k47_6_5
      refine Tr.aload_n (pc := 47) (i := 0) d_X5_takeNumber_47 rfl rfl ?_
      refine Tr.iconst (pc := 48) d_X5_takeNumber_48 (by decide) ?_
      refine Tr.callV (pc := 49) (as := [_]) d_X5_takeNumber_49 s_5_56 ok_X5_refuse rfl rfl (Nat.le_of_ble_eq_true rfl) (Nat.le_of_ble_eq_true rfl) (by decide) (ty_6 hS.1.1) ?_
      refine Tr.imp (Tr.deep (by decide) (sp_X5_refuse_6_w3 hS.1 ((St.kp hS (by decide) (by decide) (by decide)).trans en_6_2) 4 (by omega))) ?_
      rintro M49 _ ⟨h49, r49, rfl, lr49, ur49⟩
      have hS := St.tr hS h49 (by decide) (by decide)
      refine Tr.sc [(0, r49)] rfl ?_
      refine Tr.pop (pc := 52) d_X5_takeNumber_52 ne01 ?_
      refine Tr.iconst (pc := 53) d_X5_takeNumber_53 (by decide) ?_
      exact Tr.iret (pc := 54) d_X5_takeNumber_54 rfl ⟨hS, _, rfl, by omega, by omega⟩
    refine Tr.icmp_lt (pc := 39) (tgt := 47) d_X5_takeNumber_39 rfl (fun c39 => ?_) (fun c39 => ?_)
    · refine Tr.pick [1] (ls2 := [(0, (2, 6))]) rfl ?_
      exact J47 _ hS er11 er35 er8
    · refine Tr.iload_n (pc := 42) (i := 3) d_X5_takeNumber_42 rfl rfl ?_
      refine Tr.iload_n (pc := 43) (i := 2) d_X5_takeNumber_43 rfl rfl ?_
      refine Tr.tp 99 (by omega) ?_
      refine Tr.icmp_le (pc := 44) (tgt := 55) d_X5_takeNumber_44 rfl (fun c44 => ?_) (fun c44 => ?_)
      · refine Tr.aload_n (pc := 55) (i := 0) d_X5_takeNumber_55 rfl rfl ?_
        refine Tr.callV (pc := 56) (as := []) d_X5_takeNumber_56 s_5_74 ok_X5_goOn rfl rfl (Nat.le_of_ble_eq_true rfl) (Nat.le_of_ble_eq_true rfl) (by decide) (ty_6 hS.1.1) ?_
        refine Tr.imp (Tr.deep (by decide) (sp_X5_goOn_6 hS.1 )) ?_
        rintro M56 _ ⟨h56, r56, rfl, lr56, ur56⟩
        have hS := St.tr hS h56 (by decide) (by decide)
        refine Tr.sc [(0, r56)] rfl ?_
        refine Tr.pop (pc := 59) d_X5_takeNumber_59 ne01 ?_
        refine Tr.iload_n (pc := 60) (i := 3) d_X5_takeNumber_60 rfl rfl ?_
        exact Tr.iret (pc := 61) d_X5_takeNumber_61 rfl ⟨hS, _, rfl, by omega, by omega⟩
      · refine Tr.pick [1] (ls2 := [(0, (2, 6))]) rfl ?_
        exact J47 _ hS er11 er35 er8
  · refine Tr.aload_n (pc := 16) (i := 0) d_X5_takeNumber_16 rfl rfl ?_
    refine Tr.iconst (pc := 17) d_X5_takeNumber_17 (by decide) ?_
    refine Tr.callV (pc := 18) (as := [_]) d_X5_takeNumber_18 s_5_56 ok_X5_refuse rfl rfl (Nat.le_of_ble_eq_true rfl) (Nat.le_of_ble_eq_true rfl) (by decide) (ty_6 hS.1.1) ?_
    refine Tr.imp (Tr.deep (by decide) (sp_X5_refuse_6_w1 hS.1 ((St.kp hS (by decide) (by decide) (by decide)).trans en_6_2) 1 (by omega))) ?_
    rintro M18 _ ⟨h18, r18, rfl, lr18, ur18⟩
    have hS := St.tr hS h18 (by decide) (by decide)
    refine Tr.sc [(0, r18)] rfl ?_
    refine Tr.pop (pc := 21) d_X5_takeNumber_21 ne01 ?_
    refine Tr.iconst (pc := 22) d_X5_takeNumber_22 (by decide) ?_
    exact Tr.iret (pc := 23) d_X5_takeNumber_23 rfl ⟨hS, _, rfl, by omega, by omega⟩

def ws_X5_isOwn_6 : List (Int × Int) := []
def as_X5_isOwn_6 : List Int := []
def q_X5_isOwn_6 (M0 M' : Mem) (r : Option PV) : Prop := St Tru ws_X5_isOwn_6 as_X5_isOwn_6 M0 M' ∧ ∃ v : Int, r = some (0, v) ∧ 0 ≤ v ∧ v ≤ 1
set_option maxRecDepth 100000 in
set_option maxHeartbeats 4000000 in
theorem sp_X5_isOwn_6 {l : Launch} {K : EC} {M0 : Mem} (hI : In Tru M0) (en_6_2 : rd M0 6 2 = 2) (a1 : Int) (ha1 : 10 ≤ a1 ∧ a1 ≤ 15)  : Tr l K 0 mX5_isOwn 0 [(0, (2, 6)), (1, (0, a1))] [] M0 (q_X5_isOwn_6 M0) := by
  have hS : St Tru ws_X5_isOwn_6 as_X5_isOwn_6 M0 M0 := St.rf hI
  refine Tr.aload_n (pc := 0) (i := 0) d_X5_isOwn_0 rfl rfl ?_
  refine Tr.getf (pc := 1) d_X5_isOwn_1 f_5_18 (by decide) (by decide) (ty_6 hS.1.1) ?_
  refine Tr.tp 2 ((St.kp hS (by decide) (by decide) (by decide)).trans en_6_2) ?_
  refine Tr.getf (pc := 4) d_X5_isOwn_4 f_5_50 (by decide) (by decide) (ty_2 hS.1.1) ?_
  refine Tr.tp 3 (fx_2_0 hS.1.1) ?_
  refine Tr.aload_n (pc := 7) (i := 0) d_X5_isOwn_7 rfl rfl ?_
  refine Tr.getf (pc := 8) d_X5_isOwn_8 f_5_36 (by decide) (by decide) (ty_6 hS.1.1) ?_
  refine Tr.gen (P := fun v => 0 ≤ v ∧ v ≤ 900) (ir_6_5 hS.1.2.1) (fun r8 er8 br8 => ?_)
  refine Tr.iald (pc := 11) d_X5_isOwn_11 (ty_3 hS.1.1) (by omega) (by omega) ?_
  refine Tr.gen (P := fun v => (-2147483648) ≤ v ∧ v ≤ 2147483647) (ar_3 hS.1.2.1 _) (fun r11 er11 br11 => ?_)
  refine Tr.iconst (pc := 12) d_X5_isOwn_12 (by decide) ?_
  refine Tr.icmp_ne (pc := 13) (tgt := 36) d_X5_isOwn_13 rfl (fun c13 => ?_) (fun c13 => ?_)
  · refine Tr.iconst (pc := 36) d_X5_isOwn_36 (by decide) ?_
    exact Tr.zret (pc := 37) d_X5_isOwn_37 rfl (by omega) ⟨hS, _, rfl, by omega, by omega⟩
  · refine Tr.aload_n (pc := 16) (i := 0) d_X5_isOwn_16 rfl rfl ?_
    refine Tr.getf (pc := 17) d_X5_isOwn_17 f_5_18 (by decide) (by decide) (ty_6 hS.1.1) ?_
    refine Tr.tp 2 ((St.kp hS (by decide) (by decide) (by decide)).trans en_6_2) ?_
    refine Tr.getf (pc := 20) d_X5_isOwn_20 f_5_68 (by decide) (by decide) (ty_2 hS.1.1) ?_
    refine Tr.tp 5 (fx_2_2 hS.1.1) ?_
    refine Tr.aload_n (pc := 23) (i := 0) d_X5_isOwn_23 rfl rfl ?_
    refine Tr.getf (pc := 24) d_X5_isOwn_24 f_5_36 (by decide) (by decide) (ty_6 hS.1.1) ?_
    refine Tr.tp r8 er8 ?_
    refine Tr.iald (pc := 27) d_X5_isOwn_27 (ty_5 hS.1.1) (by omega) (by omega) ?_
    refine Tr.gen (P := fun v => (-2147483648) ≤ v ∧ v ≤ 2147483647) (ar_5 hS.1.2.1 _) (fun r27 er27 br27 => ?_)
    refine Tr.iload_n (pc := 28) (i := 1) d_X5_isOwn_28 rfl rfl ?_
    refine Tr.icmp_ne (pc := 29) (tgt := 36) d_X5_isOwn_29 rfl (fun c29 => ?_) (fun c29 => ?_)
    · refine Tr.iconst (pc := 36) d_X5_isOwn_36 (by decide) ?_
      exact Tr.zret (pc := 37) d_X5_isOwn_37 rfl (by omega) ⟨hS, _, rfl, by omega, by omega⟩
    · refine Tr.iconst (pc := 32) d_X5_isOwn_32 (by decide) ?_
      refine Tr.goto (pc := 33) (tgt := 37) d_X5_isOwn_33 rfl ?_
      exact Tr.zret (pc := 37) d_X5_isOwn_37 rfl (by omega) ⟨hS, _, rfl, by omega, by omega⟩

def ws_X5_takeOwn_6 : List (Int × Int) := [(6, 0), (6, 1), (6, 5)]
def as_X5_takeOwn_6 : List Int := []
def q_X5_takeOwn_6 (M0 M' : Mem) (r : Option PV) : Prop := St Tru ws_X5_takeOwn_6 as_X5_takeOwn_6 M0 M' ∧ ∃ v : Int, r = some (0, v) ∧ 0 ≤ v ∧ v ≤ 1
set_option maxRecDepth 100000 in
set_option maxHeartbeats 4000000 in
theorem sp_X5_takeOwn_6 {l : Launch} {K : EC} {M0 : Mem} (hI : In Tru M0) (en_6_2 : rd M0 6 2 = 2) (a1 : Int) (ha1 : 10 ≤ a1 ∧ a1 ≤ 15)  : Tr l K 1 mX5_takeOwn 0 [(0, (2, 6)), (1, (0, a1))] [] M0 (q_X5_takeOwn_6 M0) := by
  have hS : St Tru ws_X5_takeOwn_6 as_X5_takeOwn_6 M0 M0 := St.rf hI
  refine Tr.aload_n (pc := 0) (i := 0) d_X5_takeOwn_0 rfl rfl ?_
  refine Tr.iload_n (pc := 1) (i := 1) d_X5_takeOwn_1 rfl rfl ?_
  refine Tr.callV (pc := 2) (as := [_]) d_X5_takeOwn_2 s_5_71 ok_X5_isOwn rfl rfl (Nat.le_of_ble_eq_true rfl) (Nat.le_of_ble_eq_true rfl) (by decide) (ty_6 hS.1.1) ?_
  refine Tr.imp (Tr.deep (by decide) (sp_X5_isOwn_6 hS.1 ((St.kp hS (by decide) (by decide) (by decide)).trans en_6_2) a1 (by omega))) ?_
  rintro M2 _ ⟨h2, r2, rfl, lr2, ur2⟩
  have hS := St.tr hS h2 (by decide) (by decide)
  refine Tr.sc [(0, r2)] rfl ?_
  refine Tr.if_eq (pc := 5) (tgt := 15) d_X5_takeOwn_5 rfl (fun c5 => ?_) (fun c5 => ?_)
  · refine Tr.aload_n (pc := 15) (i := 0) d_X5_takeOwn_15 rfl rfl ?_
    refine Tr.iconst (pc := 16) d_X5_takeOwn_16 (by decide) ?_
    refine Tr.callV (pc := 17) (as := [_]) d_X5_takeOwn_17 s_5_56 ok_X5_refuse rfl rfl (Nat.le_of_ble_eq_true rfl) (Nat.le_of_ble_eq_true rfl) (by decide) (ty_6 hS.1.1) ?_
    refine Tr.imp (Tr.deep (by decide) (sp_X5_refuse_6_w1 hS.1 ((St.kp hS (by decide) (by decide) (by decide)).trans en_6_2) 1 (by omega))) ?_
    rintro M17 _ ⟨h17, r17, rfl, lr17, ur17⟩
    have hS := St.tr hS h17 (by decide) (by decide)
    refine Tr.sc [(0, r17)] rfl ?_
    exact Tr.zret (pc := 20) d_X5_takeOwn_20 rfl (by omega) ⟨hS, _, rfl, by omega, by omega⟩
  · refine Tr.aload_n (pc := 8) (i := 0) d_X5_takeOwn_8 rfl rfl ?_
    refine Tr.callV (pc := 9) (as := []) d_X5_takeOwn_9 s_5_74 ok_X5_goOn rfl rfl (Nat.le_of_ble_eq_true rfl) (Nat.le_of_ble_eq_true rfl) (by decide) (ty_6 hS.1.1) ?_
    refine Tr.imp (Tr.deep (by decide) (sp_X5_goOn_6 hS.1 )) ?_
    rintro M9 _ ⟨h9, r9, rfl, lr9, ur9⟩
    have hS := St.tr hS h9 (by decide) (by decide)
    refine Tr.sc [(0, r9)] rfl ?_
    refine Tr.goto (pc := 12) (tgt := 20) d_X5_takeOwn_12 rfl ?_
    exact Tr.zret (pc := 20) d_X5_takeOwn_20 rfl (by omega) ⟨hS, _, rfl, by omega, by omega⟩

def ws_X5_takeNumber_6_w2 : List (Int × Int) := [(6, 0), (6, 1), (6, 5)]
def as_X5_takeNumber_6_w2 : List Int := []
def q_X5_takeNumber_6_w2 (M0 M' : Mem) (r : Option PV) : Prop := St Tru ws_X5_takeNumber_6_w2 as_X5_takeNumber_6_w2 M0 M' ∧ ∃ v : Int, r = some (0, v) ∧ (-1) ≤ v ∧ v ≤ 999
set_option maxRecDepth 100000 in
set_option maxHeartbeats 4000000 in
theorem sp_X5_takeNumber_6_w2 {l : Launch} {K : EC} {M0 : Mem} (hI : In Tru M0) (en_6_2 : rd M0 6 2 = 2) (a1 : Int) (ha1 : 0 ≤ a1 ∧ a1 ≤ 0) (a2 : Int) (ha2 : 999 ≤ a2 ∧ a2 ≤ 999)  : Tr l K 1 mX5_takeNumber 0 [(0, (2, 6)), (1, (0, a1)), (2, (0, a2))] [] M0 (q_X5_takeNumber_6_w2 M0) := by
  have hS : St Tru ws_X5_takeNumber_6_w2 as_X5_takeNumber_6_w2 M0 M0 := St.rf hI
  refine Tr.aload_n (pc := 0) (i := 0) d_X5_takeNumber_0 rfl rfl ?_
  refine Tr.getf (pc := 1) d_X5_takeNumber_1 f_5_18 (by decide) (by decide) (ty_6 hS.1.1) ?_
  refine Tr.tp 2 ((St.kp hS (by decide) (by decide) (by decide)).trans en_6_2) ?_
  refine Tr.getf (pc := 4) d_X5_takeNumber_4 f_5_50 (by decide) (by decide) (ty_2 hS.1.1) ?_
  refine Tr.tp 3 (fx_2_0 hS.1.1) ?_
  refine Tr.aload_n (pc := 7) (i := 0) d_X5_takeNumber_7 rfl rfl ?_
  refine Tr.getf (pc := 8) d_X5_takeNumber_8 f_5_36 (by decide) (by decide) (ty_6 hS.1.1) ?_
  refine Tr.gen (P := fun v => 0 ≤ v ∧ v ≤ 900) (ir_6_5 hS.1.2.1) (fun r8 er8 br8 => ?_)
  refine Tr.iald (pc := 11) d_X5_takeNumber_11 (ty_3 hS.1.1) (by omega) (by omega) ?_
  refine Tr.gen (P := fun v => (-2147483648) ≤ v ∧ v ≤ 2147483647) (ar_3 hS.1.2.1 _) (fun r11 er11 br11 => ?_)
  refine Tr.iconst (pc := 12) d_X5_takeNumber_12 (by decide) ?_
  refine Tr.icmp_eq (pc := 13) (tgt := 24) d_X5_takeNumber_13 rfl (fun c13 => ?_) (fun c13 => ?_)
  · refine Tr.aload_n (pc := 24) (i := 0) d_X5_takeNumber_24 rfl rfl ?_
    refine Tr.getf (pc := 25) d_X5_takeNumber_25 f_5_18 (by decide) (by decide) (ty_6 hS.1.1) ?_
    refine Tr.tp 2 ((St.kp hS (by decide) (by decide) (by decide)).trans en_6_2) ?_
    refine Tr.getf (pc := 28) d_X5_takeNumber_28 f_5_68 (by decide) (by decide) (ty_2 hS.1.1) ?_
    refine Tr.tp 5 (fx_2_2 hS.1.1) ?_
    refine Tr.aload_n (pc := 31) (i := 0) d_X5_takeNumber_31 rfl rfl ?_
    refine Tr.getf (pc := 32) d_X5_takeNumber_32 f_5_36 (by decide) (by decide) (ty_6 hS.1.1) ?_
    refine Tr.tp r8 er8 ?_
    refine Tr.iald (pc := 35) d_X5_takeNumber_35 (ty_5 hS.1.1) (by omega) (by omega) ?_
    refine Tr.gen (P := fun v => (-2147483648) ≤ v ∧ v ≤ 2147483647) (ar_5 hS.1.2.1 _) (fun r35 er35 br35 => ?_)
    refine Tr.istore_n (pc := 36) (i := 3) (ls2 := [(3, (0, r35)), (0, (2, 6)), (1, (0, a1)), (2, (0, a2))]) d_X5_takeNumber_36 rfl (by decide) rfl ?_
    refine Tr.iload_n (pc := 37) (i := 3) d_X5_takeNumber_37 rfl rfl ?_
    refine Tr.iload_n (pc := 38) (i := 1) d_X5_takeNumber_38 rfl rfl ?_
    refine Tr.tp 0 (by omega) ?_
    have J47 : ∀ (M : Mem), St Tru ws_X5_takeNumber_6_w2 as_X5_takeNumber_6_w2 M0 M → rd M 3 r8 = r11 → rd M 5 r8 = r35 → rd M 6 5 = r8 → Tr l K 1 mX5_takeNumber 47 [(0, (2, 6))] [] M (q_X5_takeNumber_6_w2 M0) := by
      intro M  hS  k47_3_r810 k47_5_r810 k47_6_5
      refine Tr.aload_n (pc := 47) (i := 0) d_X5_takeNumber_47 rfl rfl ?_
      refine Tr.iconst (pc := 48) d_X5_takeNumber_48 (by decide) ?_
      refine Tr.callV (pc := 49) (as := [_]) d_X5_takeNumber_49 s_5_56 ok_X5_refuse rfl rfl (Nat.le_of_ble_eq_true rfl) (Nat.le_of_ble_eq_true rfl) (by decide) (ty_6 hS.1.1) ?_
      refine Tr.imp (Tr.deep (by decide) (sp_X5_refuse_6_w3 hS.1 ((St.kp hS (by decide) (by decide) (by decide)).trans en_6_2) 4 (by omega))) ?_
      rintro M49 _ ⟨h49, r49, rfl, lr49, ur49⟩
      have hS := St.tr hS h49 (by decide) (by decide)
      refine Tr.sc [(0, r49)] rfl ?_
      refine Tr.pop (pc := 52) d_X5_takeNumber_52 ne01 ?_
      refine Tr.iconst (pc := 53) d_X5_takeNumber_53 (by decide) ?_
      exact Tr.iret (pc := 54) d_X5_takeNumber_54 rfl ⟨hS, _, rfl, by omega, by omega⟩
    refine Tr.icmp_lt (pc := 39) (tgt := 47) d_X5_takeNumber_39 rfl (fun c39 => ?_) (fun c39 => ?_)
    · refine Tr.pick [1] (ls2 := [(0, (2, 6))]) rfl ?_
      exact J47 _ hS er11 er35 er8
    · refine Tr.iload_n (pc := 42) (i := 3) d_X5_takeNumber_42 rfl rfl ?_
      refine Tr.iload_n (pc := 43) (i := 2) d_X5_takeNumber_43 rfl rfl ?_
      refine Tr.tp 999 (by omega) ?_
      refine Tr.icmp_le (pc := 44) (tgt := 55) d_X5_takeNumber_44 rfl (fun c44 => ?_) (fun c44 => ?_)
      · refine Tr.aload_n (pc := 55) (i := 0) d_X5_takeNumber_55 rfl rfl ?_
        refine Tr.callV (pc := 56) (as := []) d_X5_takeNumber_56 s_5_74 ok_X5_goOn rfl rfl (Nat.le_of_ble_eq_true rfl) (Nat.le_of_ble_eq_true rfl) (by decide) (ty_6 hS.1.1) ?_
        refine Tr.imp (Tr.deep (by decide) (sp_X5_goOn_6 hS.1 )) ?_
        rintro M56 _ ⟨h56, r56, rfl, lr56, ur56⟩
        have hS := St.tr hS h56 (by decide) (by decide)
        refine Tr.sc [(0, r56)] rfl ?_
        refine Tr.pop (pc := 59) d_X5_takeNumber_59 ne01 ?_
        refine Tr.iload_n (pc := 60) (i := 3) d_X5_takeNumber_60 rfl rfl ?_
        exact Tr.iret (pc := 61) d_X5_takeNumber_61 rfl ⟨hS, _, rfl, by omega, by omega⟩
      · refine Tr.pick [1] (ls2 := [(0, (2, 6))]) rfl ?_
        exact J47 _ hS er11 er35 er8
  · refine Tr.aload_n (pc := 16) (i := 0) d_X5_takeNumber_16 rfl rfl ?_
    refine Tr.iconst (pc := 17) d_X5_takeNumber_17 (by decide) ?_
    refine Tr.callV (pc := 18) (as := [_]) d_X5_takeNumber_18 s_5_56 ok_X5_refuse rfl rfl (Nat.le_of_ble_eq_true rfl) (Nat.le_of_ble_eq_true rfl) (by decide) (ty_6 hS.1.1) ?_
    refine Tr.imp (Tr.deep (by decide) (sp_X5_refuse_6_w1 hS.1 ((St.kp hS (by decide) (by decide) (by decide)).trans en_6_2) 1 (by omega))) ?_
    rintro M18 _ ⟨h18, r18, rfl, lr18, ur18⟩
    have hS := St.tr hS h18 (by decide) (by decide)
    refine Tr.sc [(0, r18)] rfl ?_
    refine Tr.pop (pc := 21) d_X5_takeNumber_21 ne01 ?_
    refine Tr.iconst (pc := 22) d_X5_takeNumber_22 (by decide) ?_
    exact Tr.iret (pc := 23) d_X5_takeNumber_23 rfl ⟨hS, _, rfl, by omega, by omega⟩

def ws_X5_takeTold_6 : List (Int × Int) := [(6, 0), (6, 1), (6, 5)]
def as_X5_takeTold_6 : List Int := []
def q_X5_takeTold_6 (M0 M' : Mem) (r : Option PV) : Prop := St Tru ws_X5_takeTold_6 as_X5_takeTold_6 M0 M' ∧ ∃ v : Int, r = some (0, v) ∧ (-1) ≤ v ∧ v ≤ 999
set_option maxRecDepth 100000 in
set_option maxHeartbeats 4000000 in
theorem sp_X5_takeTold_6 {l : Launch} {K : EC} {M0 : Mem} (hI : In Tru M0) (en_6_2 : rd M0 6 2 = 2) (a1 : Int) (ha1 : 10 ≤ a1 ∧ a1 ≤ 15) (a2 : Int) (ha2 : 999 ≤ a2 ∧ a2 ≤ 999)  : Tr l K 2 mX5_takeTold 0 [(0, (2, 6)), (1, (0, a1)), (2, (0, a2))] [] M0 (q_X5_takeTold_6 M0) := by
  have hS : St Tru ws_X5_takeTold_6 as_X5_takeTold_6 M0 M0 := St.rf hI
  refine Tr.aload_n (pc := 0) (i := 0) d_X5_takeTold_0 rfl rfl ?_
  refine Tr.iload_n (pc := 1) (i := 1) d_X5_takeTold_1 rfl rfl ?_
  refine Tr.callV (pc := 2) (as := [_]) d_X5_takeTold_2 s_5_84 ok_X5_takeOwn rfl rfl (Nat.le_of_ble_eq_true rfl) (Nat.le_of_ble_eq_true rfl) (by decide) (ty_6 hS.1.1) ?_
  refine Tr.imp (Tr.deep (by decide) (sp_X5_takeOwn_6 hS.1 ((St.kp hS (by decide) (by decide) (by decide)).trans en_6_2) a1 (by omega))) ?_
  rintro M2 _ ⟨h2, r2, rfl, lr2, ur2⟩
  have hS := St.tr hS h2 (by decide) (by decide)
  refine Tr.sc [(0, r2)] rfl ?_
  refine Tr.if_eq (pc := 5) (tgt := 17) d_X5_takeTold_5 rfl (fun c5 => ?_) (fun c5 => ?_)
  · refine Tr.iconst (pc := 17) d_X5_takeTold_17 (by decide) ?_
    exact Tr.iret (pc := 18) d_X5_takeTold_18 rfl ⟨hS, _, rfl, by omega, by omega⟩
  · refine Tr.aload_n (pc := 8) (i := 0) d_X5_takeTold_8 rfl rfl ?_
    refine Tr.iconst (pc := 9) d_X5_takeTold_9 (by decide) ?_
    refine Tr.iload_n (pc := 10) (i := 2) d_X5_takeTold_10 rfl rfl ?_
    refine Tr.tp 999 (by omega) ?_
    refine Tr.callV (pc := 11) (as := [_, _]) d_X5_takeTold_11 s_5_87 ok_X5_takeNumber rfl rfl (Nat.le_of_ble_eq_true rfl) (Nat.le_of_ble_eq_true rfl) (by decide) (ty_6 hS.1.1) ?_
    refine Tr.imp (Tr.deep (by decide) (sp_X5_takeNumber_6_w2 hS.1 ((St.kp hS (by decide) (by decide) (by decide)).trans en_6_2) 0 (by omega) 999 (by omega))) ?_
    rintro M11 _ ⟨h11, r11, rfl, lr11, ur11⟩
    have hS := St.tr hS h11 (by decide) (by decide)
    refine Tr.sc [(0, r11)] rfl ?_
    refine Tr.goto (pc := 14) (tgt := 18) d_X5_takeTold_14 rfl ?_
    exact Tr.iret (pc := 18) d_X5_takeTold_18 rfl ⟨hS, _, rfl, by omega, by omega⟩

def ws_X5_takeNumber_6_w3 : List (Int × Int) := [(6, 0), (6, 1), (6, 5)]
def as_X5_takeNumber_6_w3 : List Int := []
def q_X5_takeNumber_6_w3 (M0 M' : Mem) (r : Option PV) : Prop := St Tru ws_X5_takeNumber_6_w3 as_X5_takeNumber_6_w3 M0 M' ∧ ∃ v : Int, r = some (0, v) ∧ (-1) ≤ v ∧ v ≤ 20
set_option maxRecDepth 100000 in
set_option maxHeartbeats 4000000 in
theorem sp_X5_takeNumber_6_w3 {l : Launch} {K : EC} {M0 : Mem} (hI : In Tru M0) (en_6_2 : rd M0 6 2 = 2) (a1 : Int) (ha1 : 0 ≤ a1 ∧ a1 ≤ 0) (a2 : Int) (ha2 : 20 ≤ a2 ∧ a2 ≤ 20)  : Tr l K 1 mX5_takeNumber 0 [(0, (2, 6)), (1, (0, a1)), (2, (0, a2))] [] M0 (q_X5_takeNumber_6_w3 M0) := by
  have hS : St Tru ws_X5_takeNumber_6_w3 as_X5_takeNumber_6_w3 M0 M0 := St.rf hI
  refine Tr.aload_n (pc := 0) (i := 0) d_X5_takeNumber_0 rfl rfl ?_
  refine Tr.getf (pc := 1) d_X5_takeNumber_1 f_5_18 (by decide) (by decide) (ty_6 hS.1.1) ?_
  refine Tr.tp 2 ((St.kp hS (by decide) (by decide) (by decide)).trans en_6_2) ?_
  refine Tr.getf (pc := 4) d_X5_takeNumber_4 f_5_50 (by decide) (by decide) (ty_2 hS.1.1) ?_
  refine Tr.tp 3 (fx_2_0 hS.1.1) ?_
  refine Tr.aload_n (pc := 7) (i := 0) d_X5_takeNumber_7 rfl rfl ?_
  refine Tr.getf (pc := 8) d_X5_takeNumber_8 f_5_36 (by decide) (by decide) (ty_6 hS.1.1) ?_
  refine Tr.gen (P := fun v => 0 ≤ v ∧ v ≤ 900) (ir_6_5 hS.1.2.1) (fun r8 er8 br8 => ?_)
  refine Tr.iald (pc := 11) d_X5_takeNumber_11 (ty_3 hS.1.1) (by omega) (by omega) ?_
  refine Tr.gen (P := fun v => (-2147483648) ≤ v ∧ v ≤ 2147483647) (ar_3 hS.1.2.1 _) (fun r11 er11 br11 => ?_)
  refine Tr.iconst (pc := 12) d_X5_takeNumber_12 (by decide) ?_
  refine Tr.icmp_eq (pc := 13) (tgt := 24) d_X5_takeNumber_13 rfl (fun c13 => ?_) (fun c13 => ?_)
  · refine Tr.aload_n (pc := 24) (i := 0) d_X5_takeNumber_24 rfl rfl ?_
    refine Tr.getf (pc := 25) d_X5_takeNumber_25 f_5_18 (by decide) (by decide) (ty_6 hS.1.1) ?_
    refine Tr.tp 2 ((St.kp hS (by decide) (by decide) (by decide)).trans en_6_2) ?_
    refine Tr.getf (pc := 28) d_X5_takeNumber_28 f_5_68 (by decide) (by decide) (ty_2 hS.1.1) ?_
    refine Tr.tp 5 (fx_2_2 hS.1.1) ?_
    refine Tr.aload_n (pc := 31) (i := 0) d_X5_takeNumber_31 rfl rfl ?_
    refine Tr.getf (pc := 32) d_X5_takeNumber_32 f_5_36 (by decide) (by decide) (ty_6 hS.1.1) ?_
    refine Tr.tp r8 er8 ?_
    refine Tr.iald (pc := 35) d_X5_takeNumber_35 (ty_5 hS.1.1) (by omega) (by omega) ?_
    refine Tr.gen (P := fun v => (-2147483648) ≤ v ∧ v ≤ 2147483647) (ar_5 hS.1.2.1 _) (fun r35 er35 br35 => ?_)
    refine Tr.istore_n (pc := 36) (i := 3) (ls2 := [(3, (0, r35)), (0, (2, 6)), (1, (0, a1)), (2, (0, a2))]) d_X5_takeNumber_36 rfl (by decide) rfl ?_
    refine Tr.iload_n (pc := 37) (i := 3) d_X5_takeNumber_37 rfl rfl ?_
    refine Tr.iload_n (pc := 38) (i := 1) d_X5_takeNumber_38 rfl rfl ?_
    refine Tr.tp 0 (by omega) ?_
    have J47 : ∀ (M : Mem), St Tru ws_X5_takeNumber_6_w3 as_X5_takeNumber_6_w3 M0 M → rd M 3 r8 = r11 → rd M 5 r8 = r35 → rd M 6 5 = r8 → Tr l K 1 mX5_takeNumber 47 [(0, (2, 6))] [] M (q_X5_takeNumber_6_w3 M0) := by
      intro M  hS  k47_3_r810 k47_5_r810 k47_6_5
      refine Tr.aload_n (pc := 47) (i := 0) d_X5_takeNumber_47 rfl rfl ?_
      refine Tr.iconst (pc := 48) d_X5_takeNumber_48 (by decide) ?_
      refine Tr.callV (pc := 49) (as := [_]) d_X5_takeNumber_49 s_5_56 ok_X5_refuse rfl rfl (Nat.le_of_ble_eq_true rfl) (Nat.le_of_ble_eq_true rfl) (by decide) (ty_6 hS.1.1) ?_
      refine Tr.imp (Tr.deep (by decide) (sp_X5_refuse_6_w3 hS.1 ((St.kp hS (by decide) (by decide) (by decide)).trans en_6_2) 4 (by omega))) ?_
      rintro M49 _ ⟨h49, r49, rfl, lr49, ur49⟩
      have hS := St.tr hS h49 (by decide) (by decide)
      refine Tr.sc [(0, r49)] rfl ?_
      refine Tr.pop (pc := 52) d_X5_takeNumber_52 ne01 ?_
      refine Tr.iconst (pc := 53) d_X5_takeNumber_53 (by decide) ?_
      exact Tr.iret (pc := 54) d_X5_takeNumber_54 rfl ⟨hS, _, rfl, by omega, by omega⟩
    refine Tr.icmp_lt (pc := 39) (tgt := 47) d_X5_takeNumber_39 rfl (fun c39 => ?_) (fun c39 => ?_)
    · refine Tr.pick [1] (ls2 := [(0, (2, 6))]) rfl ?_
      exact J47 _ hS er11 er35 er8
    · refine Tr.iload_n (pc := 42) (i := 3) d_X5_takeNumber_42 rfl rfl ?_
      refine Tr.iload_n (pc := 43) (i := 2) d_X5_takeNumber_43 rfl rfl ?_
      refine Tr.tp 20 (by omega) ?_
      refine Tr.icmp_le (pc := 44) (tgt := 55) d_X5_takeNumber_44 rfl (fun c44 => ?_) (fun c44 => ?_)
      · refine Tr.aload_n (pc := 55) (i := 0) d_X5_takeNumber_55 rfl rfl ?_
        refine Tr.callV (pc := 56) (as := []) d_X5_takeNumber_56 s_5_74 ok_X5_goOn rfl rfl (Nat.le_of_ble_eq_true rfl) (Nat.le_of_ble_eq_true rfl) (by decide) (ty_6 hS.1.1) ?_
        refine Tr.imp (Tr.deep (by decide) (sp_X5_goOn_6 hS.1 )) ?_
        rintro M56 _ ⟨h56, r56, rfl, lr56, ur56⟩
        have hS := St.tr hS h56 (by decide) (by decide)
        refine Tr.sc [(0, r56)] rfl ?_
        refine Tr.pop (pc := 59) d_X5_takeNumber_59 ne01 ?_
        refine Tr.iload_n (pc := 60) (i := 3) d_X5_takeNumber_60 rfl rfl ?_
        exact Tr.iret (pc := 61) d_X5_takeNumber_61 rfl ⟨hS, _, rfl, by omega, by omega⟩
      · refine Tr.pick [1] (ls2 := [(0, (2, 6))]) rfl ?_
        exact J47 _ hS er11 er35 er8
  · refine Tr.aload_n (pc := 16) (i := 0) d_X5_takeNumber_16 rfl rfl ?_
    refine Tr.iconst (pc := 17) d_X5_takeNumber_17 (by decide) ?_
    refine Tr.callV (pc := 18) (as := [_]) d_X5_takeNumber_18 s_5_56 ok_X5_refuse rfl rfl (Nat.le_of_ble_eq_true rfl) (Nat.le_of_ble_eq_true rfl) (by decide) (ty_6 hS.1.1) ?_
    refine Tr.imp (Tr.deep (by decide) (sp_X5_refuse_6_w1 hS.1 ((St.kp hS (by decide) (by decide) (by decide)).trans en_6_2) 1 (by omega))) ?_
    rintro M18 _ ⟨h18, r18, rfl, lr18, ur18⟩
    have hS := St.tr hS h18 (by decide) (by decide)
    refine Tr.sc [(0, r18)] rfl ?_
    refine Tr.pop (pc := 21) d_X5_takeNumber_21 ne01 ?_
    refine Tr.iconst (pc := 22) d_X5_takeNumber_22 (by decide) ?_
    exact Tr.iret (pc := 23) d_X5_takeNumber_23 rfl ⟨hS, _, rfl, by omega, by omega⟩

def ws_X5_takeTold_6_w1 : List (Int × Int) := [(6, 0), (6, 1), (6, 5)]
def as_X5_takeTold_6_w1 : List Int := []
def q_X5_takeTold_6_w1 (M0 M' : Mem) (r : Option PV) : Prop := St Tru ws_X5_takeTold_6_w1 as_X5_takeTold_6_w1 M0 M' ∧ ∃ v : Int, r = some (0, v) ∧ (-1) ≤ v ∧ v ≤ 20
set_option maxRecDepth 100000 in
set_option maxHeartbeats 4000000 in
theorem sp_X5_takeTold_6_w1 {l : Launch} {K : EC} {M0 : Mem} (hI : In Tru M0) (en_6_2 : rd M0 6 2 = 2) (a1 : Int) (ha1 : 15 ≤ a1 ∧ a1 ≤ 15) (a2 : Int) (ha2 : 20 ≤ a2 ∧ a2 ≤ 20)  : Tr l K 2 mX5_takeTold 0 [(0, (2, 6)), (1, (0, a1)), (2, (0, a2))] [] M0 (q_X5_takeTold_6_w1 M0) := by
  have hS : St Tru ws_X5_takeTold_6_w1 as_X5_takeTold_6_w1 M0 M0 := St.rf hI
  refine Tr.aload_n (pc := 0) (i := 0) d_X5_takeTold_0 rfl rfl ?_
  refine Tr.iload_n (pc := 1) (i := 1) d_X5_takeTold_1 rfl rfl ?_
  refine Tr.tp 15 (by omega) ?_
  refine Tr.callV (pc := 2) (as := [_]) d_X5_takeTold_2 s_5_84 ok_X5_takeOwn rfl rfl (Nat.le_of_ble_eq_true rfl) (Nat.le_of_ble_eq_true rfl) (by decide) (ty_6 hS.1.1) ?_
  refine Tr.imp (Tr.deep (by decide) (sp_X5_takeOwn_6 hS.1 ((St.kp hS (by decide) (by decide) (by decide)).trans en_6_2) 15 (by omega))) ?_
  rintro M2 _ ⟨h2, r2, rfl, lr2, ur2⟩
  have hS := St.tr hS h2 (by decide) (by decide)
  refine Tr.sc [(0, r2)] rfl ?_
  refine Tr.if_eq (pc := 5) (tgt := 17) d_X5_takeTold_5 rfl (fun c5 => ?_) (fun c5 => ?_)
  · refine Tr.iconst (pc := 17) d_X5_takeTold_17 (by decide) ?_
    exact Tr.iret (pc := 18) d_X5_takeTold_18 rfl ⟨hS, _, rfl, by omega, by omega⟩
  · refine Tr.aload_n (pc := 8) (i := 0) d_X5_takeTold_8 rfl rfl ?_
    refine Tr.iconst (pc := 9) d_X5_takeTold_9 (by decide) ?_
    refine Tr.iload_n (pc := 10) (i := 2) d_X5_takeTold_10 rfl rfl ?_
    refine Tr.tp 20 (by omega) ?_
    refine Tr.callV (pc := 11) (as := [_, _]) d_X5_takeTold_11 s_5_87 ok_X5_takeNumber rfl rfl (Nat.le_of_ble_eq_true rfl) (Nat.le_of_ble_eq_true rfl) (by decide) (ty_6 hS.1.1) ?_
    refine Tr.imp (Tr.deep (by decide) (sp_X5_takeNumber_6_w3 hS.1 ((St.kp hS (by decide) (by decide) (by decide)).trans en_6_2) 0 (by omega) 20 (by omega))) ?_
    rintro M11 _ ⟨h11, r11, rfl, lr11, ur11⟩
    have hS := St.tr hS h11 (by decide) (by decide)
    refine Tr.sc [(0, r11)] rfl ?_
    refine Tr.goto (pc := 14) (tgt := 18) d_X5_takeTold_14 rfl ?_
    exact Tr.iret (pc := 18) d_X5_takeTold_18 rfl ⟨hS, _, rfl, by omega, by omega⟩
