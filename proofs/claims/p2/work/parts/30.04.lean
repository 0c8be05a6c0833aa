def ws_X1_begin_82_7 : List (Int × Int) := [(82, 1)]
def as_X1_begin_82_7 : List Int := [83]
def q_X1_begin_82_7 (M0 M' : Mem) (r : Option PV) : Prop := St Tru ws_X1_begin_82_7 as_X1_begin_82_7 M0 M' ∧ rd M' 82 1 = 7 ∧ r = none
set_option maxRecDepth 100000 in
set_option maxHeartbeats 4000000 in
theorem sp_X1_begin_82_7 {l : Launch} {K : EC} {M0 : Mem} (hI : In Tru M0)    : Tr l K 1 mX1_begin 0 [(0, (2, 82)), (1, (2, 7))] [] M0 (q_X1_begin_82_7 M0) := by
  have hS : St Tru ws_X1_begin_82_7 as_X1_begin_82_7 M0 M0 := St.rf hI
  refine Tr.aload_n (pc := 0) (i := 0) d_X1_begin_0 rfl rfl ?_
  refine Tr.aload_n (pc := 1) (i := 1) d_X1_begin_1 rfl rfl ?_
  refine Tr.putfS (pc := 2) (P := St Tru ws_X1_begin_82_7 as_X1_begin_82_7 M0) d_X1_begin_2 f_1_41 (by decide) (by decide) (ty_82 hS.1.1) (st_82_1 hS (by decide) (by omega) trivial) (fun M2 hS w2 => ?_)
  refine Tr.aload_n (pc := 5) (i := 0) d_X1_begin_5 rfl rfl ?_
  refine Tr.getf (pc := 6) d_X1_begin_6 f_1_9 (by decide) (by decide) (ty_82 hS.1.1) ?_
  refine Tr.tp 83 (fx_82_2 hS.1.1) ?_
  refine Tr.iconst (pc := 9) d_X1_begin_9 (by decide) ?_
  refine Tr.callS (pc := 10) (as := [_, _]) d_X1_begin_10 s_1_45 ok_J7_fill_53178 rfl rfl (Nat.le_of_ble_eq_true rfl) (Nat.le_of_ble_eq_true rfl) ?_
  refine Tr.imp (sp_fill (N := 24) (ty_83 hS.1.1) (by decide)) ?_
  rintro _ _ ⟨rfl, rfl⟩
  refine Tr.nmA (P := St Tru ws_X1_begin_82_7 as_X1_begin_82_7 M0) (sf_83 (v := 0) 24 hS (by decide) (by omega) trivial) (fil_wa _ _ _ _) (fun M10 hS w10 => ?_)
  refine Tr.sc [] rfl ?_
  refine Tr.aload_n (pc := 13) (i := 0) d_X1_begin_13 rfl rfl ?_
  refine Tr.getz (pc := 14) d_X1_begin_14 f_1_37 (by decide) (ty_82 hS.1.1) ?_
  refine Tr.tp 0 (fx_82_0 hS.1.1) ?_
  refine Tr.if_eq (pc := 17) (tgt := 67) d_X1_begin_17 rfl (fun _ => ?_) (fun hc => absurd (by omega) hc)
  exact Tr.vret (pc := 67) d_X1_begin_67 rfl ⟨hS, ((Wa.b w10 rfl).trans w2.1), rfl⟩

def ws_X6_begin_74_7_47 : List (Int × Int) := [(74, 1), (74, 9), (74, 11), (74, 12), (74, 13), (74, 14), (74, 15), (74, 16), (74, 17), (82, 1)]
def as_X6_begin_74_7_47 : List Int := [75, 76, 78, 79, 80, 81, 83]
def q_X6_begin_74_7_47 (a3 : Int) (M0 M' : Mem) (r : Option PV) : Prop := St Tru ws_X6_begin_74_7_47 as_X6_begin_74_7_47 M0 M' ∧ rd M' 74 1 = 7 ∧ rd M' 82 1 = 7 ∧ r = none
set_option maxRecDepth 100000 in
set_option maxHeartbeats 4000000 in
theorem sp_X6_begin_74_7_47 {l : Launch} {K : EC} {M0 : Mem} (hI : In Tru M0)  (a3 : Int) (ha3 : (-1) ≤ a3 ∧ a3 ≤ (-1))  : Tr l K 2 mX6_begin 0 [(0, (2, 74)), (1, (2, 7)), (2, (2, 47)), (3, (0, a3))] [] M0 (q_X6_begin_74_7_47 a3 M0) := by
  have hS : St Tru ws_X6_begin_74_7_47 as_X6_begin_74_7_47 M0 M0 := St.rf hI
  refine Tr.aload_n (pc := 0) (i := 0) d_X6_begin_0 rfl rfl ?_
  refine Tr.aload_n (pc := 1) (i := 1) d_X6_begin_1 rfl rfl ?_
  refine Tr.putfS (pc := 2) (P := St Tru ws_X6_begin_74_7_47 as_X6_begin_74_7_47 M0) d_X6_begin_2 f_6_46 (by decide) (by decide) (ty_74 hS.1.1) (st_74_1 hS (by decide) (by omega) trivial) (fun M2 hS w2 => ?_)
  refine Tr.aload_n (pc := 5) (i := 2) d_X6_begin_5 rfl rfl ?_
  refine Tr.iconst (pc := 6) d_X6_begin_6 (by decide) ?_
  refine Tr.aload_n (pc := 7) (i := 0) d_X6_begin_7 rfl rfl ?_
  refine Tr.getf (pc := 8) d_X6_begin_8 f_6_9 (by decide) (by decide) (ty_74 hS.1.1) ?_
  refine Tr.tp 75 (fx_74_2 hS.1.1) ?_
  refine Tr.iconst (pc := 11) d_X6_begin_11 (by decide) ?_
  refine Tr.iconst (pc := 12) d_X6_begin_12 (by decide) ?_
  refine Tr.acopyS (pc := 13) (x := 47) (y := 75) (P := St Tru ws_X6_begin_74_7_47 as_X6_begin_74_7_47 M0) d_X6_begin_13 ac_6_85 acw.1 acw.2.1 acw.2.2 (ty_47 hS.1.1) (ty_75 hS.1.1) (by omega) (by omega) (by omega) (by omega) (by omega) (Nat.le_of_ble_eq_true rfl) (sw_75 hS (by decide) rfl rfl rfl (fun z i hz => by rw [rd_cpy, if_neg (fun c => hz c.1)]) (fun i => by rw [rd_cpy]; split; exact And.intro (by have := ar_47 hS.1.2.1 (0 + (i - 0)); omega) (by have := ar_47 hS.1.2.1 (0 + (i - 0)); omega); exact ar_75 hS.1.2.1 i) trivial) (fun M13 hS w13 => ?_)
  refine Tr.aload_n (pc := 16) (i := 0) d_X6_begin_16 rfl rfl ?_
  refine Tr.getf (pc := 17) d_X6_begin_17 f_6_15 (by decide) (by decide) (ty_74 hS.1.1) ?_
  refine Tr.tp 76 (fx_74_3 hS.1.1) ?_
  refine Tr.iconst (pc := 20) d_X6_begin_20 (by decide) ?_
  refine Tr.callS (pc := 21) (as := [_, _]) d_X6_begin_21 s_6_91 ok_J7_fill_53178 rfl rfl (Nat.le_of_ble_eq_true rfl) (Nat.le_of_ble_eq_true rfl) ?_
  refine Tr.imp (sp_fill (N := 6) (ty_76 hS.1.1) (by decide)) ?_
  rintro _ _ ⟨rfl, rfl⟩
  refine Tr.nmA (P := St Tru ws_X6_begin_74_7_47 as_X6_begin_74_7_47 M0) (sf_76 (v := 0) 6 hS (by decide) (by omega) trivial) (fil_wa _ _ _ _) (fun M21 hS w21 => ?_)
  refine Tr.sc [] rfl ?_
  refine Tr.aload_n (pc := 24) (i := 0) d_X6_begin_24 rfl rfl ?_
  refine Tr.getf (pc := 25) d_X6_begin_25 f_6_21 (by decide) (by decide) (ty_74 hS.1.1) ?_
  refine Tr.tp 78 (fx_74_5 hS.1.1) ?_
  refine Tr.iconst (pc := 28) d_X6_begin_28 (by decide) ?_
  refine Tr.callS (pc := 29) (as := [_, _]) d_X6_begin_29 s_6_91 ok_J7_fill_53178 rfl rfl (Nat.le_of_ble_eq_true rfl) (Nat.le_of_ble_eq_true rfl) ?_
  refine Tr.imp (sp_fill (N := 8) (ty_78 hS.1.1) (by decide)) ?_
  rintro _ _ ⟨rfl, rfl⟩
  refine Tr.nmA (P := St Tru ws_X6_begin_74_7_47 as_X6_begin_74_7_47 M0) (sf_78 (v := (-1)) 8 hS (by decide) (by omega) trivial) (fil_wa _ _ _ _) (fun M29 hS w29 => ?_)
  refine Tr.sc [] rfl ?_
  refine Tr.aload_n (pc := 32) (i := 0) d_X6_begin_32 rfl rfl ?_
  refine Tr.getf (pc := 33) d_X6_begin_33 f_6_24 (by decide) (by decide) (ty_74 hS.1.1) ?_
  refine Tr.tp 79 (fx_74_6 hS.1.1) ?_
  refine Tr.iconst (pc := 36) d_X6_begin_36 (by decide) ?_
  refine Tr.callS (pc := 37) (as := [_, _]) d_X6_begin_37 s_6_91 ok_J7_fill_53178 rfl rfl (Nat.le_of_ble_eq_true rfl) (Nat.le_of_ble_eq_true rfl) ?_
  refine Tr.imp (sp_fill (N := 6) (ty_79 hS.1.1) (by decide)) ?_
  rintro _ _ ⟨rfl, rfl⟩
  refine Tr.nmA (P := St Tru ws_X6_begin_74_7_47 as_X6_begin_74_7_47 M0) (sf_79 (v := 0) 6 hS (by decide) (by omega) trivial) (fil_wa _ _ _ _) (fun M37 hS w37 => ?_)
  refine Tr.sc [] rfl ?_
  refine Tr.aload_n (pc := 40) (i := 0) d_X6_begin_40 rfl rfl ?_
  refine Tr.getf (pc := 41) d_X6_begin_41 f_6_27 (by decide) (by decide) (ty_74 hS.1.1) ?_
  refine Tr.tp 80 (fx_74_7 hS.1.1) ?_
  refine Tr.iconst (pc := 44) d_X6_begin_44 (by decide) ?_
  refine Tr.callS (pc := 45) (as := [_, _]) d_X6_begin_45 s_6_91 ok_J7_fill_53178 rfl rfl (Nat.le_of_ble_eq_true rfl) (Nat.le_of_ble_eq_true rfl) ?_
  refine Tr.imp (sp_fill (N := 6) (ty_80 hS.1.1) (by decide)) ?_
  rintro _ _ ⟨rfl, rfl⟩
  refine Tr.nmA (P := St Tru ws_X6_begin_74_7_47 as_X6_begin_74_7_47 M0) (sf_80 (v := 0) 6 hS (by decide) (by omega) trivial) (fil_wa _ _ _ _) (fun M45 hS w45 => ?_)
  refine Tr.sc [] rfl ?_
  refine Tr.aload_n (pc := 48) (i := 0) d_X6_begin_48 rfl rfl ?_
  refine Tr.getf (pc := 49) d_X6_begin_49 f_6_30 (by decide) (by decide) (ty_74 hS.1.1) ?_
  refine Tr.tp 81 (fx_74_8 hS.1.1) ?_
  refine Tr.iconst (pc := 52) d_X6_begin_52 (by decide) ?_
  refine Tr.callS (pc := 53) (as := [_, _]) d_X6_begin_53 s_6_91 ok_J7_fill_53178 rfl rfl (Nat.le_of_ble_eq_true rfl) (Nat.le_of_ble_eq_true rfl) ?_
  refine Tr.imp (sp_fill (N := 6) (ty_81 hS.1.1) (by decide)) ?_
  rintro _ _ ⟨rfl, rfl⟩
  refine Tr.nmA (P := St Tru ws_X6_begin_74_7_47 as_X6_begin_74_7_47 M0) (sf_81 (v := 0) 6 hS (by decide) (by omega) trivial) (fil_wa _ _ _ _) (fun M53 hS w53 => ?_)
  refine Tr.sc [] rfl ?_
  refine Tr.aload_n (pc := 56) (i := 0) d_X6_begin_56 rfl rfl ?_
  refine Tr.iconst (pc := 57) d_X6_begin_57 (by decide) ?_
  refine Tr.putfS (pc := 58) (P := St Tru ws_X6_begin_74_7_47 as_X6_begin_74_7_47 M0) d_X6_begin_58 f_6_68 (by decide) (by decide) (ty_74 hS.1.1) (st_74_9 hS (by decide) (by omega) trivial) (fun M58 hS w58 => ?_)
  refine Tr.aload_n (pc := 61) (i := 0) d_X6_begin_61 rfl rfl ?_
  refine Tr.iconst (pc := 62) d_X6_begin_62 (by decide) ?_
  refine Tr.putfS (pc := 63) (P := St Tru ws_X6_begin_74_7_47 as_X6_begin_74_7_47 M0) d_X6_begin_63 f_6_97 (by decide) (by decide) (ty_74 hS.1.1) (st_74_11 hS (by decide) (by omega) trivial) (fun M63 hS w63 => ?_)
  refine Tr.aload_n (pc := 66) (i := 0) d_X6_begin_66 rfl rfl ?_
  refine Tr.iconst (pc := 67) d_X6_begin_67 (by decide) ?_
  refine Tr.putfS (pc := 68) (P := St Tru ws_X6_begin_74_7_47 as_X6_begin_74_7_47 M0) d_X6_begin_68 f_6_100 (by decide) (by decide) (ty_74 hS.1.1) (st_74_12 hS (by decide) (by omega) trivial) (fun M68 hS w68 => ?_)
  refine Tr.aload_n (pc := 71) (i := 0) d_X6_begin_71 rfl rfl ?_
  refine Tr.iconst (pc := 72) d_X6_begin_72 (by decide) ?_
  refine Tr.putfS (pc := 73) (P := St Tru ws_X6_begin_74_7_47 as_X6_begin_74_7_47 M0) d_X6_begin_73 f_6_103 (by decide) (by decide) (ty_74 hS.1.1) (st_74_13 hS (by decide) (by omega) trivial) (fun M73 hS w73 => ?_)
  refine Tr.aload_n (pc := 76) (i := 0) d_X6_begin_76 rfl rfl ?_
  refine Tr.iconst (pc := 77) d_X6_begin_77 (by decide) ?_
  refine Tr.putfS (pc := 78) (P := St Tru ws_X6_begin_74_7_47 as_X6_begin_74_7_47 M0) d_X6_begin_78 f_6_62 (by decide) (by decide) (ty_74 hS.1.1) (st_74_14 hS (by decide) (by omega) trivial) (fun M78 hS w78 => ?_)
  refine Tr.aload_n (pc := 81) (i := 0) d_X6_begin_81 rfl rfl ?_
  refine Tr.iconst (pc := 82) d_X6_begin_82 (by decide) ?_
  refine Tr.putfS (pc := 83) (P := St Tru ws_X6_begin_74_7_47 as_X6_begin_74_7_47 M0) d_X6_begin_83 f_6_79 (by decide) (by decide) (ty_74 hS.1.1) (st_74_15 hS (by decide) (by omega) trivial) (fun M83 hS w83 => ?_)
  refine Tr.aload_n (pc := 86) (i := 0) d_X6_begin_86 rfl rfl ?_
  refine Tr.iload_n (pc := 87) (i := 3) d_X6_begin_87 rfl rfl ?_
  refine Tr.tp (-1) (by omega) ?_
  refine Tr.if_lt (pc := 88) (tgt := 95) d_X6_begin_88 rfl (fun _ => ?_) (fun hc => absurd (by omega) hc)
  refine Tr.iconst (pc := 95) d_X6_begin_95 (by decide) ?_
  refine Tr.putzS (pc := 96) (P := St Tru ws_X6_begin_74_7_47 as_X6_begin_74_7_47 M0) d_X6_begin_96 f_6_106 (by decide) (ty_74 hS.1.1) (by omega) (st_74_16 hS (by decide) (by omega) trivial) (fun M96 hS w96 => ?_)
  refine Tr.aload_n (pc := 99) (i := 0) d_X6_begin_99 rfl rfl ?_
  refine Tr.iload_n (pc := 100) (i := 3) d_X6_begin_100 rfl rfl ?_
  refine Tr.tp (-1) (by omega) ?_
  refine Tr.putfS (pc := 101) (P := St Tru ws_X6_begin_74_7_47 as_X6_begin_74_7_47 M0) d_X6_begin_101 f_6_110 (by decide) (by decide) (ty_74 hS.1.1) (st_74_17 hS (by decide) (by omega) trivial) (fun M101 hS w101 => ?_)
  refine Tr.aload_n (pc := 104) (i := 0) d_X6_begin_104 rfl rfl ?_
  refine Tr.getf (pc := 105) d_X6_begin_105 f_6_38 (by decide) (by decide) (ty_74 hS.1.1) ?_
  refine Tr.tp 82 (fx_74_0 hS.1.1) ?_
  refine Tr.aload_n (pc := 108) (i := 1) d_X6_begin_108 rfl rfl ?_
  refine Tr.callV (pc := 109) (as := [_]) d_X6_begin_109 s_6_113 ok_X1_begin rfl rfl (Nat.le_of_ble_eq_true rfl) (Nat.le_of_ble_eq_true rfl) (by decide) (ty_82 hS.1.1) ?_
  refine Tr.imp (Tr.deep (by decide) (sp_X1_begin_82_7 hS.1 )) ?_
  rintro M109 _ ⟨h109, o109_82_1, rfl⟩
  have hS := St.tr hS h109 (by decide) (by decide)
  refine Tr.sc [] rfl ?_
  exact Tr.vret (pc := 112) d_X6_begin_112 rfl ⟨hS, ((St.kp h109 (by decide) (by decide) (by decide)).trans ((Wr.b w101 rfl).trans ((Wr.b w96 rfl).trans ((Wr.b w83 rfl).trans ((Wr.b w78 rfl).trans ((Wr.b w73 rfl).trans ((Wr.b w68 rfl).trans ((Wr.b w63 rfl).trans ((Wr.b w58 rfl).trans ((Wa.b w53 rfl).trans ((Wa.b w45 rfl).trans ((Wa.b w37 rfl).trans ((Wa.b w29 rfl).trans ((Wa.b w21 rfl).trans ((Wa.b w13 rfl).trans w2.1))))))))))))))), o109_82_1, rfl⟩

def ws_X1_makeRoom_82 : List (Int × Int) := []
def as_X1_makeRoom_82 : List Int := []
def q_X1_makeRoom_82 (M0 M' : Mem) (r : Option PV) : Prop := St Tru ws_X1_makeRoom_82 as_X1_makeRoom_82 M0 M' ∧ r = none
set_option maxRecDepth 100000 in
set_option maxHeartbeats 4000000 in
theorem sp_X1_makeRoom_82 {l : Launch} {K : EC} {M0 : Mem} (hI : In Tru M0)    : Tr l K 0 mX1_makeRoom 0 [(0, (2, 82))] [] M0 (q_X1_makeRoom_82 M0) := by
  have hS : St Tru ws_X1_makeRoom_82 as_X1_makeRoom_82 M0 M0 := St.rf hI
  refine Tr.aload_n (pc := 0) (i := 0) d_X1_makeRoom_0 rfl rfl ?_
  refine Tr.getz (pc := 1) d_X1_makeRoom_1 f_1_37 (by decide) (ty_82 hS.1.1) ?_
  refine Tr.tp 0 (fx_82_0 hS.1.1) ?_
  refine Tr.if_eq (pc := 4) (tgt := 14) d_X1_makeRoom_4 rfl (fun _ => ?_) (fun hc => absurd (by omega) hc)
  exact Tr.vret (pc := 14) d_X1_makeRoom_14 rfl ⟨hS, rfl⟩

def ws_X6_sipsAt_74 : List (Int × Int) := []
def as_X6_sipsAt_74 : List Int := []
def q_X6_sipsAt_74 (M0 M' : Mem) (r : Option PV) : Prop := St Tru ws_X6_sipsAt_74 as_X6_sipsAt_74 M0 M' ∧ ∃ v : Int, r = some (0, v) ∧ (-2147483648) ≤ v ∧ v ≤ 2147483647
set_option maxRecDepth 100000 in
set_option maxHeartbeats 4000000 in
theorem sp_X6_sipsAt_74 {l : Launch} {K : EC} {M0 : Mem} (hI : In Tru M0) (en_74_1 : rd M0 74 1 = 7) (a1 : Int) (ha1 : (-2147483648) ≤ a1 ∧ a1 ≤ 2147483647) (a2 : Int) (ha2 : (-1) ≤ a2 ∧ a2 ≤ (-1)) (a3 : Int) (ha3 : 0 ≤ a3 ∧ a3 ≤ 0)  : Tr l K 0 mX6_sipsAt 0 [(0, (2, 74)), (1, (0, a1)), (2, (0, a2)), (3, (0, a3))] [] M0 (q_X6_sipsAt_74 M0) := by
  have hS : St Tru ws_X6_sipsAt_74 as_X6_sipsAt_74 M0 M0 := St.rf hI
  refine Tr.aload_n (pc := 0) (i := 0) d_X6_sipsAt_0 rfl rfl ?_
  refine Tr.getf (pc := 1) d_X6_sipsAt_1 f_6_46 (by decide) (by decide) (ty_74 hS.1.1) ?_
  refine Tr.tp 7 ((St.kp hS (by decide) (by decide) (by decide)).trans en_74_1) ?_
  refine Tr.getf (pc := 4) d_X6_sipsAt_4 f_6_135 (by decide) (by decide) (ty_7 hS.1.1) ?_
  refine Tr.gen (P := fun v => (-1) ≤ v ∧ v ≤ 999) (ir_7_0 hS.1.2.1) (fun r4 er4 br4 => ?_)
  refine Tr.istore (pc := 7) (i := 4) (ls2 := [(4, (0, r4)), (0, (2, 74)), (1, (0, a1)), (2, (0, a2)), (3, (0, a3))]) d_X6_sipsAt_7 (by decide) rfl ?_
  refine Tr.iconst (pc := 9) d_X6_sipsAt_9 (by decide) ?_
  refine Tr.istore (pc := 10) (i := 5) (ls2 := [(5, (0, 0)), (4, (0, r4)), (0, (2, 74)), (1, (0, a1)), (2, (0, a2)), (3, (0, a3))]) d_X6_sipsAt_10 (by decide) rfl ?_
  have J12 : ∀ (n12 : Nat) (M : Mem) (p12_4 p12_5 : Int), St Tru ws_X6_sipsAt_74 as_X6_sipsAt_74 M0 M → ((-2147483648) ≤ p12_4 ∧ p12_4 ≤ 2147483647) → (0 ≤ p12_5 ∧ p12_5 ≤ 6) → rd M 7 0 = r4 → (6 - p12_5).toNat < n12 → Tr l K 0 mX6_sipsAt 12 [(0, (2, 74)), (1, (0, a1)), (2, (0, a2)), (3, (0, a3)), (4, (0, p12_4)), (5, (0, p12_5))] [] M (q_X6_sipsAt_74 M0) := by
    intro n12
    induction n12 with
    | zero => intro M p12_4 p12_5 hS bp12_4 bp12_5 k12_7_0 hm12; exact absurd hm12 (Nat.not_lt_zero _)
    | succ n12 J12 =>
      intro M p12_4 p12_5 hS bp12_4 bp12_5 k12_7_0 hm12
      refine Tr.iload (pc := 12) (i := 5) d_X6_sipsAt_12 rfl ?_
      refine Tr.aload_n (pc := 14) (i := 0) d_X6_sipsAt_14 rfl rfl ?_
      refine Tr.getf (pc := 15) d_X6_sipsAt_15 f_6_46 (by decide) (by decide) (ty_74 hS.1.1) ?_
      refine Tr.tp 7 ((St.kp hS (by decide) (by decide) (by decide)).trans en_74_1) ?_
      refine Tr.getf (pc := 18) d_X6_sipsAt_18 f_6_116 (by decide) (by decide) (ty_7 hS.1.1) ?_
      refine Tr.tp 8 (fx_7_4 hS.1.1) ?_
      refine Tr.iconst (pc := 21) d_X6_sipsAt_21 (by decide) ?_
      refine Tr.iald (pc := 22) d_X6_sipsAt_22 (ty_8 hS.1.1) (by omega) (by omega) ?_
      refine Tr.gen (P := fun v => 0 ≤ v ∧ v ≤ 6) (ir_8_0 hS.1.2.1) (fun r22 er22 br22 => ?_)
      refine Tr.icmp_ge (pc := 23) (tgt := 91) d_X6_sipsAt_23 rfl (fun c23 => ?_) (fun c23 => ?_)
      · refine Tr.iload (pc := 91) (i := 4) d_X6_sipsAt_91 rfl ?_
        exact Tr.iret (pc := 93) d_X6_sipsAt_93 rfl ⟨hS, _, rfl, by omega, by omega⟩
      · refine Tr.aload_n (pc := 26) (i := 0) d_X6_sipsAt_26 rfl rfl ?_
        refine Tr.getf (pc := 27) d_X6_sipsAt_27 f_6_24 (by decide) (by decide) (ty_74 hS.1.1) ?_
        refine Tr.tp 79 (fx_74_6 hS.1.1) ?_
        refine Tr.iload (pc := 30) (i := 5) d_X6_sipsAt_30 rfl ?_
        refine Tr.iald (pc := 32) d_X6_sipsAt_32 (ty_79 hS.1.1) (by omega) (by omega) ?_
        refine Tr.gen (P := fun v => 0 ≤ v ∧ v ≤ 1) (ar_79 hS.1.2.1 _) (fun r32 er32 br32 => ?_)
        refine Tr.iconst (pc := 33) d_X6_sipsAt_33 (by decide) ?_
        have J53 : ∀ (M : Mem) (q53_0 : Int), St Tru ws_X6_sipsAt_74 as_X6_sipsAt_74 M0 M → (0 ≤ q53_0 ∧ q53_0 ≤ 2) → rd M 7 0 = r4 → rd M 79 p12_5 = r32 → rd M 8 0 = r22 → Tr l K 0 mX6_sipsAt 53 [(0, (2, 74)), (1, (0, a1)), (2, (0, a2)), (3, (0, a3)), (4, (0, p12_4)), (5, (0, p12_5))] [(0, q53_0)] M (q_X6_sipsAt_74 M0) := by
          intro M q53_0 hS bq53_0 k53_7_0 k53_79_p12_510 k53_8_0
          refine Tr.istore (pc := 53) (i := 6) (ls2 := [(6, (0, q53_0)), (0, (2, 74)), (1, (0, a1)), (2, (0, a2)), (3, (0, a3)), (4, (0, p12_4)), (5, (0, p12_5))]) d_X6_sipsAt_53 (by decide) rfl ?_
          refine Tr.iload (pc := 55) (i := 4) d_X6_sipsAt_55 rfl ?_
          refine Tr.aload_n (pc := 57) (i := 0) d_X6_sipsAt_57 rfl rfl ?_
          refine Tr.getf (pc := 58) d_X6_sipsAt_58 f_6_46 (by decide) (by decide) (ty_74 hS.1.1) ?_
          refine Tr.tp 7 ((St.kp hS (by decide) (by decide) (by decide)).trans en_74_1) ?_
          refine Tr.getf (pc := 61) d_X6_sipsAt_61 f_6_189 (by decide) (by decide) (ty_7 hS.1.1) ?_
          refine Tr.tp 9 (fx_7_5 hS.1.1) ?_
          refine Tr.iload (pc := 64) (i := 5) d_X6_sipsAt_64 rfl ?_
          refine Tr.iconst (pc := 66) d_X6_sipsAt_66 (by decide) ?_
          refine Tr.imul (pc := 67) d_X6_sipsAt_67 ?_
          refine Tr.tp (4 * p12_5) ((w32_id (by omega)).trans (by omega)) ?_
          refine Tr.iload (pc := 68) (i := 5) d_X6_sipsAt_68 rfl ?_
          refine Tr.iload_n (pc := 70) (i := 2) d_X6_sipsAt_70 rfl rfl ?_
          refine Tr.tp (-1) (by omega) ?_
          refine Tr.icmp_ne (pc := 71) (tgt := 78) d_X6_sipsAt_71 rfl (fun _ => ?_) (fun hc => absurd hc (by omega))
          refine Tr.iload (pc := 78) (i := 6) d_X6_sipsAt_78 rfl ?_
          refine Tr.iadd (pc := 80) d_X6_sipsAt_80 ?_
          refine Tr.tp (4 * p12_5 + q53_0) ((w32_id (by omega)).trans (by omega)) ?_
          refine Tr.iald (pc := 81) d_X6_sipsAt_81 (ty_9 hS.1.1) (by omega) (by omega) ?_
          refine Tr.gen (P := fun v => (-1) ≤ v ∧ v ≤ 999) (ar_9 hS.1.2.1 _) (fun r81 er81 br81 => ?_)
          refine Tr.iadd (pc := 82) d_X6_sipsAt_82 ?_
          refine Tr.gen (P := fun v => (-2147483648) ≤ v ∧ v ≤ 2147483647) (w32_b _) (fun r82 er82 br82 => ?_)
          refine Tr.istore (pc := 83) (i := 4) (ls2 := [(4, (0, r82)), (6, (0, q53_0)), (0, (2, 74)), (1, (0, a1)), (2, (0, a2)), (3, (0, a3)), (5, (0, p12_5))]) d_X6_sipsAt_83 (by decide) rfl ?_
          refine Tr.iincV (pc := 85) (n2 := (p12_5 + 1)) (ls2 := [(5, (0, (p12_5 + 1))), (4, (0, r82)), (6, (0, q53_0)), (0, (2, 74)), (1, (0, a1)), (2, (0, a2)), (3, (0, a3))]) d_X6_sipsAt_85 rfl (by decide) ((w32_id (by omega)).trans (by omega)) rfl ?_
          refine Tr.goto (pc := 88) (tgt := 12) d_X6_sipsAt_88 rfl ?_
          refine Tr.pick [3, 4, 5, 6, 1, 0] (ls2 := [(0, (2, 74)), (1, (0, a1)), (2, (0, a2)), (3, (0, a3)), (4, (0, r82)), (5, (0, (p12_5 + 1)))]) rfl ?_
          exact J12 _ _ _ hS (by omega) (by omega) k53_7_0 (by omega)
        have J48 : ∀ (M : Mem), St Tru ws_X6_sipsAt_74 as_X6_sipsAt_74 M0 M → rd M 7 0 = r4 → rd M 79 p12_5 = r32 → rd M 8 0 = r22 → Tr l K 0 mX6_sipsAt 48 [(0, (2, 74)), (1, (0, a1)), (2, (0, a2)), (3, (0, a3)), (4, (0, p12_4)), (5, (0, p12_5))] [] M (q_X6_sipsAt_74 M0) := by
          intro M  hS  k48_7_0 k48_79_p12_510 k48_8_0
          refine Tr.iconst (pc := 48) d_X6_sipsAt_48 (by decide) ?_
          refine Tr.goto (pc := 49) (tgt := 53) d_X6_sipsAt_49 rfl ?_
          refine Tr.pick [0, 1, 2, 3, 4, 5] (ls2 := [(0, (2, 74)), (1, (0, a1)), (2, (0, a2)), (3, (0, a3)), (4, (0, p12_4)), (5, (0, p12_5))]) rfl ?_
          exact J53 _ _ hS (by omega) k48_7_0 k48_79_p12_510 k48_8_0
        refine Tr.icmp_eq (pc := 34) (tgt := 48) d_X6_sipsAt_34 rfl (fun c34 => ?_) (fun c34 => ?_)
        · refine Tr.pick [0, 1, 2, 3, 4, 5] (ls2 := [(0, (2, 74)), (1, (0, a1)), (2, (0, a2)), (3, (0, a3)), (4, (0, p12_4)), (5, (0, p12_5))]) rfl ?_
          exact J48 _ hS k12_7_0 er32 er22
        · refine Tr.iload_n (pc := 37) (i := 1) d_X6_sipsAt_37 rfl rfl ?_
          refine Tr.aload_n (pc := 38) (i := 0) d_X6_sipsAt_38 rfl rfl ?_
          refine Tr.getf (pc := 39) d_X6_sipsAt_39 f_6_27 (by decide) (by decide) (ty_74 hS.1.1) ?_
          refine Tr.tp 80 (fx_74_7 hS.1.1) ?_
          refine Tr.iload (pc := 42) (i := 5) d_X6_sipsAt_42 rfl ?_
          refine Tr.iald (pc := 44) d_X6_sipsAt_44 (ty_80 hS.1.1) (by omega) (by omega) ?_
          refine Tr.gen (P := fun v => (-2147483648) ≤ v ∧ v ≤ 2147483647) (ar_80 hS.1.2.1 _) (fun r44 er44 br44 => ?_)
          refine Tr.icmp_ge (pc := 45) (tgt := 52) d_X6_sipsAt_45 rfl (fun c45 => ?_) (fun c45 => ?_)
          · refine Tr.iconst (pc := 52) d_X6_sipsAt_52 (by decide) ?_
            refine Tr.pick [0, 1, 2, 3, 4, 5] (ls2 := [(0, (2, 74)), (1, (0, a1)), (2, (0, a2)), (3, (0, a3)), (4, (0, p12_4)), (5, (0, p12_5))]) rfl ?_
            exact J53 _ _ hS (by omega) k12_7_0 er32 er22
          · refine Tr.pick [0, 1, 2, 3, 4, 5] (ls2 := [(0, (2, 74)), (1, (0, a1)), (2, (0, a2)), (3, (0, a3)), (4, (0, p12_4)), (5, (0, p12_5))]) rfl ?_
            exact J48 _ hS k12_7_0 er32 er22
  refine Tr.pick [2, 3, 4, 5, 1, 0] (ls2 := [(0, (2, 74)), (1, (0, a1)), (2, (0, a2)), (3, (0, a3)), (4, (0, r4)), (5, (0, 0))]) rfl ?_
  exact J12 _ _ _ _ hS (by omega) (by omega) er4 (Nat.lt_succ_self _)

def ws_X6_afforded_74 : List (Int × Int) := [(74, 17)]
def as_X6_afforded_74 : List Int := []
def q_X6_afforded_74 (M0 M' : Mem) (r : Option PV) : Prop := St Tru ws_X6_afforded_74 as_X6_afforded_74 M0 M' ∧ ∃ v : Int, r = some (0, v) ∧ (-2147483648) ≤ v ∧ v ≤ 1
set_option maxRecDepth 100000 in
set_option maxHeartbeats 4000000 in
theorem sp_X6_afforded_74 {l : Launch} {K : EC} {M0 : Mem} (hI : In Tru M0) (en_74_1 : rd M0 74 1 = 7) (a1 : Int) (ha1 : (-2147483648) ≤ a1 ∧ a1 ≤ 1) (a2 : Int) (ha2 : (-1) ≤ a2 ∧ a2 ≤ (-1)) (a3 : Int) (ha3 : 0 ≤ a3 ∧ a3 ≤ 0)  : Tr l K 1 mX6_afforded 0 [(0, (2, 74)), (1, (0, a1)), (2, (0, a2)), (3, (0, a3))] [] M0 (q_X6_afforded_74 M0) := by
  have hS : St Tru ws_X6_afforded_74 as_X6_afforded_74 M0 M0 := St.rf hI
  refine Tr.iconst (pc := 0) d_X6_afforded_0 (by decide) ?_
  refine Tr.istore (pc := 1) (i := 4) (ls2 := [(4, (0, 0)), (0, (2, 74)), (1, (0, a1)), (2, (0, a2)), (3, (0, a3))]) d_X6_afforded_1 (by decide) rfl ?_
  have J3 : ∀ (n3 : Nat) (M : Mem) (p3_4 : Int), St Tru ws_X6_afforded_74 as_X6_afforded_74 M0 M → (0 ≤ p3_4 ∧ p3_4 ≤ 1) → (1 - p3_4).toNat < n3 → Tr l K 1 mX6_afforded 3 [(0, (2, 74)), (1, (0, a1)), (2, (0, a2)), (3, (0, a3)), (4, (0, p3_4))] [] M (q_X6_afforded_74 M0) := by
    intro n3
    induction n3 with
    | zero => intro M p3_4 hS bp3_4  hm3; exact absurd hm3 (Nat.not_lt_zero _)
    | succ n3 J3 =>
      intro M p3_4 hS bp3_4  hm3
      refine Tr.iload (pc := 3) (i := 4) d_X6_afforded_3 rfl ?_
      refine Tr.iload_n (pc := 5) (i := 1) d_X6_afforded_5 rfl rfl ?_
      refine Tr.icmp_ge (pc := 6) (tgt := 53) d_X6_afforded_6 rfl (fun c6 => ?_) (fun c6 => ?_)
      · refine Tr.iload_n (pc := 53) (i := 1) d_X6_afforded_53 rfl rfl ?_
        exact Tr.iret (pc := 54) d_X6_afforded_54 rfl ⟨hS, _, rfl, by omega, by omega⟩
      · refine Tr.aload_n (pc := 9) (i := 0) d_X6_afforded_9 rfl rfl ?_
        refine Tr.aload_n (pc := 10) (i := 0) d_X6_afforded_10 rfl rfl ?_
        refine Tr.getf (pc := 11) d_X6_afforded_11 f_6_68 (by decide) (by decide) (ty_74 hS.1.1) ?_
        refine Tr.gen (P := fun v => (-2147483648) ≤ v ∧ v ≤ 2147483647) (ir_74_9 hS.1.2.1) (fun r11 er11 br11 => ?_)
        refine Tr.iload (pc := 14) (i := 4) d_X6_afforded_14 rfl ?_
        refine Tr.iadd (pc := 16) d_X6_afforded_16 ?_
        refine Tr.tp (p3_4 + r11) ((w32_id (by omega)).trans (by omega)) ?_
        refine Tr.iload_n (pc := 17) (i := 2) d_X6_afforded_17 rfl rfl ?_
        refine Tr.tp (-1) (by omega) ?_
        refine Tr.iload_n (pc := 18) (i := 3) d_X6_afforded_18 rfl rfl ?_
        refine Tr.tp 0 (by omega) ?_
        refine Tr.callV (pc := 19) (as := [_, _, _]) d_X6_afforded_19 s_6_186 ok_X6_sipsAt rfl rfl (Nat.le_of_ble_eq_true rfl) (Nat.le_of_ble_eq_true rfl) (by decide) (ty_74 hS.1.1) ?_
        refine Tr.imp (Tr.deep (by decide) (sp_X6_sipsAt_74 hS.1 ((St.kp hS (by decide) (by decide) (by decide)).trans en_74_1) (p3_4 + r11) (by omega) (-1) (by omega) 0 (by omega))) ?_
        rintro M19 _ ⟨h19, r19, rfl, lr19, ur19⟩
        have hS := St.tr hS h19 (by decide) (by decide)
        refine Tr.sc [(0, r19)] rfl ?_
        refine Tr.istore (pc := 22) (i := 5) (ls2 := [(5, (0, r19)), (0, (2, 74)), (1, (0, a1)), (2, (0, a2)), (3, (0, a3)), (4, (0, p3_4))]) d_X6_afforded_22 (by decide) rfl ?_
        refine Tr.iload (pc := 24) (i := 5) d_X6_afforded_24 rfl ?_
        refine Tr.aload_n (pc := 26) (i := 0) d_X6_afforded_26 rfl rfl ?_
        refine Tr.getf (pc := 27) d_X6_afforded_27 f_6_110 (by decide) (by decide) (ty_74 hS.1.1) ?_
        refine Tr.gen (P := fun v => (-2147483648) ≤ v ∧ v ≤ 2147483647) (ir_74_17 hS.1.2.1) (fun r27 er27 br27 => ?_)
        refine Tr.icmp_le (pc := 30) (tgt := 36) d_X6_afforded_30 rfl (fun c30 => ?_) (fun c30 => ?_)
        · refine Tr.aload_n (pc := 36) (i := 0) d_X6_afforded_36 rfl rfl ?_
          refine Tr.dup (pc := 37) d_X6_afforded_37 ne21 ?_
          refine Tr.getf (pc := 38) d_X6_afforded_38 f_6_110 (by decide) (by decide) (ty_74 hS.1.1) ?_
          refine Tr.tp r27 er27 ?_
          refine Tr.iload (pc := 41) (i := 5) d_X6_afforded_41 rfl ?_
          refine Tr.isub (pc := 43) d_X6_afforded_43 ?_
          refine Tr.gen (P := fun v => (-2147483648) ≤ v ∧ v ≤ 2147483647) (w32_b _) (fun r43 er43 br43 => ?_)
          refine Tr.putfS (pc := 44) (P := St Tru ws_X6_afforded_74 as_X6_afforded_74 M0) d_X6_afforded_44 f_6_110 (by decide) (by decide) (ty_74 hS.1.1) (st_74_17 hS (by decide) (by omega) trivial) (fun M44 hS w44 => ?_)
          refine Tr.iincV (pc := 47) (n2 := (p3_4 + 1)) (ls2 := [(4, (0, (p3_4 + 1))), (5, (0, r19)), (0, (2, 74)), (1, (0, a1)), (2, (0, a2)), (3, (0, a3))]) d_X6_afforded_47 rfl (by decide) ((w32_id (by omega)).trans (by omega)) rfl ?_
          refine Tr.goto (pc := 50) (tgt := 3) d_X6_afforded_50 rfl ?_
          refine Tr.pick [2, 3, 4, 5, 0] (ls2 := [(0, (2, 74)), (1, (0, a1)), (2, (0, a2)), (3, (0, a3)), (4, (0, (p3_4 + 1)))]) rfl ?_
          exact J3 _ _ hS (by omega) (by omega)
        · refine Tr.iload (pc := 33) (i := 4) d_X6_afforded_33 rfl ?_
          exact Tr.iret (pc := 35) d_X6_afforded_35 rfl ⟨hS, _, rfl, by omega, by omega⟩
  refine Tr.pick [1, 2, 3, 4, 0] (ls2 := [(0, (2, 74)), (1, (0, a1)), (2, (0, a2)), (3, (0, a3)), (4, (0, 0))]) rfl ?_
  exact J3 _ _ _ hS (by omega) (Nat.lt_succ_self _)

def ws_X6_pass_74 : List (Int × Int) := [(74, 9), (74, 14), (74, 17)]
def as_X6_pass_74 : List Int := []
def q_X6_pass_74 (M0 M' : Mem) (r : Option PV) : Prop := St Tru ws_X6_pass_74 as_X6_pass_74 M0 M' ∧ ∃ v : Int, r = some (0, v) ∧ (-2147483648) ≤ v ∧ v ≤ 1
set_option maxRecDepth 100000 in
set_option maxHeartbeats 4000000 in
theorem sp_X6_pass_74 {l : Launch} {K : EC} {M0 : Mem} (hI : In Tru M0) (en_74_1 : rd M0 74 1 = 7) (a1 : Int) (ha1 : 1 ≤ a1 ∧ a1 ≤ 1) (a2 : Int) (ha2 : (-1) ≤ a2 ∧ a2 ≤ (-1)) (a3 : Int) (ha3 : 0 ≤ a3 ∧ a3 ≤ 0)  : Tr l K 2 mX6_pass 0 [(0, (2, 74)), (1, (0, a1)), (2, (0, a2)), (3, (0, a3))] [] M0 (q_X6_pass_74 M0) := by
  have hS : St Tru ws_X6_pass_74 as_X6_pass_74 M0 M0 := St.rf hI
  refine Tr.iload_n (pc := 0) (i := 1) d_X6_pass_0 rfl rfl ?_
  refine Tr.tp 1 (by omega) ?_
  refine Tr.sipush (pc := 1) d_X6_pass_1 rfl (by decide) ?_
  refine Tr.aload_n (pc := 4) (i := 0) d_X6_pass_4 rfl rfl ?_
  refine Tr.getf (pc := 5) d_X6_pass_5 f_6_68 (by decide) (by decide) (ty_74 hS.1.1) ?_
  refine Tr.gen (P := fun v => (-2147483648) ≤ v ∧ v ≤ 2147483647) (ir_74_9 hS.1.2.1) (fun r5 er5 br5 => ?_)
  refine Tr.isub (pc := 8) d_X6_pass_8 ?_
  refine Tr.gen (P := fun v => (-2147483648) ≤ v ∧ v ≤ 2147483647) (w32_b _) (fun r8 er8 br8 => ?_)
  refine Tr.mmin (pc := 9) d_X6_pass_9 ml_6_158 mw_mmin (Nat.le_of_ble_eq_true rfl) ?_
  refine Tr.gen (P := fun v => (v = 1 ∧ 1 ≤ r8) ∨ (v = r8 ∧ r8 ≤ 1)) (f_min_p _ _) (fun r9 er9 br9 => ?_)
  refine Tr.istore (pc := 12) (i := 4) (ls2 := [(4, (0, r9)), (0, (2, 74)), (1, (0, a1)), (2, (0, a2)), (3, (0, a3))]) d_X6_pass_12 (by decide) rfl ?_
  refine Tr.aload_n (pc := 14) (i := 0) d_X6_pass_14 rfl rfl ?_
  refine Tr.getz (pc := 15) d_X6_pass_15 f_6_106 (by decide) (ty_74 hS.1.1) ?_
  refine Tr.gen (P := fun v => 0 ≤ v ∧ v ≤ 1) (ir_74_16 hS.1.2.1) (fun r15 er15 br15 => ?_)
  have J34 : ∀ (M : Mem) (q34_0 : Int), St Tru ws_X6_pass_74 as_X6_pass_74 M0 M → ((-2147483648) ≤ q34_0 ∧ q34_0 ≤ 1) → rd M 74 16 = r15 → rd M 74 9 = r5 → Tr l K 2 mX6_pass 34 [(0, (2, 74)), (1, (0, a1)), (4, (0, r9))] [(0, q34_0)] M (q_X6_pass_74 M0) := by
    intro M q34_0 hS bq34_0 k34_74_16 k34_74_9
    refine Tr.istore (pc := 34) (i := 5) (ls2 := [(5, (0, q34_0)), (0, (2, 74)), (1, (0, a1)), (4, (0, r9))]) d_X6_pass_34 (by decide) rfl ?_
    refine Tr.aload_n (pc := 36) (i := 0) d_X6_pass_36 rfl rfl ?_
    refine Tr.dup (pc := 37) d_X6_pass_37 ne21 ?_
    refine Tr.getf (pc := 38) d_X6_pass_38 f_6_68 (by decide) (by decide) (ty_74 hS.1.1) ?_
    refine Tr.tp r5 k34_74_9 ?_
    refine Tr.iload (pc := 41) (i := 5) d_X6_pass_41 rfl ?_
    refine Tr.iadd (pc := 43) d_X6_pass_43 ?_
    refine Tr.gen (P := fun v => (-2147483648) ≤ v ∧ v ≤ 2147483647) (w32_b _) (fun r43 er43 br43 => ?_)
    refine Tr.putfS (pc := 44) (P := St Tru ws_X6_pass_74 as_X6_pass_74 M0) d_X6_pass_44 f_6_68 (by decide) (by decide) (ty_74 hS.1.1) (st_74_9 hS (by decide) (by omega) trivial) (fun M44 hS w44 => ?_)
    refine Tr.iload (pc := 47) (i := 5) d_X6_pass_47 rfl ?_
    refine Tr.iload_n (pc := 49) (i := 1) d_X6_pass_49 rfl rfl ?_
    refine Tr.tp 1 (by omega) ?_
    refine Tr.icmp_ge (pc := 50) (tgt := 69) d_X6_pass_50 rfl (fun c50 => ?_) (fun c50 => ?_)
    · refine Tr.iload (pc := 69) (i := 5) d_X6_pass_69 rfl ?_
      refine Tr.tp 1 (by omega) ?_
      exact Tr.iret (pc := 71) d_X6_pass_71 rfl ⟨hS, _, rfl, by omega, by omega⟩
    · refine Tr.aload_n (pc := 53) (i := 0) d_X6_pass_53 rfl rfl ?_
      refine Tr.iload (pc := 54) (i := 5) d_X6_pass_54 rfl ?_
      refine Tr.iload (pc := 56) (i := 4) d_X6_pass_56 rfl ?_
      refine Tr.icmp_ne (pc := 58) (tgt := 65) d_X6_pass_58 rfl (fun c58 => ?_) (fun c58 => ?_)
      · refine Tr.iconst (pc := 65) d_X6_pass_65 (by decide) ?_
        refine Tr.putfS (pc := 66) (P := St Tru ws_X6_pass_74 as_X6_pass_74 M0) d_X6_pass_66 f_6_62 (by decide) (by decide) (ty_74 hS.1.1) (st_74_14 hS (by decide) (by omega) trivial) (fun M66 hS w66 => ?_)
        refine Tr.iload (pc := 69) (i := 5) d_X6_pass_69 rfl ?_
        exact Tr.iret (pc := 71) d_X6_pass_71 rfl ⟨hS, _, rfl, by omega, by omega⟩
      · refine Tr.iconst (pc := 61) d_X6_pass_61 (by decide) ?_
        refine Tr.goto (pc := 62) (tgt := 66) d_X6_pass_62 rfl ?_
        refine Tr.putfS (pc := 66) (P := St Tru ws_X6_pass_74 as_X6_pass_74 M0) d_X6_pass_66 f_6_62 (by decide) (by decide) (ty_74 hS.1.1) (st_74_14 hS (by decide) (by omega) trivial) (fun M66 hS w66 => ?_)
        refine Tr.iload (pc := 69) (i := 5) d_X6_pass_69 rfl ?_
        exact Tr.iret (pc := 71) d_X6_pass_71 rfl ⟨hS, _, rfl, by omega, by omega⟩
  refine Tr.if_eq (pc := 18) (tgt := 32) d_X6_pass_18 rfl (fun c18 => ?_) (fun c18 => ?_)
  · refine Tr.iload (pc := 32) (i := 4) d_X6_pass_32 rfl ?_
    refine Tr.pick [1, 2, 0] (ls2 := [(0, (2, 74)), (1, (0, a1)), (4, (0, r9))]) rfl ?_
    exact J34 _ _ hS (by omega) er15 er5
  · refine Tr.aload_n (pc := 21) (i := 0) d_X6_pass_21 rfl rfl ?_
    refine Tr.iload (pc := 22) (i := 4) d_X6_pass_22 rfl ?_
    refine Tr.iload_n (pc := 24) (i := 2) d_X6_pass_24 rfl rfl ?_
    refine Tr.tp (-1) (by omega) ?_
    refine Tr.iload_n (pc := 25) (i := 3) d_X6_pass_25 rfl rfl ?_
    refine Tr.tp 0 (by omega) ?_
    refine Tr.callV (pc := 26) (as := [_, _, _]) d_X6_pass_26 s_6_183 ok_X6_afforded rfl rfl (Nat.le_of_ble_eq_true rfl) (Nat.le_of_ble_eq_true rfl) (by decide) (ty_74 hS.1.1) ?_
    refine Tr.imp (Tr.deep (by decide) (sp_X6_afforded_74 hS.1 ((St.kp hS (by decide) (by decide) (by decide)).trans en_74_1) r9 (by omega) (-1) (by omega) 0 (by omega))) ?_
    rintro M26 _ ⟨h26, r26, rfl, lr26, ur26⟩
    have hS := St.tr hS h26 (by decide) (by decide)
    refine Tr.sc [(0, r26)] rfl ?_
    refine Tr.goto (pc := 29) (tgt := 34) d_X6_pass_29 rfl ?_
    refine Tr.pick [1, 2, 0] (ls2 := [(0, (2, 74)), (1, (0, a1)), (4, (0, r9))]) rfl ?_
    exact J34 _ _ hS (by omega) ((St.kp h26 (by decide) (by decide) (by decide)).trans er15) ((St.kp h26 (by decide) (by decide) (by decide)).trans er5)

def ws_X6_single_74 : List (Int × Int) := []
def as_X6_single_74 : List Int := []
def q_X6_single_74 (M0 M' : Mem) (r : Option PV) : Prop := St Tru ws_X6_single_74 as_X6_single_74 M0 M' ∧ ∃ v : Int, r = some (0, v) ∧ (-2147483648) ≤ v ∧ v ≤ 2147483647
set_option maxRecDepth 100000 in
set_option maxHeartbeats 4000000 in
theorem sp_X6_single_74 {l : Launch} {K : EC} {M0 : Mem} (hI : In Tru M0)  (a1 : Int) (ha1 : (-2147483648) ≤ a1 ∧ a1 ≤ 5) (a2 : Int) (ha2 : (-2147483648) ≤ a2 ∧ a2 ≤ 2147483647) (hp0 : (a1 = 1 → 0 ≤ a2 ∧ a2 ≤ 2) ∧ (a1 = 2 ∨ a1 = 4 → 0 ≤ a2 ∧ a2 ≤ 5)) : Tr l K 0 mX6_single 0 [(0, (2, 74)), (1, (0, a1)), (2, (0, a2))] [] M0 (q_X6_single_74 M0) := by
  have hS : St Tru ws_X6_single_74 as_X6_single_74 M0 M0 := St.rf hI
  refine Tr.iload_n (pc := 0) (i := 1) d_X6_single_0 rfl rfl ?_
  rcases (show (a1 < 1 ∨ 4 < a1) ∨ a1 = 1 ∨ a1 = 2 ∨ a1 = 3 ∨ a1 = 4 by omega) with c1 | c1 | c1 | c1 | c1
  · refine Tr.tswOut (pc := 1) (tgt := 58) d_X6_single_1 c1 rfl ?_
    refine Tr.iload_n (pc := 58) (i := 2) d_X6_single_58 rfl rfl ?_
    exact Tr.iret (pc := 59) d_X6_single_59 rfl ⟨hS, _, rfl, by omega, by omega⟩
  · refine Tr.tp 1 c1 ?_
    refine Tr.tswIn (pc := 1) (off := 31) (tgt := 32) d_X6_single_1 (by decide) (by decide) rfl rfl ?_
    refine Tr.aload_n (pc := 32) (i := 0) d_X6_single_32 rfl rfl ?_
    refine Tr.getf (pc := 33) d_X6_single_33 f_6_9 (by decide) (by decide) (ty_74 hS.1.1) ?_
    refine Tr.tp 75 (fx_74_2 hS.1.1) ?_
    refine Tr.iload_n (pc := 36) (i := 2) d_X6_single_36 rfl rfl ?_
    refine Tr.iald (pc := 37) d_X6_single_37 (ty_75 hS.1.1) (by omega) (by omega) ?_
    refine Tr.gen (P := fun v => (-2147483648) ≤ v ∧ v ≤ 2147483647) (ar_75 hS.1.2.1 _) (fun r37 er37 br37 => ?_)
    exact Tr.iret (pc := 38) d_X6_single_38 rfl ⟨hS, _, rfl, by omega, by omega⟩
  · refine Tr.tp 2 c1 ?_
    refine Tr.tswIn (pc := 1) (off := 38) (tgt := 39) d_X6_single_1 (by decide) (by decide) rfl rfl ?_
    refine Tr.aload_n (pc := 39) (i := 0) d_X6_single_39 rfl rfl ?_
    refine Tr.getf (pc := 40) d_X6_single_40 f_6_15 (by decide) (by decide) (ty_74 hS.1.1) ?_
    refine Tr.tp 76 (fx_74_3 hS.1.1) ?_
    refine Tr.iload_n (pc := 43) (i := 2) d_X6_single_43 rfl rfl ?_
    refine Tr.iald (pc := 44) d_X6_single_44 (ty_76 hS.1.1) (by omega) (by omega) ?_
    refine Tr.gen (P := fun v => (-2147483648) ≤ v ∧ v ≤ 2147483647) (ar_76 hS.1.2.1 _) (fun r44 er44 br44 => ?_)
    exact Tr.iret (pc := 45) d_X6_single_45 rfl ⟨hS, _, rfl, by omega, by omega⟩
  · refine Tr.tp 3 c1 ?_
    refine Tr.tswIn (pc := 1) (off := 45) (tgt := 46) d_X6_single_1 (by decide) (by decide) rfl rfl ?_
    refine Tr.aload_n (pc := 46) (i := 0) d_X6_single_46 rfl rfl ?_
    refine Tr.getf (pc := 47) d_X6_single_47 f_6_68 (by decide) (by decide) (ty_74 hS.1.1) ?_
    refine Tr.gen (P := fun v => (-2147483648) ≤ v ∧ v ≤ 2147483647) (ir_74_9 hS.1.2.1) (fun r47 er47 br47 => ?_)
    exact Tr.iret (pc := 50) d_X6_single_50 rfl ⟨hS, _, rfl, by omega, by omega⟩
  · refine Tr.tp 4 c1 ?_
    refine Tr.tswIn (pc := 1) (off := 50) (tgt := 51) d_X6_single_1 (by decide) (by decide) rfl rfl ?_
    refine Tr.aload_n (pc := 51) (i := 0) d_X6_single_51 rfl rfl ?_
    refine Tr.getf (pc := 52) d_X6_single_52 f_6_24 (by decide) (by decide) (ty_74 hS.1.1) ?_
    refine Tr.tp 79 (fx_74_6 hS.1.1) ?_
    refine Tr.iload_n (pc := 55) (i := 2) d_X6_single_55 rfl rfl ?_
    refine Tr.iald (pc := 56) d_X6_single_56 (ty_79 hS.1.1) (by omega) (by omega) ?_
    refine Tr.gen (P := fun v => 0 ≤ v ∧ v ≤ 1) (ar_79 hS.1.2.1 _) (fun r56 er56 br56 => ?_)
    exact Tr.iret (pc := 57) d_X6_single_57 rfl ⟨hS, _, rfl, by omega, by omega⟩

def ws_J9_floorMod_7cf53 : List (Int × Int) := []
def as_J9_floorMod_7cf53 : List Int := []
def q_J9_floorMod_7cf53 (a0 : Int) (a1 : Int) (M0 M' : Mem) (r : Option PV) : Prop := St Tru ws_J9_floorMod_7cf53 as_J9_floorMod_7cf53 M0 M' ∧ ∃ v : Int, r = some (0, v) ∧ (-2147483648) ≤ v ∧ v ≤ 2147483647 ∧ (0 < a1 → 0 ≤ v ∧ v < a1)
set_option maxRecDepth 100000 in
set_option maxHeartbeats 4000000 in
theorem sp_J9_floorMod_7cf53 {l : Launch} {K : EC} {M0 : Mem} (hI : In Tru M0)  (a0 : Int) (ha0 : (-2147483648) ≤ a0 ∧ a0 ≤ 2147483647) (a1 : Int) (ha1 : (-2147483648) ≤ a1 ∧ a1 ≤ 2147483647) (hp0 : a1 ≠ 0) : Tr l K 0 mJ9_floorMod_7cf53 0 [(0, (0, a0)), (1, (0, a1))] [] M0 (q_J9_floorMod_7cf53 a0 a1 M0) := by
  have hS : St Tru ws_J9_floorMod_7cf53 as_J9_floorMod_7cf53 M0 M0 := St.rf hI
  refine Tr.iload_n (pc := 0) (i := 0) d_J9_floorMod_7cf53_0 rfl rfl ?_
  refine Tr.iload_n (pc := 1) (i := 1) d_J9_floorMod_7cf53_1 rfl rfl ?_
  refine Tr.irem (pc := 2) d_J9_floorMod_7cf53_2 (by omega) ?_
  refine Tr.gen (P := fun v => (-2147483648 ≤ v ∧ v ≤ 2147483647) ∧ (0 < a1 → -a1 < v ∧ v < a1) ∧ (0 ≤ a0 → 0 ≤ v) ∧ (a0 ≤ 0 → v ≤ 0)) (rem32_s _ _ (by omega)) (fun r2 er2 br2 => ?_)
  refine Tr.istore_n (pc := 3) (i := 2) (ls2 := [(2, (0, r2)), (0, (0, a0)), (1, (0, a1))]) d_J9_floorMod_7cf53_3 rfl (by decide) rfl ?_
  refine Tr.iload_n (pc := 4) (i := 0) d_J9_floorMod_7cf53_4 rfl rfl ?_
  refine Tr.iload_n (pc := 5) (i := 1) d_J9_floorMod_7cf53_5 rfl rfl ?_
  refine Tr.ixor (pc := 6) d_J9_floorMod_7cf53_6 ?_
  refine Tr.gen (P := fun v => ((v < 0 ↔ ¬ (a0 < 0 ↔ a1 < 0)) ∧ (-2147483648 ≤ v ∧ v ≤ 2147483647))) (f_ixor_s (by omega) (by omega)) (fun r6 er6 br6 => ?_)
  refine Tr.if_ge (pc := 7) (tgt := 18) d_J9_floorMod_7cf53_7 rfl (fun c7 => ?_) (fun c7 => ?_)
  · refine Tr.iload_n (pc := 18) (i := 2) d_J9_floorMod_7cf53_18 rfl rfl ?_
    exact Tr.iret (pc := 19) d_J9_floorMod_7cf53_19 rfl ⟨hS, _, rfl, by omega, by omega, by omega⟩
  · refine Tr.iload_n (pc := 10) (i := 2) d_J9_floorMod_7cf53_10 rfl rfl ?_
    refine Tr.if_eq (pc := 11) (tgt := 18) d_J9_floorMod_7cf53_11 rfl (fun c11 => ?_) (fun c11 => ?_)
    · refine Tr.iload_n (pc := 18) (i := 2) d_J9_floorMod_7cf53_18 rfl rfl ?_
      refine Tr.tp 0 (by omega) ?_
      exact Tr.iret (pc := 19) d_J9_floorMod_7cf53_19 rfl ⟨hS, _, rfl, by omega, by omega, by omega⟩
    · refine Tr.iload_n (pc := 14) (i := 2) d_J9_floorMod_7cf53_14 rfl rfl ?_
      refine Tr.iload_n (pc := 15) (i := 1) d_J9_floorMod_7cf53_15 rfl rfl ?_
      refine Tr.iadd (pc := 16) d_J9_floorMod_7cf53_16 ?_
      refine Tr.gen (P := fun v => (-2147483648 ≤ v ∧ v ≤ 2147483647) ∧ (-2147483648 ≤ (a1 + r2) → (a1 + r2) ≤ 2147483647 → v = (a1 + r2))) ⟨w32_b _, fun _ _ => (w32_id (by omega)).trans (by omega)⟩ (fun r16 er16 br16 => ?_)
      exact Tr.iret (pc := 17) d_J9_floorMod_7cf53_17 rfl ⟨hS, _, rfl, by omega, by omega, by omega⟩

def ws_J9_floorDiv_7cf53 : List (Int × Int) := []
def as_J9_floorDiv_7cf53 : List Int := []
def q_J9_floorDiv_7cf53 (M0 M' : Mem) (r : Option PV) : Prop := St Tru ws_J9_floorDiv_7cf53 as_J9_floorDiv_7cf53 M0 M' ∧ ∃ v : Int, r = some (0, v) ∧ (-2147483648) ≤ v ∧ v ≤ 2147483647
set_option maxRecDepth 100000 in
set_option maxHeartbeats 4000000 in
theorem sp_J9_floorDiv_7cf53 {l : Launch} {K : EC} {M0 : Mem} (hI : In Tru M0)  (a0 : Int) (ha0 : (-2147483648) ≤ a0 ∧ a0 ≤ 2147483647) (a1 : Int) (ha1 : (-2147483648) ≤ a1 ∧ a1 ≤ 2147483647) (hp0 : a1 ≠ 0) : Tr l K 0 mJ9_floorDiv_7cf53 0 [(0, (0, a0)), (1, (0, a1))] [] M0 (q_J9_floorDiv_7cf53 M0) := by
  have hS : St Tru ws_J9_floorDiv_7cf53 as_J9_floorDiv_7cf53 M0 M0 := St.rf hI
  refine Tr.iload_n (pc := 0) (i := 0) d_J9_floorDiv_7cf53_0 rfl rfl ?_
  refine Tr.iload_n (pc := 1) (i := 1) d_J9_floorDiv_7cf53_1 rfl rfl ?_
  refine Tr.idiv (pc := 2) d_J9_floorDiv_7cf53_2 (by omega) ?_
  refine Tr.gen (P := fun v => (-2147483648) ≤ v ∧ v ≤ 2147483647) (w32_b _) (fun r2 er2 br2 => ?_)
  refine Tr.istore_n (pc := 3) (i := 2) (ls2 := [(2, (0, r2)), (0, (0, a0)), (1, (0, a1))]) d_J9_floorDiv_7cf53_3 rfl (by decide) rfl ?_
  refine Tr.iload_n (pc := 4) (i := 0) d_J9_floorDiv_7cf53_4 rfl rfl ?_
  refine Tr.iload_n (pc := 5) (i := 1) d_J9_floorDiv_7cf53_5 rfl rfl ?_
  refine Tr.ixor (pc := 6) d_J9_floorDiv_7cf53_6 ?_
  refine Tr.gen (P := fun v => ((v < 0 ↔ ¬ (a0 < 0 ↔ a1 < 0)) ∧ (-2147483648 ≤ v ∧ v ≤ 2147483647))) (f_ixor_s (by omega) (by omega)) (fun r6 er6 br6 => ?_)
  refine Tr.if_ge (pc := 7) (tgt := 21) d_J9_floorDiv_7cf53_7 rfl (fun c7 => ?_) (fun c7 => ?_)
  · refine Tr.iload_n (pc := 21) (i := 2) d_J9_floorDiv_7cf53_21 rfl rfl ?_
    exact Tr.iret (pc := 22) d_J9_floorDiv_7cf53_22 rfl ⟨hS, _, rfl, by omega, by omega⟩
  · refine Tr.iload_n (pc := 10) (i := 2) d_J9_floorDiv_7cf53_10 rfl rfl ?_
    refine Tr.iload_n (pc := 11) (i := 1) d_J9_floorDiv_7cf53_11 rfl rfl ?_
    refine Tr.imul (pc := 12) d_J9_floorDiv_7cf53_12 ?_
    refine Tr.gen (P := fun v => (-2147483648) ≤ v ∧ v ≤ 2147483647) (w32_b _) (fun r12 er12 br12 => ?_)
    refine Tr.iload_n (pc := 13) (i := 0) d_J9_floorDiv_7cf53_13 rfl rfl ?_
    refine Tr.icmp_eq (pc := 14) (tgt := 21) d_J9_floorDiv_7cf53_14 rfl (fun c14 => ?_) (fun c14 => ?_)
    · refine Tr.iload_n (pc := 21) (i := 2) d_J9_floorDiv_7cf53_21 rfl rfl ?_
      exact Tr.iret (pc := 22) d_J9_floorDiv_7cf53_22 rfl ⟨hS, _, rfl, by omega, by omega⟩
    · refine Tr.iload_n (pc := 17) (i := 2) d_J9_floorDiv_7cf53_17 rfl rfl ?_
      refine Tr.iconst (pc := 18) d_J9_floorDiv_7cf53_18 (by decide) ?_
      refine Tr.isub (pc := 19) d_J9_floorDiv_7cf53_19 ?_
      refine Tr.gen (P := fun v => (-2147483648) ≤ v ∧ v ≤ 2147483647) (w32_b _) (fun r19 er19 br19 => ?_)
      exact Tr.iret (pc := 20) d_J9_floorDiv_7cf53_20 rfl ⟨hS, _, rfl, by omega, by omega⟩

def ws_X6_bounded : List (Int × Int) := []
def as_X6_bounded : List Int := []
def q_X6_bounded (M0 M' : Mem) (r : Option PV) : Prop := St Tru ws_X6_bounded as_X6_bounded M0 M' ∧ ∃ v : Int, r = some (0, v) ∧ (-1000000) ≤ v ∧ v ≤ 1000000
set_option maxRecDepth 100000 in
set_option maxHeartbeats 4000000 in
theorem sp_X6_bounded {l : Launch} {K : EC} {M0 : Mem} (hI : In Tru M0)  (a0 : Int) (ha0 : (-9223372036854775808) ≤ a0 ∧ a0 ≤ 9223372036854775807)  : Tr l K 1 mX6_bounded 0 [(0, (1, a0))] [] M0 (q_X6_bounded M0) := by
  have hS : St Tru ws_X6_bounded as_X6_bounded M0 M0 := St.rf hI
  refine Tr.lload_n (pc := 0) (i := 0) d_X6_bounded_0 rfl rfl ?_
  refine Tr.ldc2 (pc := 1) d_X6_bounded_1 kl_6_248 (by decide) ?_
  refine Tr.mmaxL (pc := 4) d_X6_bounded_4 ml_6_250 mw_mmaxL (Nat.le_of_ble_eq_true rfl) ?_
  refine Tr.gen (P := fun v => (v = a0 ∧ (-1000000) ≤ a0) ∨ (v = (-1000000) ∧ a0 ≤ (-1000000))) (f_maxL_p _ _) (fun r4 er4 br4 => ?_)
  refine Tr.ldc2 (pc := 7) d_X6_bounded_7 kl_6_253 (by decide) ?_
  refine Tr.mminL (pc := 10) d_X6_bounded_10 ml_6_255 mw_mminL (Nat.le_of_ble_eq_true rfl) ?_
  refine Tr.gen (P := fun v => (v = r4 ∧ r4 ≤ 1000000) ∨ (v = 1000000 ∧ 1000000 ≤ r4)) (f_min_p _ _) (fun r10 er10 br10 => ?_)
  refine Tr.l2i (pc := 13) d_X6_bounded_13 ?_
  refine Tr.tp r10 (w32_id (by omega)) ?_
  exact Tr.iret (pc := 14) d_X6_bounded_14 rfl ⟨hS, _, rfl, by omega, by omega⟩

def ws_X6_joined : List (Int × Int) := []
def as_X6_joined : List Int := []
def q_X6_joined (M0 M' : Mem) (r : Option PV) : Prop := St Tru ws_X6_joined as_X6_joined M0 M' ∧ ∃ v : Int, r = some (0, v) ∧ (-2147483648) ≤ v ∧ v ≤ 2147483647
set_option maxRecDepth 100000 in
set_option maxHeartbeats 4000000 in
theorem sp_X6_joined {l : Launch} {K : EC} {M0 : Mem} (hI : In Tru M0)  (a0 : Int) (ha0 : 6 ≤ a0 ∧ a0 ≤ 2147483647) (a1 : Int) (ha1 : (-2147483648) ≤ a1 ∧ a1 ≤ 2147483647) (a2 : Int) (ha2 : (-2147483648) ≤ a2 ∧ a2 ≤ 2147483647)  : Tr l K 2 mX6_joined 0 [(0, (0, a0)), (1, (0, a1)), (2, (0, a2))] [] M0 (q_X6_joined M0) := by
  have hS : St Tru ws_X6_joined as_X6_joined M0 M0 := St.rf hI
  refine Tr.iload_n (pc := 0) (i := 0) d_X6_joined_0 rfl rfl ?_
  rcases (show (a0 < 6 ∨ 16 < a0) ∨ a0 = 6 ∨ a0 = 7 ∨ a0 = 8 ∨ a0 = 9 ∨ a0 = 10 ∨ a0 = 11 ∨ a0 = 12 ∨ a0 = 13 ∨ a0 = 14 ∨ a0 = 15 ∨ a0 = 16 by omega) with c1 | c1 | c1 | c1 | c1 | c1 | c1 | c1 | c1 | c1 | c1 | c1
  · refine Tr.tswOut (pc := 1) (tgt := 164) d_X6_joined_1 c1 rfl ?_
    refine Tr.iload_n (pc := 164) (i := 1) d_X6_joined_164 rfl rfl ?_
    refine Tr.iload_n (pc := 165) (i := 2) d_X6_joined_165 rfl rfl ?_
    refine Tr.ior (pc := 166) d_X6_joined_166 ?_
    refine Tr.gen (P := fun v => (-2147483648) ≤ v ∧ v ≤ 2147483647) (i32_b _) (fun r166 er166 br166 => ?_)
    exact Tr.iret (pc := 167) d_X6_joined_167 rfl ⟨hS, _, rfl, by omega, by omega⟩
  · refine Tr.tp 6 c1 ?_
    refine Tr.tswIn (pc := 1) (off := 59) (tgt := 60) d_X6_joined_1 (by decide) (by decide) rfl rfl ?_
    refine Tr.iload_n (pc := 60) (i := 1) d_X6_joined_60 rfl rfl ?_
    refine Tr.i2l (pc := 61) d_X6_joined_61 ?_
    refine Tr.iload_n (pc := 62) (i := 2) d_X6_joined_62 rfl rfl ?_
    refine Tr.i2l (pc := 63) d_X6_joined_63 ?_
    refine Tr.ladd (pc := 64) d_X6_joined_64 ?_
    refine Tr.tp (a1 + a2) ((w64_id (by omega)).trans (by omega)) ?_
    refine Tr.callS (pc := 65) (as := [_]) d_X6_joined_65 s_6_241 ok_X6_bounded rfl rfl (Nat.le_of_ble_eq_true rfl) (Nat.le_of_ble_eq_true rfl) ?_
    refine Tr.imp (Tr.deep (by decide) (sp_X6_bounded hS.1 (a1 + a2) (by omega))) ?_
    rintro M65 _ ⟨h65, r65, rfl, lr65, ur65⟩
    have hS := St.tr hS h65 (by decide) (by decide)
    refine Tr.sc [(0, r65)] rfl ?_
    exact Tr.iret (pc := 68) d_X6_joined_68 rfl ⟨hS, _, rfl, by omega, by omega⟩
  · refine Tr.tp 7 c1 ?_
    refine Tr.tswIn (pc := 1) (off := 68) (tgt := 69) d_X6_joined_1 (by decide) (by decide) rfl rfl ?_
    refine Tr.iload_n (pc := 69) (i := 1) d_X6_joined_69 rfl rfl ?_
    refine Tr.i2l (pc := 70) d_X6_joined_70 ?_
    refine Tr.iload_n (pc := 71) (i := 2) d_X6_joined_71 rfl rfl ?_
    refine Tr.i2l (pc := 72) d_X6_joined_72 ?_
    refine Tr.lsub (pc := 73) d_X6_joined_73 ?_
    refine Tr.tp (a1 - a2) ((w64_id (by omega)).trans (by omega)) ?_
    refine Tr.callS (pc := 74) (as := [_]) d_X6_joined_74 s_6_241 ok_X6_bounded rfl rfl (Nat.le_of_ble_eq_true rfl) (Nat.le_of_ble_eq_true rfl) ?_
    refine Tr.imp (Tr.deep (by decide) (sp_X6_bounded hS.1 (a1 - a2) (by omega))) ?_
    rintro M74 _ ⟨h74, r74, rfl, lr74, ur74⟩
    have hS := St.tr hS h74 (by decide) (by decide)
    refine Tr.sc [(0, r74)] rfl ?_
    exact Tr.iret (pc := 77) d_X6_joined_77 rfl ⟨hS, _, rfl, by omega, by omega⟩
  · refine Tr.tp 8 c1 ?_
    refine Tr.tswIn (pc := 1) (off := 77) (tgt := 78) d_X6_joined_1 (by decide) (by decide) rfl rfl ?_
    refine Tr.iload_n (pc := 78) (i := 1) d_X6_joined_78 rfl rfl ?_
    refine Tr.i2l (pc := 79) d_X6_joined_79 ?_
    refine Tr.iload_n (pc := 80) (i := 2) d_X6_joined_80 rfl rfl ?_
    refine Tr.i2l (pc := 81) d_X6_joined_81 ?_
    refine Tr.lmul (pc := 82) d_X6_joined_82 ?_
    refine Tr.gen (P := fun v => (-9223372036854775808) ≤ v ∧ v ≤ 9223372036854775807) (w64_b _) (fun r82 er82 br82 => ?_)
    refine Tr.callS (pc := 83) (as := [_]) d_X6_joined_83 s_6_241 ok_X6_bounded rfl rfl (Nat.le_of_ble_eq_true rfl) (Nat.le_of_ble_eq_true rfl) ?_
    refine Tr.imp (Tr.deep (by decide) (sp_X6_bounded hS.1 r82 (by omega))) ?_
    rintro M83 _ ⟨h83, r83, rfl, lr83, ur83⟩
    have hS := St.tr hS h83 (by decide) (by decide)
    refine Tr.sc [(0, r83)] rfl ?_
    exact Tr.iret (pc := 86) d_X6_joined_86 rfl ⟨hS, _, rfl, by omega, by omega⟩
  · refine Tr.tp 9 c1 ?_
    refine Tr.tswIn (pc := 1) (off := 86) (tgt := 87) d_X6_joined_1 (by decide) (by decide) rfl rfl ?_
    refine Tr.iload_n (pc := 87) (i := 2) d_X6_joined_87 rfl rfl ?_
    refine Tr.if_ne (pc := 88) (tgt := 95) d_X6_joined_88 rfl (fun c88 => ?_) (fun c88 => ?_)
    · refine Tr.iload_n (pc := 95) (i := 1) d_X6_joined_95 rfl rfl ?_
      refine Tr.iload_n (pc := 96) (i := 2) d_X6_joined_96 rfl rfl ?_
      refine Tr.callS (pc := 97) (as := [_, _]) d_X6_joined_97 s_6_245 ok_J9_floorDiv_7cf53 rfl rfl (Nat.le_of_ble_eq_true rfl) (Nat.le_of_ble_eq_true rfl) ?_
      refine Tr.imp (Tr.deep (by decide) (sp_J9_floorDiv_7cf53 hS.1 a1 (by omega) a2 (by omega) (by omega))) ?_
      rintro M97 _ ⟨h97, r97, rfl, lr97, ur97⟩
      have hS := St.tr hS h97 (by decide) (by decide)
      refine Tr.sc [(0, r97)] rfl ?_
      exact Tr.iret (pc := 100) d_X6_joined_100 rfl ⟨hS, _, rfl, by omega, by omega⟩
    · refine Tr.iconst (pc := 91) d_X6_joined_91 (by decide) ?_
      refine Tr.goto (pc := 92) (tgt := 100) d_X6_joined_92 rfl ?_
      exact Tr.iret (pc := 100) d_X6_joined_100 rfl ⟨hS, _, rfl, by omega, by omega⟩
  · refine Tr.tp 10 c1 ?_
    refine Tr.tswIn (pc := 1) (off := 100) (tgt := 101) d_X6_joined_1 (by decide) (by decide) rfl rfl ?_
    refine Tr.iload_n (pc := 101) (i := 2) d_X6_joined_101 rfl rfl ?_
    refine Tr.if_ne (pc := 102) (tgt := 109) d_X6_joined_102 rfl (fun c102 => ?_) (fun c102 => ?_)
    · refine Tr.iload_n (pc := 109) (i := 1) d_X6_joined_109 rfl rfl ?_
      refine Tr.iload_n (pc := 110) (i := 2) d_X6_joined_110 rfl rfl ?_
      refine Tr.callS (pc := 111) (as := [_, _]) d_X6_joined_111 s_6_171 ok_J9_floorMod_7cf53 rfl rfl (Nat.le_of_ble_eq_true rfl) (Nat.le_of_ble_eq_true rfl) ?_
      refine Tr.imp (Tr.deep (by decide) (sp_J9_floorMod_7cf53 hS.1 a1 (by omega) a2 (by omega) (by omega))) ?_
      rintro M111 _ ⟨h111, r111, rfl, lr111, ur111, wr111⟩
      have hS := St.tr hS h111 (by decide) (by decide)
      refine Tr.sc [(0, r111)] rfl ?_
      exact Tr.iret (pc := 114) d_X6_joined_114 rfl ⟨hS, _, rfl, by omega, by omega⟩
    · refine Tr.iconst (pc := 105) d_X6_joined_105 (by decide) ?_
      refine Tr.goto (pc := 106) (tgt := 114) d_X6_joined_106 rfl ?_
      exact Tr.iret (pc := 114) d_X6_joined_114 rfl ⟨hS, _, rfl, by omega, by omega⟩
  · refine Tr.tp 11 c1 ?_
    refine Tr.tswIn (pc := 1) (off := 114) (tgt := 115) d_X6_joined_1 (by decide) (by decide) rfl rfl ?_
    refine Tr.iload_n (pc := 115) (i := 1) d_X6_joined_115 rfl rfl ?_
    refine Tr.iload_n (pc := 116) (i := 2) d_X6_joined_116 rfl rfl ?_
    refine Tr.mmin (pc := 117) d_X6_joined_117 ml_6_158 mw_mmin (Nat.le_of_ble_eq_true rfl) ?_
    refine Tr.gen (P := fun v => (v = a1 ∧ a1 ≤ a2) ∨ (v = a2 ∧ a2 ≤ a1)) (f_min_p _ _) (fun r117 er117 br117 => ?_)
    exact Tr.iret (pc := 120) d_X6_joined_120 rfl ⟨hS, _, rfl, by omega, by omega⟩
  · refine Tr.tp 12 c1 ?_
    refine Tr.tswIn (pc := 1) (off := 120) (tgt := 121) d_X6_joined_1 (by decide) (by decide) rfl rfl ?_
    refine Tr.iload_n (pc := 121) (i := 1) d_X6_joined_121 rfl rfl ?_
    refine Tr.iload_n (pc := 122) (i := 2) d_X6_joined_122 rfl rfl ?_
    refine Tr.mmax (pc := 123) d_X6_joined_123 ml_6_119 mw_mmax (Nat.le_of_ble_eq_true rfl) ?_
    refine Tr.gen (P := fun v => (v = a1 ∧ a2 ≤ a1) ∨ (v = a2 ∧ a1 ≤ a2)) (f_max_p _ _) (fun r123 er123 br123 => ?_)
    exact Tr.iret (pc := 126) d_X6_joined_126 rfl ⟨hS, _, rfl, by omega, by omega⟩
  · refine Tr.tp 13 c1 ?_
    refine Tr.tswIn (pc := 1) (off := 126) (tgt := 127) d_X6_joined_1 (by decide) (by decide) rfl rfl ?_
    refine Tr.iload_n (pc := 127) (i := 1) d_X6_joined_127 rfl rfl ?_
    refine Tr.iload_n (pc := 128) (i := 2) d_X6_joined_128 rfl rfl ?_
    refine Tr.icmp_ge (pc := 129) (tgt := 136) d_X6_joined_129 rfl (fun c129 => ?_) (fun c129 => ?_)
    · refine Tr.iconst (pc := 136) d_X6_joined_136 (by decide) ?_
      exact Tr.iret (pc := 137) d_X6_joined_137 rfl ⟨hS, _, rfl, by omega, by omega⟩
    · refine Tr.iconst (pc := 132) d_X6_joined_132 (by decide) ?_
      refine Tr.goto (pc := 133) (tgt := 137) d_X6_joined_133 rfl ?_
      exact Tr.iret (pc := 137) d_X6_joined_137 rfl ⟨hS, _, rfl, by omega, by omega⟩
  · refine Tr.tp 14 c1 ?_
    refine Tr.tswIn (pc := 1) (off := 137) (tgt := 138) d_X6_joined_1 (by decide) (by decide) rfl rfl ?_
    refine Tr.iload_n (pc := 138) (i := 1) d_X6_joined_138 rfl rfl ?_
    refine Tr.iload_n (pc := 139) (i := 2) d_X6_joined_139 rfl rfl ?_
    refine Tr.icmp_le (pc := 140) (tgt := 147) d_X6_joined_140 rfl (fun c140 => ?_) (fun c140 => ?_)
    · refine Tr.iconst (pc := 147) d_X6_joined_147 (by decide) ?_
      exact Tr.iret (pc := 148) d_X6_joined_148 rfl ⟨hS, _, rfl, by omega, by omega⟩
    · refine Tr.iconst (pc := 143) d_X6_joined_143 (by decide) ?_
      refine Tr.goto (pc := 144) (tgt := 148) d_X6_joined_144 rfl ?_
      exact Tr.iret (pc := 148) d_X6_joined_148 rfl ⟨hS, _, rfl, by omega, by omega⟩
  · refine Tr.tp 15 c1 ?_
    refine Tr.tswIn (pc := 1) (off := 148) (tgt := 149) d_X6_joined_1 (by decide) (by decide) rfl rfl ?_
    refine Tr.iload_n (pc := 149) (i := 1) d_X6_joined_149 rfl rfl ?_
    refine Tr.iload_n (pc := 150) (i := 2) d_X6_joined_150 rfl rfl ?_
    refine Tr.icmp_ne (pc := 151) (tgt := 158) d_X6_joined_151 rfl (fun c151 => ?_) (fun c151 => ?_)
    · refine Tr.iconst (pc := 158) d_X6_joined_158 (by decide) ?_
      exact Tr.iret (pc := 159) d_X6_joined_159 rfl ⟨hS, _, rfl, by omega, by omega⟩
    · refine Tr.iconst (pc := 154) d_X6_joined_154 (by decide) ?_
      refine Tr.goto (pc := 155) (tgt := 159) d_X6_joined_155 rfl ?_
      exact Tr.iret (pc := 159) d_X6_joined_159 rfl ⟨hS, _, rfl, by omega, by omega⟩
  · refine Tr.tp 16 c1 ?_
    refine Tr.tswIn (pc := 1) (off := 159) (tgt := 160) d_X6_joined_1 (by decide) (by decide) rfl rfl ?_
    refine Tr.iload_n (pc := 160) (i := 1) d_X6_joined_160 rfl rfl ?_
    refine Tr.iload_n (pc := 161) (i := 2) d_X6_joined_161 rfl rfl ?_
    refine Tr.iand (pc := 162) d_X6_joined_162 ?_
    refine Tr.gen (P := fun v => (-2147483648) ≤ v ∧ v ≤ 2147483647) (i32_b _) (fun r162 er162 br162 => ?_)
    exact Tr.iret (pc := 163) d_X6_joined_163 rfl ⟨hS, _, rfl, by omega, by omega⟩

def ws_X6_afforded_74_w1 : List (Int × Int) := [(74, 17)]
def as_X6_afforded_74_w1 : List Int := []
def q_X6_afforded_74_w1 (M0 M' : Mem) (r : Option PV) : Prop := St Tru ws_X6_afforded_74_w1 as_X6_afforded_74_w1 M0 M' ∧ ∃ v : Int, r = some (0, v) ∧ (-2147483648) ≤ v ∧ v ≤ 20
set_option maxRecDepth 100000 in
set_option maxHeartbeats 4000000 in
theorem sp_X6_afforded_74_w1 {l : Launch} {K : EC} {M0 : Mem} (hI : In Tru M0) (en_74_1 : rd M0 74 1 = 7) (a1 : Int) (ha1 : (-2147483648) ≤ a1 ∧ a1 ≤ 20) (a2 : Int) (ha2 : (-1) ≤ a2 ∧ a2 ≤ (-1)) (a3 : Int) (ha3 : 0 ≤ a3 ∧ a3 ≤ 0)  : Tr l K 1 mX6_afforded 0 [(0, (2, 74)), (1, (0, a1)), (2, (0, a2)), (3, (0, a3))] [] M0 (q_X6_afforded_74_w1 M0) := by
  have hS : St Tru ws_X6_afforded_74_w1 as_X6_afforded_74_w1 M0 M0 := St.rf hI
  refine Tr.iconst (pc := 0) d_X6_afforded_0 (by decide) ?_
  refine Tr.istore (pc := 1) (i := 4) (ls2 := [(4, (0, 0)), (0, (2, 74)), (1, (0, a1)), (2, (0, a2)), (3, (0, a3))]) d_X6_afforded_1 (by decide) rfl ?_
  have J3 : ∀ (n3 : Nat) (M : Mem) (p3_4 : Int), St Tru ws_X6_afforded_74_w1 as_X6_afforded_74_w1 M0 M → (0 ≤ p3_4 ∧ p3_4 ≤ 20) → (20 - p3_4).toNat < n3 → Tr l K 1 mX6_afforded 3 [(0, (2, 74)), (1, (0, a1)), (2, (0, a2)), (3, (0, a3)), (4, (0, p3_4))] [] M (q_X6_afforded_74_w1 M0) := by
    intro n3
    induction n3 with
    | zero => intro M p3_4 hS bp3_4  hm3; exact absurd hm3 (Nat.not_lt_zero _)
    | succ n3 J3 =>
      intro M p3_4 hS bp3_4  hm3
      refine Tr.iload (pc := 3) (i := 4) d_X6_afforded_3 rfl ?_
      refine Tr.iload_n (pc := 5) (i := 1) d_X6_afforded_5 rfl rfl ?_
      refine Tr.icmp_ge (pc := 6) (tgt := 53) d_X6_afforded_6 rfl (fun c6 => ?_) (fun c6 => ?_)
      · refine Tr.iload_n (pc := 53) (i := 1) d_X6_afforded_53 rfl rfl ?_
        exact Tr.iret (pc := 54) d_X6_afforded_54 rfl ⟨hS, _, rfl, by omega, by omega⟩
      · refine Tr.aload_n (pc := 9) (i := 0) d_X6_afforded_9 rfl rfl ?_
        refine Tr.aload_n (pc := 10) (i := 0) d_X6_afforded_10 rfl rfl ?_
        refine Tr.getf (pc := 11) d_X6_afforded_11 f_6_68 (by decide) (by decide) (ty_74 hS.1.1) ?_
        refine Tr.gen (P := fun v => (-2147483648) ≤ v ∧ v ≤ 2147483647) (ir_74_9 hS.1.2.1) (fun r11 er11 br11 => ?_)
        refine Tr.iload (pc := 14) (i := 4) d_X6_afforded_14 rfl ?_
        refine Tr.iadd (pc := 16) d_X6_afforded_16 ?_
        refine Tr.gen (P := fun v => (-2147483648) ≤ v ∧ v ≤ 2147483647) (w32_b _) (fun r16 er16 br16 => ?_)
        refine Tr.iload_n (pc := 17) (i := 2) d_X6_afforded_17 rfl rfl ?_
        refine Tr.tp (-1) (by omega) ?_
        refine Tr.iload_n (pc := 18) (i := 3) d_X6_afforded_18 rfl rfl ?_
        refine Tr.tp 0 (by omega) ?_
        refine Tr.callV (pc := 19) (as := [_, _, _]) d_X6_afforded_19 s_6_186 ok_X6_sipsAt rfl rfl (Nat.le_of_ble_eq_true rfl) (Nat.le_of_ble_eq_true rfl) (by decide) (ty_74 hS.1.1) ?_
        refine Tr.imp (Tr.deep (by decide) (sp_X6_sipsAt_74 hS.1 ((St.kp hS (by decide) (by decide) (by decide)).trans en_74_1) r16 (by omega) (-1) (by omega) 0 (by omega))) ?_
        rintro M19 _ ⟨h19, r19, rfl, lr19, ur19⟩
        have hS := St.tr hS h19 (by decide) (by decide)
        refine Tr.sc [(0, r19)] rfl ?_
        refine Tr.istore (pc := 22) (i := 5) (ls2 := [(5, (0, r19)), (0, (2, 74)), (1, (0, a1)), (2, (0, a2)), (3, (0, a3)), (4, (0, p3_4))]) d_X6_afforded_22 (by decide) rfl ?_
        refine Tr.iload (pc := 24) (i := 5) d_X6_afforded_24 rfl ?_
        refine Tr.aload_n (pc := 26) (i := 0) d_X6_afforded_26 rfl rfl ?_
        refine Tr.getf (pc := 27) d_X6_afforded_27 f_6_110 (by decide) (by decide) (ty_74 hS.1.1) ?_
        refine Tr.gen (P := fun v => (-2147483648) ≤ v ∧ v ≤ 2147483647) (ir_74_17 hS.1.2.1) (fun r27 er27 br27 => ?_)
        refine Tr.icmp_le (pc := 30) (tgt := 36) d_X6_afforded_30 rfl (fun c30 => ?_) (fun c30 => ?_)
        · refine Tr.aload_n (pc := 36) (i := 0) d_X6_afforded_36 rfl rfl ?_
          refine Tr.dup (pc := 37) d_X6_afforded_37 ne21 ?_
          refine Tr.getf (pc := 38) d_X6_afforded_38 f_6_110 (by decide) (by decide) (ty_74 hS.1.1) ?_
          refine Tr.tp r27 er27 ?_
          refine Tr.iload (pc := 41) (i := 5) d_X6_afforded_41 rfl ?_
          refine Tr.isub (pc := 43) d_X6_afforded_43 ?_
          refine Tr.gen (P := fun v => (-2147483648) ≤ v ∧ v ≤ 2147483647) (w32_b _) (fun r43 er43 br43 => ?_)
          refine Tr.putfS (pc := 44) (P := St Tru ws_X6_afforded_74_w1 as_X6_afforded_74_w1 M0) d_X6_afforded_44 f_6_110 (by decide) (by decide) (ty_74 hS.1.1) (st_74_17 hS (by decide) (by omega) trivial) (fun M44 hS w44 => ?_)
          refine Tr.iincV (pc := 47) (n2 := (p3_4 + 1)) (ls2 := [(4, (0, (p3_4 + 1))), (5, (0, r19)), (0, (2, 74)), (1, (0, a1)), (2, (0, a2)), (3, (0, a3))]) d_X6_afforded_47 rfl (by decide) ((w32_id (by omega)).trans (by omega)) rfl ?_
          refine Tr.goto (pc := 50) (tgt := 3) d_X6_afforded_50 rfl ?_
          refine Tr.pick [2, 3, 4, 5, 0] (ls2 := [(0, (2, 74)), (1, (0, a1)), (2, (0, a2)), (3, (0, a3)), (4, (0, (p3_4 + 1)))]) rfl ?_
          exact J3 _ _ hS (by omega) (by omega)
        · refine Tr.iload (pc := 33) (i := 4) d_X6_afforded_33 rfl ?_
          exact Tr.iret (pc := 35) d_X6_afforded_35 rfl ⟨hS, _, rfl, by omega, by omega⟩
  refine Tr.pick [1, 2, 3, 4, 0] (ls2 := [(0, (2, 74)), (1, (0, a1)), (2, (0, a2)), (3, (0, a3)), (4, (0, 0))]) rfl ?_
  exact J3 _ _ _ hS (by omega) (Nat.lt_succ_self _)

def ws_X6_pass_74_w1 : List (Int × Int) := [(74, 9), (74, 14), (74, 17)]
def as_X6_pass_74_w1 : List Int := []
def q_X6_pass_74_w1 (M0 M' : Mem) (r : Option PV) : Prop := St Tru ws_X6_pass_74_w1 as_X6_pass_74_w1 M0 M' ∧ ∃ v : Int, r = some (0, v) ∧ (-2147483648) ≤ v ∧ v ≤ 20
set_option maxRecDepth 100000 in
set_option maxHeartbeats 4000000 in
theorem sp_X6_pass_74_w1 {l : Launch} {K : EC} {M0 : Mem} (hI : In Tru M0) (en_74_1 : rd M0 74 1 = 7) (a1 : Int) (ha1 : (-1) ≤ a1 ∧ a1 ≤ 20) (a2 : Int) (ha2 : (-1) ≤ a2 ∧ a2 ≤ (-1)) (a3 : Int) (ha3 : 0 ≤ a3 ∧ a3 ≤ 0)  : Tr l K 2 mX6_pass 0 [(0, (2, 74)), (1, (0, a1)), (2, (0, a2)), (3, (0, a3))] [] M0 (q_X6_pass_74_w1 M0) := by
  have hS : St Tru ws_X6_pass_74_w1 as_X6_pass_74_w1 M0 M0 := St.rf hI
  refine Tr.iload_n (pc := 0) (i := 1) d_X6_pass_0 rfl rfl ?_
  refine Tr.sipush (pc := 1) d_X6_pass_1 rfl (by decide) ?_
  refine Tr.aload_n (pc := 4) (i := 0) d_X6_pass_4 rfl rfl ?_
  refine Tr.getf (pc := 5) d_X6_pass_5 f_6_68 (by decide) (by decide) (ty_74 hS.1.1) ?_
  refine Tr.gen (P := fun v => (-2147483648) ≤ v ∧ v ≤ 2147483647) (ir_74_9 hS.1.2.1) (fun r5 er5 br5 => ?_)
  refine Tr.isub (pc := 8) d_X6_pass_8 ?_
  refine Tr.gen (P := fun v => (-2147483648) ≤ v ∧ v ≤ 2147483647) (w32_b _) (fun r8 er8 br8 => ?_)
  refine Tr.mmin (pc := 9) d_X6_pass_9 ml_6_158 mw_mmin (Nat.le_of_ble_eq_true rfl) ?_
  refine Tr.gen (P := fun v => (v = a1 ∧ a1 ≤ r8) ∨ (v = r8 ∧ r8 ≤ a1)) (f_min_p _ _) (fun r9 er9 br9 => ?_)
  refine Tr.istore (pc := 12) (i := 4) (ls2 := [(4, (0, r9)), (0, (2, 74)), (1, (0, a1)), (2, (0, a2)), (3, (0, a3))]) d_X6_pass_12 (by decide) rfl ?_
  refine Tr.aload_n (pc := 14) (i := 0) d_X6_pass_14 rfl rfl ?_
  refine Tr.getz (pc := 15) d_X6_pass_15 f_6_106 (by decide) (ty_74 hS.1.1) ?_
  refine Tr.gen (P := fun v => 0 ≤ v ∧ v ≤ 1) (ir_74_16 hS.1.2.1) (fun r15 er15 br15 => ?_)
  have J34 : ∀ (M : Mem) (q34_0 : Int), St Tru ws_X6_pass_74_w1 as_X6_pass_74_w1 M0 M → ((-2147483648) ≤ q34_0 ∧ q34_0 ≤ 20) → rd M 74 16 = r15 → rd M 74 9 = r5 → Tr l K 2 mX6_pass 34 [(0, (2, 74)), (1, (0, a1)), (4, (0, r9))] [(0, q34_0)] M (q_X6_pass_74_w1 M0) := by
    intro M q34_0 hS bq34_0 k34_74_16 k34_74_9
    refine Tr.istore (pc := 34) (i := 5) (ls2 := [(5, (0, q34_0)), (0, (2, 74)), (1, (0, a1)), (4, (0, r9))]) d_X6_pass_34 (by decide) rfl ?_
    refine Tr.aload_n (pc := 36) (i := 0) d_X6_pass_36 rfl rfl ?_
    refine Tr.dup (pc := 37) d_X6_pass_37 ne21 ?_
    refine Tr.getf (pc := 38) d_X6_pass_38 f_6_68 (by decide) (by decide) (ty_74 hS.1.1) ?_
    refine Tr.tp r5 k34_74_9 ?_
    refine Tr.iload (pc := 41) (i := 5) d_X6_pass_41 rfl ?_
    refine Tr.iadd (pc := 43) d_X6_pass_43 ?_
    refine Tr.gen (P := fun v => (-2147483648) ≤ v ∧ v ≤ 2147483647) (w32_b _) (fun r43 er43 br43 => ?_)
    refine Tr.putfS (pc := 44) (P := St Tru ws_X6_pass_74_w1 as_X6_pass_74_w1 M0) d_X6_pass_44 f_6_68 (by decide) (by decide) (ty_74 hS.1.1) (st_74_9 hS (by decide) (by omega) trivial) (fun M44 hS w44 => ?_)
    refine Tr.iload (pc := 47) (i := 5) d_X6_pass_47 rfl ?_
    refine Tr.iload_n (pc := 49) (i := 1) d_X6_pass_49 rfl rfl ?_
    refine Tr.icmp_ge (pc := 50) (tgt := 69) d_X6_pass_50 rfl (fun c50 => ?_) (fun c50 => ?_)
    · refine Tr.iload (pc := 69) (i := 5) d_X6_pass_69 rfl ?_
      exact Tr.iret (pc := 71) d_X6_pass_71 rfl ⟨hS, _, rfl, by omega, by omega⟩
    · refine Tr.aload_n (pc := 53) (i := 0) d_X6_pass_53 rfl rfl ?_
      refine Tr.iload (pc := 54) (i := 5) d_X6_pass_54 rfl ?_
      refine Tr.iload (pc := 56) (i := 4) d_X6_pass_56 rfl ?_
      refine Tr.icmp_ne (pc := 58) (tgt := 65) d_X6_pass_58 rfl (fun c58 => ?_) (fun c58 => ?_)
      · refine Tr.iconst (pc := 65) d_X6_pass_65 (by decide) ?_
        refine Tr.putfS (pc := 66) (P := St Tru ws_X6_pass_74_w1 as_X6_pass_74_w1 M0) d_X6_pass_66 f_6_62 (by decide) (by decide) (ty_74 hS.1.1) (st_74_14 hS (by decide) (by omega) trivial) (fun M66 hS w66 => ?_)
        refine Tr.iload (pc := 69) (i := 5) d_X6_pass_69 rfl ?_
        exact Tr.iret (pc := 71) d_X6_pass_71 rfl ⟨hS, _, rfl, by omega, by omega⟩
      · refine Tr.iconst (pc := 61) d_X6_pass_61 (by decide) ?_
        refine Tr.goto (pc := 62) (tgt := 66) d_X6_pass_62 rfl ?_
        refine Tr.putfS (pc := 66) (P := St Tru ws_X6_pass_74_w1 as_X6_pass_74_w1 M0) d_X6_pass_66 f_6_62 (by decide) (by decide) (ty_74 hS.1.1) (st_74_14 hS (by decide) (by omega) trivial) (fun M66 hS w66 => ?_)
        refine Tr.iload (pc := 69) (i := 5) d_X6_pass_69 rfl ?_
        exact Tr.iret (pc := 71) d_X6_pass_71 rfl ⟨hS, _, rfl, by omega, by omega⟩
  refine Tr.if_eq (pc := 18) (tgt := 32) d_X6_pass_18 rfl (fun c18 => ?_) (fun c18 => ?_)
  · refine Tr.iload (pc := 32) (i := 4) d_X6_pass_32 rfl ?_
    refine Tr.pick [1, 2, 0] (ls2 := [(0, (2, 74)), (1, (0, a1)), (4, (0, r9))]) rfl ?_
    exact J34 _ _ hS (by omega) er15 er5
  · refine Tr.aload_n (pc := 21) (i := 0) d_X6_pass_21 rfl rfl ?_
    refine Tr.iload (pc := 22) (i := 4) d_X6_pass_22 rfl ?_
    refine Tr.iload_n (pc := 24) (i := 2) d_X6_pass_24 rfl rfl ?_
    refine Tr.tp (-1) (by omega) ?_
    refine Tr.iload_n (pc := 25) (i := 3) d_X6_pass_25 rfl rfl ?_
    refine Tr.tp 0 (by omega) ?_
    refine Tr.callV (pc := 26) (as := [_, _, _]) d_X6_pass_26 s_6_183 ok_X6_afforded rfl rfl (Nat.le_of_ble_eq_true rfl) (Nat.le_of_ble_eq_true rfl) (by decide) (ty_74 hS.1.1) ?_
    refine Tr.imp (Tr.deep (by decide) (sp_X6_afforded_74_w1 hS.1 ((St.kp hS (by decide) (by decide) (by decide)).trans en_74_1) r9 (by omega) (-1) (by omega) 0 (by omega))) ?_
    rintro M26 _ ⟨h26, r26, rfl, lr26, ur26⟩
    have hS := St.tr hS h26 (by decide) (by decide)
    refine Tr.sc [(0, r26)] rfl ?_
    refine Tr.goto (pc := 29) (tgt := 34) d_X6_pass_29 rfl ?_
    refine Tr.pick [1, 2, 0] (ls2 := [(0, (2, 74)), (1, (0, a1)), (4, (0, r9))]) rfl ?_
    exact J34 _ _ hS (by omega) ((St.kp h26 (by decide) (by decide) (by decide)).trans er15) ((St.kp h26 (by decide) (by decide) (by decide)).trans er5)
