def ws_X3_isFull_7_w2 : List (Int × Int) := []
def as_X3_isFull_7_w2 : List Int := []
def q_X3_isFull_7_w2 (M0 M' : Mem) (r : Option PV) : Prop := St Tru ws_X3_isFull_7_w2 as_X3_isFull_7_w2 M0 M' ∧ ∃ v : Int, r = some (0, v) ∧ 0 ≤ v ∧ v ≤ 1
set_option maxRecDepth 100000 in
set_option maxHeartbeats 4000000 in
theorem sp_X3_isFull_7_w2 {l : Launch} {K : EC} {M0 : Mem} {xq : Int} (hI : In Tru M0) (hE : e_all K xq)  (a1 : Int) (ha1 : 0 ≤ a1 ∧ a1 ≤ 0)  : Tr l K 0 mX3_isFull 0 [(0, (2, 7)), (1, (0, a1))] [] M0 (q_X3_isFull_7_w2 M0) := by
  have hS : St Tru ws_X3_isFull_7_w2 as_X3_isFull_7_w2 M0 M0 := St.rf hI
  refine Tr.aload_n (pc := 0) (i := 0) d_X3_isFull_0 rfl rfl ?_
  refine Tr.getf (pc := 1) d_X3_isFull_1 f_3_11 (by decide) (by decide) (ty_7 hS.1.1) ?_
  refine Tr.tp 8 (fx_7_4 hS.1.1) ?_
  refine Tr.iload_n (pc := 4) (i := 1) d_X3_isFull_4 rfl rfl ?_
  refine Tr.tp 0 (by omega) ?_
  refine Tr.iald (pc := 5) d_X3_isFull_5 (ty_8 hS.1.1) (by omega) (by omega) ?_
  refine Tr.gen (P := fun v => 0 ≤ v ∧ v ≤ 6) (ir_8_0 hS.1.2.1) (fun r5 er5 br5 => ?_)
  refine Tr.gets (pc := 6) d_X3_isFull_6 sl_3_62 hE.2.2.2.1 ?_
  refine Tr.iload_n (pc := 9) (i := 1) d_X3_isFull_9 rfl rfl ?_
  refine Tr.tp 0 (by omega) ?_
  refine Tr.xld (pc := 10) (i := 1) d_X3_isFull_10 rfl hE.1 (by omega) (by omega) ?_
  refine Tr.tp 6 (by decide) ?_
  refine Tr.icmp_lt (pc := 11) (tgt := 18) d_X3_isFull_11 rfl (fun c11 => ?_) (fun c11 => ?_)
  · refine Tr.iconst (pc := 18) d_X3_isFull_18 (by decide) ?_
    exact Tr.zret (pc := 19) d_X3_isFull_19 rfl (by omega) ⟨hS, _, rfl, by omega, by omega⟩
  · refine Tr.iconst (pc := 14) d_X3_isFull_14 (by decide) ?_
    refine Tr.goto (pc := 15) (tgt := 19) d_X3_isFull_15 rfl ?_
    exact Tr.zret (pc := 19) d_X3_isFull_19 rfl (by omega) ⟨hS, _, rfl, by omega, by omega⟩

def ws_X3_name_7_w2 : List (Int × Int) := [(8, 0)]
def as_X3_name_7_w2 : List Int := [14]
def q_X3_name_7_w2 (M0 M' : Mem) (r : Option PV) : Prop := St Tru ws_X3_name_7_w2 as_X3_name_7_w2 M0 M' ∧ r = none
set_option maxRecDepth 100000 in
set_option maxHeartbeats 4000000 in
theorem sp_X3_name_7_w2 {l : Launch} {K : EC} {M0 : Mem} {xq : Int} (hI : In Tru M0) (hE : e_all K xq)  (a1 : Int) (ha1 : 0 ≤ a1 ∧ a1 ≤ 0) (a2 : Int) (ha2 : (-2147483648) ≤ a2 ∧ a2 ≤ 2147483647)  : Tr l K 0 mX3_name 0 [(0, (2, 7)), (1, (0, a1)), (2, (0, a2))] [] M0 (q_X3_name_7_w2 M0) := by
  have hS : St Tru ws_X3_name_7_w2 as_X3_name_7_w2 M0 M0 := St.rf hI
  refine Tr.aload_n (pc := 0) (i := 0) d_X3_name_0 rfl rfl ?_
  refine Tr.getf (pc := 1) d_X3_name_1 f_3_11 (by decide) (by decide) (ty_7 hS.1.1) ?_
  refine Tr.tp 8 (fx_7_4 hS.1.1) ?_
  refine Tr.iload_n (pc := 4) (i := 1) d_X3_name_4 rfl rfl ?_
  refine Tr.tp 0 (by omega) ?_
  refine Tr.iald (pc := 5) d_X3_name_5 (ty_8 hS.1.1) (by omega) (by omega) ?_
  refine Tr.gen (P := fun v => 0 ≤ v ∧ v ≤ 6) (ir_8_0 hS.1.2.1) (fun r5 er5 br5 => ?_)
  refine Tr.gets (pc := 6) d_X3_name_6 sl_3_62 hE.2.2.2.1 ?_
  refine Tr.iload_n (pc := 9) (i := 1) d_X3_name_9 rfl rfl ?_
  refine Tr.tp 0 (by omega) ?_
  refine Tr.xld (pc := 10) (i := 1) d_X3_name_10 rfl hE.1 (by omega) (by omega) ?_
  refine Tr.tp 6 (by decide) ?_
  refine Tr.icmp_ge (pc := 11) (tgt := 42) d_X3_name_11 rfl (fun c11 => ?_) (fun c11 => ?_)
  · exact Tr.vret (pc := 42) d_X3_name_42 rfl ⟨hS, rfl⟩
  · refine Tr.aload_n (pc := 14) (i := 0) d_X3_name_14 rfl rfl ?_
    refine Tr.getf (pc := 15) d_X3_name_15 f_3_30 (by decide) (by decide) (ty_7 hS.1.1) ?_
    refine Tr.tp 14 (fx_7_10 hS.1.1) ?_
    refine Tr.gets (pc := 18) d_X3_name_18 sl_3_65 hE.2.2.2.2.1 ?_
    refine Tr.iload_n (pc := 21) (i := 1) d_X3_name_21 rfl rfl ?_
    refine Tr.tp 0 (by omega) ?_
    refine Tr.xld (pc := 22) (i := 2) d_X3_name_22 rfl hE.2.1 (by omega) (by omega) ?_
    refine Tr.tp 0 (by decide) ?_
    refine Tr.aload_n (pc := 23) (i := 0) d_X3_name_23 rfl rfl ?_
    refine Tr.getf (pc := 24) d_X3_name_24 f_3_11 (by decide) (by decide) (ty_7 hS.1.1) ?_
    refine Tr.tp 8 (fx_7_4 hS.1.1) ?_
    refine Tr.iload_n (pc := 27) (i := 1) d_X3_name_27 rfl rfl ?_
    refine Tr.tp 0 (by omega) ?_
    refine Tr.iald (pc := 28) d_X3_name_28 (ty_8 hS.1.1) (by omega) (by omega) ?_
    refine Tr.tp r5 er5 ?_
    refine Tr.iadd (pc := 29) d_X3_name_29 ?_
    refine Tr.tp r5 ((w32_id (by omega)).trans (by omega)) ?_
    refine Tr.iload_n (pc := 30) (i := 2) d_X3_name_30 rfl rfl ?_
    refine Tr.iastS (pc := 31) (P := St Tru ws_X3_name_7_w2 as_X3_name_7_w2 M0) d_X3_name_31 (ty_14 hS.1.1) (by omega) (by omega) (sa_14 hS (by decide) (by omega) trivial) (fun M31 hS w31 => ?_)
    refine Tr.aload_n (pc := 32) (i := 0) d_X3_name_32 rfl rfl ?_
    refine Tr.getf (pc := 33) d_X3_name_33 f_3_11 (by decide) (by decide) (ty_7 hS.1.1) ?_
    refine Tr.tp 8 (fx_7_4 hS.1.1) ?_
    refine Tr.iload_n (pc := 36) (i := 1) d_X3_name_36 rfl rfl ?_
    refine Tr.tp 0 (by omega) ?_
    refine Tr.dup2 (pc := 37) d_X3_name_37 ne01 ne21 ?_
    refine Tr.iald (pc := 38) d_X3_name_38 (ty_8 hS.1.1) (by omega) (by omega) ?_
    refine Tr.tp r5 ((Wr.b w31 rfl).trans er5) ?_
    refine Tr.iconst (pc := 39) d_X3_name_39 (by decide) ?_
    refine Tr.iadd (pc := 40) d_X3_name_40 ?_
    refine Tr.tp (r5 + 1) ((w32_id (by omega)).trans (by omega)) ?_
    refine Tr.iastS (pc := 41) (P := St Tru ws_X3_name_7_w2 as_X3_name_7_w2 M0) d_X3_name_41 (ty_8 hS.1.1) (by omega) (by omega) (st_8_0 hS (by decide) (by omega) trivial) (fun M41 hS w41 => ?_)
    exact Tr.vret (pc := 42) d_X3_name_42 rfl ⟨hS, rfl⟩

def ws_X5_beginNamed_6_w5 : List (Int × Int) := [(6, 0), (6, 1), (6, 5), (8, 0)]
def as_X5_beginNamed_6_w5 : List Int := [14]
def q_X5_beginNamed_6_w5 (M0 M' : Mem) (r : Option PV) : Prop := St Tru ws_X5_beginNamed_6_w5 as_X5_beginNamed_6_w5 M0 M' ∧ ∃ v : Int, r = some (0, v) ∧ 0 ≤ v ∧ v ≤ 1
set_option maxRecDepth 100000 in
set_option maxHeartbeats 4000000 in
theorem sp_X5_beginNamed_6_w5 {l : Launch} {K : EC} {M0 : Mem} {xq : Int} (hI : In Tru M0) (hE : e_all K xq) (en_6_2 : rd M0 6 2 = 2) (en_6_3 : rd M0 6 3 = 7) (a1 : Int) (ha1 : 0 ≤ a1 ∧ a1 ≤ 0)  : Tr l K 1 mX5_beginNamed 0 [(0, (2, 6)), (1, (0, a1))] [] M0 (q_X5_beginNamed_6_w5 M0) := by
  have hS : St Tru ws_X5_beginNamed_6_w5 as_X5_beginNamed_6_w5 M0 M0 := St.rf hI
  refine Tr.aload_n (pc := 0) (i := 0) d_X5_beginNamed_0 rfl rfl ?_
  refine Tr.getf (pc := 1) d_X5_beginNamed_1 f_5_22 (by decide) (by decide) (ty_6 hS.1.1) ?_
  refine Tr.tp 7 ((St.kp hS (by decide) (by decide) (by decide)).trans en_6_3) ?_
  refine Tr.iload_n (pc := 4) (i := 1) d_X5_beginNamed_4 rfl rfl ?_
  refine Tr.tp 0 (by omega) ?_
  refine Tr.callV (pc := 5) (as := [_]) d_X5_beginNamed_5 s_5_126 ok_X3_isFull rfl rfl (Nat.le_of_ble_eq_true rfl) (Nat.le_of_ble_eq_true rfl) (by decide) (ty_7 hS.1.1) ?_
  refine Tr.imp (Tr.deep (by decide) (sp_X3_isFull_7_w2 hS.1 hE 0 (by omega))) ?_
  rintro M5 _ ⟨h5, r5, rfl, lr5, ur5⟩
  have hS := St.tr hS h5 (by decide) (by decide)
  refine Tr.sc [(0, r5)] rfl ?_
  refine Tr.if_eq (pc := 8) (tgt := 17) d_X5_beginNamed_8 rfl (fun c8 => ?_) (fun c8 => ?_)
  · refine Tr.aload_n (pc := 17) (i := 0) d_X5_beginNamed_17 rfl rfl ?_
    refine Tr.callV (pc := 18) (as := []) d_X5_beginNamed_18 s_5_74 ok_X5_goOn rfl rfl (Nat.le_of_ble_eq_true rfl) (Nat.le_of_ble_eq_true rfl) (by decide) (ty_6 hS.1.1) ?_
    refine Tr.imp (Tr.deep (by decide) (sp_X5_goOn_6 hS.1 )) ?_
    rintro M18 _ ⟨h18, r18, rfl, lr18, ur18⟩
    have hS := St.tr hS h18 (by decide) (by decide)
    refine Tr.sc [(0, r18)] rfl ?_
    refine Tr.pop (pc := 21) d_X5_beginNamed_21 ne01 ?_
    refine Tr.aload_n (pc := 22) (i := 0) d_X5_beginNamed_22 rfl rfl ?_
    refine Tr.getf (pc := 23) d_X5_beginNamed_23 f_5_18 (by decide) (by decide) (ty_6 hS.1.1) ?_
    refine Tr.tp 2 ((St.kp hS (by decide) (by decide) (by decide)).trans en_6_2) ?_
    refine Tr.getf (pc := 26) d_X5_beginNamed_26 f_5_50 (by decide) (by decide) (ty_2 hS.1.1) ?_
    refine Tr.tp 3 (fx_2_0 hS.1.1) ?_
    refine Tr.aload_n (pc := 29) (i := 0) d_X5_beginNamed_29 rfl rfl ?_
    refine Tr.getf (pc := 30) d_X5_beginNamed_30 f_5_36 (by decide) (by decide) (ty_6 hS.1.1) ?_
    refine Tr.gen (P := fun v => 0 ≤ v ∧ v ≤ 900) (ir_6_5 hS.1.2.1) (fun r30 er30 br30 => ?_)
    refine Tr.iald (pc := 33) d_X5_beginNamed_33 (ty_3 hS.1.1) (by omega) (by omega) ?_
    refine Tr.gen (P := fun v => (-2147483648) ≤ v ∧ v ≤ 2147483647) (ar_3 hS.1.2.1 _) (fun r33 er33 br33 => ?_)
    refine Tr.iconst (pc := 34) d_X5_beginNamed_34 (by decide) ?_
    refine Tr.icmp_eq (pc := 35) (tgt := 44) d_X5_beginNamed_35 rfl (fun c35 => ?_) (fun c35 => ?_)
    · refine Tr.aload_n (pc := 44) (i := 0) d_X5_beginNamed_44 rfl rfl ?_
      refine Tr.getf (pc := 45) d_X5_beginNamed_45 f_5_22 (by decide) (by decide) (ty_6 hS.1.1) ?_
      refine Tr.tp 7 ((St.kp hS (by decide) (by decide) (by decide)).trans en_6_3) ?_
      refine Tr.aload_n (pc := 48) (i := 0) d_X5_beginNamed_48 rfl rfl ?_
      refine Tr.getf (pc := 49) d_X5_beginNamed_49 f_5_18 (by decide) (by decide) (ty_6 hS.1.1) ?_
      refine Tr.tp 2 ((St.kp hS (by decide) (by decide) (by decide)).trans en_6_2) ?_
      refine Tr.getf (pc := 52) d_X5_beginNamed_52 f_5_68 (by decide) (by decide) (ty_2 hS.1.1) ?_
      refine Tr.tp 5 (fx_2_2 hS.1.1) ?_
      refine Tr.aload_n (pc := 55) (i := 0) d_X5_beginNamed_55 rfl rfl ?_
      refine Tr.getf (pc := 56) d_X5_beginNamed_56 f_5_36 (by decide) (by decide) (ty_6 hS.1.1) ?_
      refine Tr.tp r30 er30 ?_
      refine Tr.iald (pc := 59) d_X5_beginNamed_59 (ty_5 hS.1.1) (by omega) (by omega) ?_
      refine Tr.gen (P := fun v => (-2147483648) ≤ v ∧ v ≤ 2147483647) (ar_5 hS.1.2.1 _) (fun r59 er59 br59 => ?_)
      refine Tr.callV (pc := 60) (as := [_]) d_X5_beginNamed_60 s_5_91 ok_X3_find rfl rfl (Nat.le_of_ble_eq_true rfl) (Nat.le_of_ble_eq_true rfl) (by decide) (ty_7 hS.1.1) ?_
      refine Tr.imp (Tr.deep (by decide) (sp_X3_find_7 hS.1 r59 (by omega))) ?_
      rintro M60 _ ⟨h60, r60, rfl, lr60, ur60⟩
      have hS := St.tr hS h60 (by decide) (by decide)
      refine Tr.sc [(0, r60)] rfl ?_
      refine Tr.if_lt (pc := 63) (tgt := 72) d_X5_beginNamed_63 rfl (fun c63 => ?_) (fun c63 => ?_)
      · refine Tr.aload_n (pc := 72) (i := 0) d_X5_beginNamed_72 rfl rfl ?_
        refine Tr.getf (pc := 73) d_X5_beginNamed_73 f_5_22 (by decide) (by decide) (ty_6 hS.1.1) ?_
        refine Tr.tp 7 ((St.kp hS (by decide) (by decide) (by decide)).trans en_6_3) ?_
        refine Tr.iload_n (pc := 76) (i := 1) d_X5_beginNamed_76 rfl rfl ?_
        refine Tr.tp 0 (by omega) ?_
        refine Tr.aload_n (pc := 77) (i := 0) d_X5_beginNamed_77 rfl rfl ?_
        refine Tr.getf (pc := 78) d_X5_beginNamed_78 f_5_18 (by decide) (by decide) (ty_6 hS.1.1) ?_
        refine Tr.tp 2 ((St.kp hS (by decide) (by decide) (by decide)).trans en_6_2) ?_
        refine Tr.getf (pc := 81) d_X5_beginNamed_81 f_5_68 (by decide) (by decide) (ty_2 hS.1.1) ?_
        refine Tr.tp 5 (fx_2_2 hS.1.1) ?_
        refine Tr.aload_n (pc := 84) (i := 0) d_X5_beginNamed_84 rfl rfl ?_
        refine Tr.getf (pc := 85) d_X5_beginNamed_85 f_5_36 (by decide) (by decide) (ty_6 hS.1.1) ?_
        refine Tr.tp r30 ((St.kp h60 (by decide) (by decide) (by decide)).trans er30) ?_
        refine Tr.iald (pc := 88) d_X5_beginNamed_88 (ty_5 hS.1.1) (by omega) (by omega) ?_
        refine Tr.tp r59 ((St.ka h60 (by decide) (by decide) (by decide)).trans er59) ?_
        refine Tr.callV (pc := 89) (as := [_, _]) d_X5_beginNamed_89 s_5_129 ok_X3_name rfl rfl (Nat.le_of_ble_eq_true rfl) (Nat.le_of_ble_eq_true rfl) (by decide) (ty_7 hS.1.1) ?_
        refine Tr.imp (Tr.deep (by decide) (sp_X3_name_7_w2 hS.1 hE 0 (by omega) r59 (by omega))) ?_
        rintro M89 _ ⟨h89, rfl⟩
        have hS := St.tr hS h89 (by decide) (by decide)
        refine Tr.sc [] rfl ?_
        refine Tr.aload_n (pc := 92) (i := 0) d_X5_beginNamed_92 rfl rfl ?_
        refine Tr.callV (pc := 93) (as := []) d_X5_beginNamed_93 s_5_74 ok_X5_goOn rfl rfl (Nat.le_of_ble_eq_true rfl) (Nat.le_of_ble_eq_true rfl) (by decide) (ty_6 hS.1.1) ?_
        refine Tr.imp (Tr.deep (by decide) (sp_X5_goOn_6 hS.1 )) ?_
        rintro M93 _ ⟨h93, r93, rfl, lr93, ur93⟩
        have hS := St.tr hS h93 (by decide) (by decide)
        refine Tr.sc [(0, r93)] rfl ?_
        exact Tr.zret (pc := 96) d_X5_beginNamed_96 rfl (by omega) ⟨hS, _, rfl, by omega, by omega⟩
      · refine Tr.aload_n (pc := 66) (i := 0) d_X5_beginNamed_66 rfl rfl ?_
        refine Tr.iconst (pc := 67) d_X5_beginNamed_67 (by decide) ?_
        refine Tr.callV (pc := 68) (as := [_]) d_X5_beginNamed_68 s_5_56 ok_X5_refuse rfl rfl (Nat.le_of_ble_eq_true rfl) (Nat.le_of_ble_eq_true rfl) (by decide) (ty_6 hS.1.1) ?_
        refine Tr.imp (Tr.deep (by decide) (sp_X5_refuse_6 hS.1 ((St.kp hS (by decide) (by decide) (by decide)).trans en_6_2) 2 (by omega))) ?_
        rintro M68 _ ⟨h68, r68, rfl, lr68, ur68⟩
        have hS := St.tr hS h68 (by decide) (by decide)
        refine Tr.sc [(0, r68)] rfl ?_
        exact Tr.zret (pc := 71) d_X5_beginNamed_71 rfl (by omega) ⟨hS, _, rfl, by omega, by omega⟩
    · refine Tr.aload_n (pc := 38) (i := 0) d_X5_beginNamed_38 rfl rfl ?_
      refine Tr.iconst (pc := 39) d_X5_beginNamed_39 (by decide) ?_
      refine Tr.callV (pc := 40) (as := [_]) d_X5_beginNamed_40 s_5_56 ok_X5_refuse rfl rfl (Nat.le_of_ble_eq_true rfl) (Nat.le_of_ble_eq_true rfl) (by decide) (ty_6 hS.1.1) ?_
      refine Tr.imp (Tr.deep (by decide) (sp_X5_refuse_6_w1 hS.1 ((St.kp hS (by decide) (by decide) (by decide)).trans en_6_2) 1 (by omega))) ?_
      rintro M40 _ ⟨h40, r40, rfl, lr40, ur40⟩
      have hS := St.tr hS h40 (by decide) (by decide)
      refine Tr.sc [(0, r40)] rfl ?_
      exact Tr.zret (pc := 43) d_X5_beginNamed_43 rfl (by omega) ⟨hS, _, rfl, by omega, by omega⟩
  · refine Tr.aload_n (pc := 11) (i := 0) d_X5_beginNamed_11 rfl rfl ?_
    refine Tr.iconst (pc := 12) d_X5_beginNamed_12 (by decide) ?_
    refine Tr.callV (pc := 13) (as := [_]) d_X5_beginNamed_13 s_5_56 ok_X5_refuse rfl rfl (Nat.le_of_ble_eq_true rfl) (Nat.le_of_ble_eq_true rfl) (by decide) (ty_6 hS.1.1) ?_
    refine Tr.imp (Tr.deep (by decide) (sp_X5_refuse_6_w2 hS.1 ((St.kp hS (by decide) (by decide) (by decide)).trans en_6_2) 5 (by omega))) ?_
    rintro M13 _ ⟨h13, r13, rfl, lr13, ur13⟩
    have hS := St.tr hS h13 (by decide) (by decide)
    refine Tr.sc [(0, r13)] rfl ?_
    exact Tr.zret (pc := 16) d_X5_beginNamed_16 rfl (by omega) ⟨hS, _, rfl, by omega, by omega⟩

def ws_X5_part_6_w1 : List (Int × Int) := [(6, 0), (6, 1), (6, 5), (8, 0)]
def as_X5_part_6_w1 : List Int := [9, 10, 11, 14]
def q_X5_part_6_w1 (M0 M' : Mem) (r : Option PV) : Prop := St Tru ws_X5_part_6_w1 as_X5_part_6_w1 M0 M' ∧ ∃ v : Int, r = some (0, v) ∧ 0 ≤ v ∧ v ≤ 1
set_option maxRecDepth 100000 in
set_option maxHeartbeats 4000000 in
theorem sp_X5_part_6_w1 {l : Launch} {K : EC} {M0 : Mem} {xq : Int} (hI : In Tru M0) (hE : e_all K xq) (en_6_2 : rd M0 6 2 = 2) (en_6_3 : rd M0 6 3 = 7)   : Tr l K 3 mX5_part 0 [(0, (2, 6))] [] M0 (q_X5_part_6_w1 M0) := by
  have hS : St Tru ws_X5_part_6_w1 as_X5_part_6_w1 M0 M0 := St.rf hI
  refine Tr.aload_n (pc := 0) (i := 0) d_X5_part_0 rfl rfl ?_
  refine Tr.getf (pc := 1) d_X5_part_1 f_5_22 (by decide) (by decide) (ty_6 hS.1.1) ?_
  refine Tr.tp 7 ((St.kp hS (by decide) (by decide) (by decide)).trans en_6_3) ?_
  refine Tr.getf (pc := 4) d_X5_part_4 f_5_133 (by decide) (by decide) (ty_7 hS.1.1) ?_
  refine Tr.tp 8 (fx_7_4 hS.1.1) ?_
  refine Tr.iconst (pc := 7) d_X5_part_7 (by decide) ?_
  refine Tr.iald (pc := 8) d_X5_part_8 (ty_8 hS.1.1) (by omega) (by omega) ?_
  refine Tr.gen (P := fun v => 0 ≤ v ∧ v ≤ 6) (ir_8_0 hS.1.2.1) (fun r8 er8 br8 => ?_)
  refine Tr.istore_n (pc := 9) (i := 1) (ls2 := [(1, (0, r8)), (0, (2, 6))]) d_X5_part_9 rfl (by decide) rfl ?_
  refine Tr.aload_n (pc := 10) (i := 0) d_X5_part_10 rfl rfl ?_
  refine Tr.iconst (pc := 11) d_X5_part_11 (by decide) ?_
  refine Tr.callV (pc := 12) (as := [_]) d_X5_part_12 s_5_112 ok_X5_beginNamed rfl rfl (Nat.le_of_ble_eq_true rfl) (Nat.le_of_ble_eq_true rfl) (by decide) (ty_6 hS.1.1) ?_
  refine Tr.imp (Tr.deep (by decide) (sp_X5_beginNamed_6_w5 hS.1 hE ((St.kp hS (by decide) (by decide) (by decide)).trans en_6_2) ((St.kp hS (by decide) (by decide) (by decide)).trans en_6_3) 0 (by omega))) ?_
  rintro M12 _ ⟨h12, r12, rfl, lr12, ur12⟩
  have hS := St.tr hS h12 (by decide) (by decide)
  refine Tr.sc [(0, r12)] rfl ?_
  refine Tr.if_eq (pc := 15) (tgt := 24) d_X5_part_15 rfl (fun c15 => ?_) (fun c15 => ?_)
  · refine Tr.iconst (pc := 24) d_X5_part_24 (by decide) ?_
    exact Tr.zret (pc := 25) d_X5_part_25 rfl (by omega) ⟨hS, _, rfl, by omega, by omega⟩
  · refine Tr.iload_n (pc := 18) (i := 1) d_X5_part_18 rfl rfl ?_
    refine Tr.bipush (pc := 19) d_X5_part_19 rfl (by decide) ?_
    refine Tr.icmp_lt (pc := 21) (tgt := 26) d_X5_part_21 rfl (fun c21 => ?_) (fun c21 => ?_)
    · refine Tr.aload_n (pc := 26) (i := 0) d_X5_part_26 rfl rfl ?_
      refine Tr.bipush (pc := 27) d_X5_part_27 rfl (by decide) ?_
      refine Tr.sipush (pc := 29) d_X5_part_29 rfl (by decide) ?_
      refine Tr.callV (pc := 32) (as := [_, _]) d_X5_part_32 s_5_136 ok_X5_takeTold rfl rfl (Nat.le_of_ble_eq_true rfl) (Nat.le_of_ble_eq_true rfl) (by decide) (ty_6 hS.1.1) ?_
      refine Tr.imp (Tr.deep (by decide) (sp_X5_takeTold_6 hS.1 ((St.kp hS (by decide) (by decide) (by decide)).trans en_6_2) 14 (by omega) 999 (by omega))) ?_
      rintro M32 _ ⟨h32, r32, rfl, lr32, ur32⟩
      have hS := St.tr hS h32 (by decide) (by decide)
      refine Tr.sc [(0, r32)] rfl ?_
      refine Tr.istore_n (pc := 35) (i := 2) (ls2 := [(2, (0, r32)), (1, (0, r8)), (0, (2, 6))]) d_X5_part_35 rfl (by decide) rfl ?_
      refine Tr.iload_n (pc := 36) (i := 2) d_X5_part_36 rfl rfl ?_
      have J52 : ∀ (M : Mem) (q52_0 : Int), St Tru ws_X5_part_6_w1 as_X5_part_6_w1 M0 M → ((-1) ≤ q52_0 ∧ q52_0 ≤ 20) → Tr l K 3 mX5_part 52 [(0, (2, 6)), (1, (0, r8)), (2, (0, r32))] [(0, q52_0)] M (q_X5_part_6_w1 M0) := by
        intro M q52_0 hS bq52_0 
        refine Tr.istore_n (pc := 52) (i := 3) (ls2 := [(3, (0, q52_0)), (0, (2, 6)), (1, (0, r8)), (2, (0, r32))]) d_X5_part_52 rfl (by decide) rfl ?_
        refine Tr.iload_n (pc := 53) (i := 3) d_X5_part_53 rfl rfl ?_
        have J69 : ∀ (M : Mem) (q69_0 : Int), St Tru ws_X5_part_6_w1 as_X5_part_6_w1 M0 M → ((-1) ≤ q69_0 ∧ q69_0 ≤ 999) → Tr l K 3 mX5_part 69 [(0, (2, 6)), (1, (0, r8)), (2, (0, r32)), (3, (0, q52_0))] [(0, q69_0)] M (q_X5_part_6_w1 M0) := by
          intro M q69_0 hS bq69_0 
          refine Tr.istore (pc := 69) (i := 4) (ls2 := [(4, (0, q69_0)), (0, (2, 6)), (1, (0, r8)), (2, (0, r32)), (3, (0, q52_0))]) d_X5_part_69 (by decide) rfl ?_
          refine Tr.iload (pc := 71) (i := 4) d_X5_part_71 rfl ?_
          have J89 : ∀ (M : Mem) (q89_0 : Int), St Tru ws_X5_part_6_w1 as_X5_part_6_w1 M0 M → ((-1) ≤ q89_0 ∧ q89_0 ≤ 999) → Tr l K 3 mX5_part 89 [(0, (2, 6)), (1, (0, r8)), (2, (0, r32)), (3, (0, q52_0)), (4, (0, q69_0))] [(0, q89_0)] M (q_X5_part_6_w1 M0) := by
            intro M q89_0 hS bq89_0 
            refine Tr.istore (pc := 89) (i := 5) (ls2 := [(5, (0, q89_0)), (0, (2, 6)), (1, (0, r8)), (2, (0, r32)), (3, (0, q52_0)), (4, (0, q69_0))]) d_X5_part_89 (by decide) rfl ?_
            refine Tr.iload (pc := 91) (i := 5) d_X5_part_91 rfl ?_
            have J109 : ∀ (M : Mem) (q109_0 : Int), St Tru ws_X5_part_6_w1 as_X5_part_6_w1 M0 M → ((-1) ≤ q109_0 ∧ q109_0 ≤ 999) → Tr l K 3 mX5_part 109 [(0, (2, 6)), (1, (0, r8)), (2, (0, r32)), (3, (0, q52_0)), (4, (0, q69_0)), (5, (0, q89_0))] [(0, q109_0)] M (q_X5_part_6_w1 M0) := by
              intro M q109_0 hS bq109_0 
              refine Tr.istore (pc := 109) (i := 6) (ls2 := [(6, (0, q109_0)), (0, (2, 6)), (1, (0, r8)), (2, (0, r32)), (3, (0, q52_0)), (4, (0, q69_0)), (5, (0, q89_0))]) d_X5_part_109 (by decide) rfl ?_
              refine Tr.iload (pc := 111) (i := 6) d_X5_part_111 rfl ?_
              have J128 : ∀ (M : Mem) (q128_0 : Int), St Tru ws_X5_part_6_w1 as_X5_part_6_w1 M0 M → ((-1) ≤ q128_0 ∧ q128_0 ≤ 50) → Tr l K 3 mX5_part 128 [(0, (2, 6)), (1, (0, r8)), (2, (0, r32)), (3, (0, q52_0)), (4, (0, q69_0)), (5, (0, q89_0)), (6, (0, q109_0))] [(0, q128_0)] M (q_X5_part_6_w1 M0) := by
                intro M q128_0 hS bq128_0 
                refine Tr.istore (pc := 128) (i := 7) (ls2 := [(7, (0, q128_0)), (0, (2, 6)), (1, (0, r8)), (2, (0, r32)), (3, (0, q52_0)), (4, (0, q69_0)), (5, (0, q89_0)), (6, (0, q109_0))]) d_X5_part_128 (by decide) rfl ?_
                refine Tr.iload (pc := 130) (i := 7) d_X5_part_130 rfl ?_
                refine Tr.if_lt (pc := 132) (tgt := 144) d_X5_part_132 rfl (fun c132 => ?_) (fun c132 => ?_)
                · refine Tr.iconst (pc := 144) d_X5_part_144 (by decide) ?_
                  exact Tr.zret (pc := 145) d_X5_part_145 rfl (by omega) ⟨hS, _, rfl, by omega, by omega⟩
                · refine Tr.aload_n (pc := 135) (i := 0) d_X5_part_135 rfl rfl ?_
                  refine Tr.bipush (pc := 136) d_X5_part_136 rfl (by decide) ?_
                  refine Tr.callV (pc := 138) (as := [_]) d_X5_part_138 s_5_81 ok_X5_takeSign rfl rfl (Nat.le_of_ble_eq_true rfl) (Nat.le_of_ble_eq_true rfl) (by decide) (ty_6 hS.1.1) ?_
                  refine Tr.imp (Tr.deep (by decide) (sp_X5_takeSign_6 hS.1 ((St.kp hS (by decide) (by decide) (by decide)).trans en_6_2) 59 (by omega))) ?_
                  rintro M138 _ ⟨h138, r138, rfl, lr138, ur138⟩
                  have hS := St.tr hS h138 (by decide) (by decide)
                  refine Tr.sc [(0, r138)] rfl ?_
                  refine Tr.if_ne (pc := 141) (tgt := 146) d_X5_part_141 rfl (fun c141 => ?_) (fun c141 => ?_)
                  · refine Tr.aload_n (pc := 146) (i := 0) d_X5_part_146 rfl rfl ?_
                    refine Tr.getf (pc := 147) d_X5_part_147 f_5_22 (by decide) (by decide) (ty_6 hS.1.1) ?_
                    refine Tr.tp 7 ((St.kp hS (by decide) (by decide) (by decide)).trans en_6_3) ?_
                    refine Tr.getf (pc := 150) d_X5_part_150 f_5_139 (by decide) (by decide) (ty_7 hS.1.1) ?_
                    refine Tr.tp 9 (fx_7_5 hS.1.1) ?_
                    refine Tr.iload_n (pc := 153) (i := 1) d_X5_part_153 rfl rfl ?_
                    refine Tr.iconst (pc := 154) d_X5_part_154 (by decide) ?_
                    refine Tr.imul (pc := 155) d_X5_part_155 ?_
                    refine Tr.tp (4 * r8) ((w32_id (by omega)).trans (by omega)) ?_
                    refine Tr.iconst (pc := 156) d_X5_part_156 (by decide) ?_
                    refine Tr.iadd (pc := 157) d_X5_part_157 ?_
                    refine Tr.tp (4 * r8) ((w32_id (by omega)).trans (by omega)) ?_
                    refine Tr.iload_n (pc := 158) (i := 2) d_X5_part_158 rfl rfl ?_
                    refine Tr.iastS (pc := 159) (P := St Tru ws_X5_part_6_w1 as_X5_part_6_w1 M0) d_X5_part_159 (ty_9 hS.1.1) (by omega) (by omega) (sa_9 hS (by decide) (by omega) trivial) (fun M159 hS w159 => ?_)
                    refine Tr.aload_n (pc := 160) (i := 0) d_X5_part_160 rfl rfl ?_
                    refine Tr.getf (pc := 161) d_X5_part_161 f_5_22 (by decide) (by decide) (ty_6 hS.1.1) ?_
                    refine Tr.tp 7 ((St.kp hS (by decide) (by decide) (by decide)).trans en_6_3) ?_
                    refine Tr.getf (pc := 164) d_X5_part_164 f_5_139 (by decide) (by decide) (ty_7 hS.1.1) ?_
                    refine Tr.tp 9 (fx_7_5 hS.1.1) ?_
                    refine Tr.iload_n (pc := 167) (i := 1) d_X5_part_167 rfl rfl ?_
                    refine Tr.iconst (pc := 168) d_X5_part_168 (by decide) ?_
                    refine Tr.imul (pc := 169) d_X5_part_169 ?_
                    refine Tr.tp (4 * r8) ((w32_id (by omega)).trans (by omega)) ?_
                    refine Tr.iconst (pc := 170) d_X5_part_170 (by decide) ?_
                    refine Tr.iadd (pc := 171) d_X5_part_171 ?_
                    refine Tr.tp (4 * r8 + 1) ((w32_id (by omega)).trans (by omega)) ?_
                    refine Tr.iload (pc := 172) (i := 4) d_X5_part_172 rfl ?_
                    refine Tr.iastS (pc := 174) (P := St Tru ws_X5_part_6_w1 as_X5_part_6_w1 M0) d_X5_part_174 (ty_9 hS.1.1) (by omega) (by omega) (sa_9 hS (by decide) (by omega) trivial) (fun M174 hS w174 => ?_)
                    refine Tr.aload_n (pc := 175) (i := 0) d_X5_part_175 rfl rfl ?_
                    refine Tr.getf (pc := 176) d_X5_part_176 f_5_22 (by decide) (by decide) (ty_6 hS.1.1) ?_
                    refine Tr.tp 7 ((St.kp hS (by decide) (by decide) (by decide)).trans en_6_3) ?_
                    refine Tr.getf (pc := 179) d_X5_part_179 f_5_139 (by decide) (by decide) (ty_7 hS.1.1) ?_
                    refine Tr.tp 9 (fx_7_5 hS.1.1) ?_
                    refine Tr.iload_n (pc := 182) (i := 1) d_X5_part_182 rfl rfl ?_
                    refine Tr.iconst (pc := 183) d_X5_part_183 (by decide) ?_
                    refine Tr.imul (pc := 184) d_X5_part_184 ?_
                    refine Tr.tp (4 * r8) ((w32_id (by omega)).trans (by omega)) ?_
                    refine Tr.iconst (pc := 185) d_X5_part_185 (by decide) ?_
                    refine Tr.iadd (pc := 186) d_X5_part_186 ?_
                    refine Tr.tp (4 * r8 + 2) ((w32_id (by omega)).trans (by omega)) ?_
                    refine Tr.iload (pc := 187) (i := 5) d_X5_part_187 rfl ?_
                    refine Tr.iastS (pc := 189) (P := St Tru ws_X5_part_6_w1 as_X5_part_6_w1 M0) d_X5_part_189 (ty_9 hS.1.1) (by omega) (by omega) (sa_9 hS (by decide) (by omega) trivial) (fun M189 hS w189 => ?_)
                    refine Tr.aload_n (pc := 190) (i := 0) d_X5_part_190 rfl rfl ?_
                    refine Tr.getf (pc := 191) d_X5_part_191 f_5_22 (by decide) (by decide) (ty_6 hS.1.1) ?_
                    refine Tr.tp 7 ((St.kp hS (by decide) (by decide) (by decide)).trans en_6_3) ?_
                    refine Tr.getf (pc := 194) d_X5_part_194 f_5_139 (by decide) (by decide) (ty_7 hS.1.1) ?_
                    refine Tr.tp 9 (fx_7_5 hS.1.1) ?_
                    refine Tr.iload_n (pc := 197) (i := 1) d_X5_part_197 rfl rfl ?_
                    refine Tr.iconst (pc := 198) d_X5_part_198 (by decide) ?_
                    refine Tr.imul (pc := 199) d_X5_part_199 ?_
                    refine Tr.tp (4 * r8) ((w32_id (by omega)).trans (by omega)) ?_
                    refine Tr.iconst (pc := 200) d_X5_part_200 (by decide) ?_
                    refine Tr.iadd (pc := 201) d_X5_part_201 ?_
                    refine Tr.tp (4 * r8 + 3) ((w32_id (by omega)).trans (by omega)) ?_
                    refine Tr.iload (pc := 202) (i := 6) d_X5_part_202 rfl ?_
                    refine Tr.iastS (pc := 204) (P := St Tru ws_X5_part_6_w1 as_X5_part_6_w1 M0) d_X5_part_204 (ty_9 hS.1.1) (by omega) (by omega) (sa_9 hS (by decide) (by omega) trivial) (fun M204 hS w204 => ?_)
                    refine Tr.aload_n (pc := 205) (i := 0) d_X5_part_205 rfl rfl ?_
                    refine Tr.getf (pc := 206) d_X5_part_206 f_5_22 (by decide) (by decide) (ty_6 hS.1.1) ?_
                    refine Tr.tp 7 ((St.kp hS (by decide) (by decide) (by decide)).trans en_6_3) ?_
                    refine Tr.getf (pc := 209) d_X5_part_209 f_5_142 (by decide) (by decide) (ty_7 hS.1.1) ?_
                    refine Tr.tp 10 (fx_7_6 hS.1.1) ?_
                    refine Tr.iload_n (pc := 212) (i := 1) d_X5_part_212 rfl rfl ?_
                    refine Tr.iload_n (pc := 213) (i := 3) d_X5_part_213 rfl rfl ?_
                    refine Tr.iastS (pc := 214) (P := St Tru ws_X5_part_6_w1 as_X5_part_6_w1 M0) d_X5_part_214 (ty_10 hS.1.1) (by omega) (by omega) (sa_10 hS (by decide) (by omega) trivial) (fun M214 hS w214 => ?_)
                    refine Tr.aload_n (pc := 215) (i := 0) d_X5_part_215 rfl rfl ?_
                    refine Tr.getf (pc := 216) d_X5_part_216 f_5_22 (by decide) (by decide) (ty_6 hS.1.1) ?_
                    refine Tr.tp 7 ((St.kp hS (by decide) (by decide) (by decide)).trans en_6_3) ?_
                    refine Tr.getf (pc := 219) d_X5_part_219 f_5_145 (by decide) (by decide) (ty_7 hS.1.1) ?_
                    refine Tr.tp 11 (fx_7_7 hS.1.1) ?_
                    refine Tr.iload_n (pc := 222) (i := 1) d_X5_part_222 rfl rfl ?_
                    refine Tr.iload (pc := 223) (i := 7) d_X5_part_223 rfl ?_
                    refine Tr.iastS (pc := 225) (P := St Tru ws_X5_part_6_w1 as_X5_part_6_w1 M0) d_X5_part_225 (ty_11 hS.1.1) (by omega) (by omega) (sa_11 hS (by decide) (by omega) trivial) (fun M225 hS w225 => ?_)
                    refine Tr.iconst (pc := 226) d_X5_part_226 (by decide) ?_
                    exact Tr.zret (pc := 227) d_X5_part_227 rfl (by omega) ⟨hS, _, rfl, by omega, by omega⟩
                  · refine Tr.iconst (pc := 144) d_X5_part_144 (by decide) ?_
                    exact Tr.zret (pc := 145) d_X5_part_145 rfl (by omega) ⟨hS, _, rfl, by omega, by omega⟩
              refine Tr.if_ge (pc := 113) (tgt := 120) d_X5_part_113 rfl (fun c113 => ?_) (fun c113 => ?_)
              · refine Tr.aload_n (pc := 120) (i := 0) d_X5_part_120 rfl rfl ?_
                refine Tr.bipush (pc := 121) d_X5_part_121 rfl (by decide) ?_
                refine Tr.bipush (pc := 123) d_X5_part_123 rfl (by decide) ?_
                refine Tr.callV (pc := 125) (as := [_, _]) d_X5_part_125 s_5_136 ok_X5_takeTold rfl rfl (Nat.le_of_ble_eq_true rfl) (Nat.le_of_ble_eq_true rfl) (by decide) (ty_6 hS.1.1) ?_
                refine Tr.imp (Tr.deep (by decide) (sp_X5_takeTold_6_w4 hS.1 ((St.kp hS (by decide) (by decide) (by decide)).trans en_6_2) 18 (by omega) 50 (by omega))) ?_
                rintro M125 _ ⟨h125, r125, rfl, lr125, ur125⟩
                have hS := St.tr hS h125 (by decide) (by decide)
                refine Tr.sc [(0, r125)] rfl ?_
                refine Tr.pick [1, 2, 3, 4, 5, 6, 0] (ls2 := [(0, (2, 6)), (1, (0, r8)), (2, (0, r32)), (3, (0, q52_0)), (4, (0, q69_0)), (5, (0, q89_0)), (6, (0, q109_0))]) rfl ?_
                exact J128 _ _ hS (by omega)
              · refine Tr.iconst (pc := 116) d_X5_part_116 (by decide) ?_
                refine Tr.goto (pc := 117) (tgt := 128) d_X5_part_117 rfl ?_
                refine Tr.pick [1, 2, 3, 4, 5, 6, 0] (ls2 := [(0, (2, 6)), (1, (0, r8)), (2, (0, r32)), (3, (0, q52_0)), (4, (0, q69_0)), (5, (0, q89_0)), (6, (0, q109_0))]) rfl ?_
                exact J128 _ _ hS (by omega)
            refine Tr.if_ge (pc := 93) (tgt := 100) d_X5_part_93 rfl (fun c93 => ?_) (fun c93 => ?_)
            · refine Tr.aload_n (pc := 100) (i := 0) d_X5_part_100 rfl rfl ?_
              refine Tr.bipush (pc := 101) d_X5_part_101 rfl (by decide) ?_
              refine Tr.sipush (pc := 103) d_X5_part_103 rfl (by decide) ?_
              refine Tr.callV (pc := 106) (as := [_, _]) d_X5_part_106 s_5_136 ok_X5_takeTold rfl rfl (Nat.le_of_ble_eq_true rfl) (Nat.le_of_ble_eq_true rfl) (by decide) (ty_6 hS.1.1) ?_
              refine Tr.imp (Tr.deep (by decide) (sp_X5_takeTold_6_w3 hS.1 ((St.kp hS (by decide) (by decide) (by decide)).trans en_6_2) 17 (by omega) 999 (by omega))) ?_
              rintro M106 _ ⟨h106, r106, rfl, lr106, ur106⟩
              have hS := St.tr hS h106 (by decide) (by decide)
              refine Tr.sc [(0, r106)] rfl ?_
              refine Tr.pick [1, 2, 3, 4, 5, 0] (ls2 := [(0, (2, 6)), (1, (0, r8)), (2, (0, r32)), (3, (0, q52_0)), (4, (0, q69_0)), (5, (0, q89_0))]) rfl ?_
              exact J109 _ _ hS (by omega)
            · refine Tr.iconst (pc := 96) d_X5_part_96 (by decide) ?_
              refine Tr.goto (pc := 97) (tgt := 109) d_X5_part_97 rfl ?_
              refine Tr.pick [1, 2, 3, 4, 5, 0] (ls2 := [(0, (2, 6)), (1, (0, r8)), (2, (0, r32)), (3, (0, q52_0)), (4, (0, q69_0)), (5, (0, q89_0))]) rfl ?_
              exact J109 _ _ hS (by omega)
          refine Tr.if_ge (pc := 73) (tgt := 80) d_X5_part_73 rfl (fun c73 => ?_) (fun c73 => ?_)
          · refine Tr.aload_n (pc := 80) (i := 0) d_X5_part_80 rfl rfl ?_
            refine Tr.bipush (pc := 81) d_X5_part_81 rfl (by decide) ?_
            refine Tr.sipush (pc := 83) d_X5_part_83 rfl (by decide) ?_
            refine Tr.callV (pc := 86) (as := [_, _]) d_X5_part_86 s_5_136 ok_X5_takeTold rfl rfl (Nat.le_of_ble_eq_true rfl) (Nat.le_of_ble_eq_true rfl) (by decide) (ty_6 hS.1.1) ?_
            refine Tr.imp (Tr.deep (by decide) (sp_X5_takeTold_6_w2 hS.1 ((St.kp hS (by decide) (by decide) (by decide)).trans en_6_2) 16 (by omega) 999 (by omega))) ?_
            rintro M86 _ ⟨h86, r86, rfl, lr86, ur86⟩
            have hS := St.tr hS h86 (by decide) (by decide)
            refine Tr.sc [(0, r86)] rfl ?_
            refine Tr.pick [1, 2, 3, 4, 0] (ls2 := [(0, (2, 6)), (1, (0, r8)), (2, (0, r32)), (3, (0, q52_0)), (4, (0, q69_0))]) rfl ?_
            exact J89 _ _ hS (by omega)
          · refine Tr.iconst (pc := 76) d_X5_part_76 (by decide) ?_
            refine Tr.goto (pc := 77) (tgt := 89) d_X5_part_77 rfl ?_
            refine Tr.pick [1, 2, 3, 4, 0] (ls2 := [(0, (2, 6)), (1, (0, r8)), (2, (0, r32)), (3, (0, q52_0)), (4, (0, q69_0))]) rfl ?_
            exact J89 _ _ hS (by omega)
        refine Tr.if_ge (pc := 54) (tgt := 61) d_X5_part_54 rfl (fun c54 => ?_) (fun c54 => ?_)
        · refine Tr.aload_n (pc := 61) (i := 0) d_X5_part_61 rfl rfl ?_
          refine Tr.iconst (pc := 62) d_X5_part_62 (by decide) ?_
          refine Tr.sipush (pc := 63) d_X5_part_63 rfl (by decide) ?_
          refine Tr.callV (pc := 66) (as := [_, _]) d_X5_part_66 s_5_87 ok_X5_takeNumber rfl rfl (Nat.le_of_ble_eq_true rfl) (Nat.le_of_ble_eq_true rfl) (by decide) (ty_6 hS.1.1) ?_
          refine Tr.imp (Tr.deep (by decide) (sp_X5_takeNumber_6_w2 hS.1 ((St.kp hS (by decide) (by decide) (by decide)).trans en_6_2) 0 (by omega) 999 (by omega))) ?_
          rintro M66 _ ⟨h66, r66, rfl, lr66, ur66⟩
          have hS := St.tr hS h66 (by decide) (by decide)
          refine Tr.sc [(0, r66)] rfl ?_
          refine Tr.pick [1, 2, 3, 0] (ls2 := [(0, (2, 6)), (1, (0, r8)), (2, (0, r32)), (3, (0, q52_0))]) rfl ?_
          exact J69 _ _ hS (by omega)
        · refine Tr.iconst (pc := 57) d_X5_part_57 (by decide) ?_
          refine Tr.goto (pc := 58) (tgt := 69) d_X5_part_58 rfl ?_
          refine Tr.pick [1, 2, 3, 0] (ls2 := [(0, (2, 6)), (1, (0, r8)), (2, (0, r32)), (3, (0, q52_0))]) rfl ?_
          exact J69 _ _ hS (by omega)
      refine Tr.if_ge (pc := 37) (tgt := 44) d_X5_part_37 rfl (fun c37 => ?_) (fun c37 => ?_)
      · refine Tr.aload_n (pc := 44) (i := 0) d_X5_part_44 rfl rfl ?_
        refine Tr.bipush (pc := 45) d_X5_part_45 rfl (by decide) ?_
        refine Tr.bipush (pc := 47) d_X5_part_47 rfl (by decide) ?_
        refine Tr.callV (pc := 49) (as := [_, _]) d_X5_part_49 s_5_136 ok_X5_takeTold rfl rfl (Nat.le_of_ble_eq_true rfl) (Nat.le_of_ble_eq_true rfl) (by decide) (ty_6 hS.1.1) ?_
        refine Tr.imp (Tr.deep (by decide) (sp_X5_takeTold_6_w1 hS.1 ((St.kp hS (by decide) (by decide) (by decide)).trans en_6_2) 15 (by omega) 20 (by omega))) ?_
        rintro M49 _ ⟨h49, r49, rfl, lr49, ur49⟩
        have hS := St.tr hS h49 (by decide) (by decide)
        refine Tr.sc [(0, r49)] rfl ?_
        refine Tr.pick [2, 1, 0] (ls2 := [(0, (2, 6)), (1, (0, r8)), (2, (0, r32))]) rfl ?_
        exact J52 _ _ hS (by omega)
      · refine Tr.iconst (pc := 40) d_X5_part_40 (by decide) ?_
        refine Tr.goto (pc := 41) (tgt := 52) d_X5_part_41 rfl ?_
        refine Tr.pick [2, 1, 0] (ls2 := [(0, (2, 6)), (1, (0, r8)), (2, (0, r32))]) rfl ?_
        exact J52 _ _ hS (by omega)
    · refine Tr.iconst (pc := 24) d_X5_part_24 (by decide) ?_
      exact Tr.zret (pc := 25) d_X5_part_25 rfl (by omega) ⟨hS, _, rfl, by omega, by omega⟩

def ws_X5_cache_6_w1 : List (Int × Int) := [(6, 0), (6, 1), (6, 5), (7, 1), (7, 2), (7, 3)]
def as_X5_cache_6_w1 : List Int := []
def q_X5_cache_6_w1 (M0 M' : Mem) (r : Option PV) : Prop := St Tru ws_X5_cache_6_w1 as_X5_cache_6_w1 M0 M' ∧ ∃ v : Int, r = some (0, v) ∧ 0 ≤ v ∧ v ≤ 1
set_option maxRecDepth 100000 in
set_option maxHeartbeats 4000000 in
theorem sp_X5_cache_6_w1 {l : Launch} {K : EC} {M0 : Mem} (hI : In Tru M0) (en_6_2 : rd M0 6 2 = 2) (en_6_3 : rd M0 6 3 = 7)   : Tr l K 2 mX5_cache 0 [(0, (2, 6))] [] M0 (q_X5_cache_6_w1 M0) := by
  have hS : St Tru ws_X5_cache_6_w1 as_X5_cache_6_w1 M0 M0 := St.rf hI
  refine Tr.aload_n (pc := 0) (i := 0) d_X5_cache_0 rfl rfl ?_
  refine Tr.callV (pc := 1) (as := []) d_X5_cache_1 s_5_74 ok_X5_goOn rfl rfl (Nat.le_of_ble_eq_true rfl) (Nat.le_of_ble_eq_true rfl) (by decide) (ty_6 hS.1.1) ?_
  refine Tr.imp (Tr.deep (by decide) (sp_X5_goOn_6 hS.1 )) ?_
  rintro M1 _ ⟨h1, r1, rfl, lr1, ur1⟩
  have hS := St.tr hS h1 (by decide) (by decide)
  refine Tr.sc [(0, r1)] rfl ?_
  refine Tr.pop (pc := 4) d_X5_cache_4 ne01 ?_
  refine Tr.aload_n (pc := 5) (i := 0) d_X5_cache_5 rfl rfl ?_
  refine Tr.iconst (pc := 6) d_X5_cache_6 (by decide) ?_
  refine Tr.bipush (pc := 7) d_X5_cache_7 rfl (by decide) ?_
  refine Tr.callV (pc := 9) (as := [_, _]) d_X5_cache_9 s_5_87 ok_X5_takeNumber rfl rfl (Nat.le_of_ble_eq_true rfl) (Nat.le_of_ble_eq_true rfl) (by decide) (ty_6 hS.1.1) ?_
  refine Tr.imp (Tr.deep (by decide) (sp_X5_takeNumber_6_w5 hS.1 ((St.kp hS (by decide) (by decide) (by decide)).trans en_6_2) 1 (by omega) 8 (by omega))) ?_
  rintro M9 _ ⟨h9, r9, rfl, lr9, ur9⟩
  have hS := St.tr hS h9 (by decide) (by decide)
  refine Tr.sc [(0, r9)] rfl ?_
  refine Tr.istore_n (pc := 12) (i := 1) (ls2 := [(1, (0, r9)), (0, (2, 6))]) d_X5_cache_12 rfl (by decide) rfl ?_
  refine Tr.iload_n (pc := 13) (i := 1) d_X5_cache_13 rfl rfl ?_
  have J28 : ∀ (M : Mem) (q28_0 : Int), St Tru ws_X5_cache_6_w1 as_X5_cache_6_w1 M0 M → ((-1) ≤ q28_0 ∧ q28_0 ≤ 8) → Tr l K 2 mX5_cache 28 [(0, (2, 6)), (1, (0, r9))] [(0, q28_0)] M (q_X5_cache_6_w1 M0) := by
    intro M q28_0 hS bq28_0 
    refine Tr.istore_n (pc := 28) (i := 2) (ls2 := [(2, (0, q28_0)), (0, (2, 6)), (1, (0, r9))]) d_X5_cache_28 rfl (by decide) rfl ?_
    refine Tr.iload_n (pc := 29) (i := 2) d_X5_cache_29 rfl rfl ?_
    have J44 : ∀ (M : Mem) (q44_0 : Int), St Tru ws_X5_cache_6_w1 as_X5_cache_6_w1 M0 M → ((-1) ≤ q44_0 ∧ q44_0 ≤ 20) → Tr l K 2 mX5_cache 44 [(0, (2, 6)), (1, (0, r9)), (2, (0, q28_0))] [(0, q44_0)] M (q_X5_cache_6_w1 M0) := by
      intro M q44_0 hS bq44_0 
      refine Tr.istore_n (pc := 44) (i := 3) (ls2 := [(3, (0, q44_0)), (0, (2, 6)), (1, (0, r9)), (2, (0, q28_0))]) d_X5_cache_44 rfl (by decide) rfl ?_
      refine Tr.aload_n (pc := 45) (i := 0) d_X5_cache_45 rfl rfl ?_
      refine Tr.getf (pc := 46) d_X5_cache_46 f_5_22 (by decide) (by decide) (ty_6 hS.1.1) ?_
      refine Tr.tp 7 ((St.kp hS (by decide) (by decide) (by decide)).trans en_6_3) ?_
      refine Tr.iload_n (pc := 49) (i := 1) d_X5_cache_49 rfl rfl ?_
      refine Tr.putfS (pc := 50) (P := St Tru ws_X5_cache_6_w1 as_X5_cache_6_w1 M0) d_X5_cache_50 f_5_117 (by decide) (by decide) (ty_7 hS.1.1) (st_7_1 hS (by decide) (by omega) trivial) (fun M50 hS w50 => ?_)
      refine Tr.aload_n (pc := 53) (i := 0) d_X5_cache_53 rfl rfl ?_
      refine Tr.getf (pc := 54) d_X5_cache_54 f_5_22 (by decide) (by decide) (ty_6 hS.1.1) ?_
      refine Tr.tp 7 ((St.kp hS (by decide) (by decide) (by decide)).trans en_6_3) ?_
      refine Tr.iload_n (pc := 57) (i := 2) d_X5_cache_57 rfl rfl ?_
      refine Tr.putfS (pc := 58) (P := St Tru ws_X5_cache_6_w1 as_X5_cache_6_w1 M0) d_X5_cache_58 f_5_120 (by decide) (by decide) (ty_7 hS.1.1) (st_7_2 hS (by decide) (by omega) trivial) (fun M58 hS w58 => ?_)
      refine Tr.aload_n (pc := 61) (i := 0) d_X5_cache_61 rfl rfl ?_
      refine Tr.getf (pc := 62) d_X5_cache_62 f_5_22 (by decide) (by decide) (ty_6 hS.1.1) ?_
      refine Tr.tp 7 ((St.kp hS (by decide) (by decide) (by decide)).trans en_6_3) ?_
      refine Tr.iload_n (pc := 65) (i := 3) d_X5_cache_65 rfl rfl ?_
      refine Tr.putfS (pc := 66) (P := St Tru ws_X5_cache_6_w1 as_X5_cache_6_w1 M0) d_X5_cache_66 f_5_123 (by decide) (by decide) (ty_7 hS.1.1) (st_7_3 hS (by decide) (by omega) trivial) (fun M66 hS w66 => ?_)
      refine Tr.iload_n (pc := 69) (i := 3) d_X5_cache_69 rfl rfl ?_
      refine Tr.if_lt (pc := 70) (tgt := 86) d_X5_cache_70 rfl (fun c70 => ?_) (fun c70 => ?_)
      · refine Tr.iconst (pc := 86) d_X5_cache_86 (by decide) ?_
        exact Tr.zret (pc := 87) d_X5_cache_87 rfl (by omega) ⟨hS, _, rfl, by omega, by omega⟩
      · refine Tr.aload_n (pc := 73) (i := 0) d_X5_cache_73 rfl rfl ?_
        refine Tr.bipush (pc := 74) d_X5_cache_74 rfl (by decide) ?_
        refine Tr.callV (pc := 76) (as := [_]) d_X5_cache_76 s_5_81 ok_X5_takeSign rfl rfl (Nat.le_of_ble_eq_true rfl) (Nat.le_of_ble_eq_true rfl) (by decide) (ty_6 hS.1.1) ?_
        refine Tr.imp (Tr.deep (by decide) (sp_X5_takeSign_6 hS.1 ((St.kp hS (by decide) (by decide) (by decide)).trans en_6_2) 59 (by omega))) ?_
        rintro M76 _ ⟨h76, r76, rfl, lr76, ur76⟩
        have hS := St.tr hS h76 (by decide) (by decide)
        refine Tr.sc [(0, r76)] rfl ?_
        refine Tr.if_eq (pc := 79) (tgt := 86) d_X5_cache_79 rfl (fun c79 => ?_) (fun c79 => ?_)
        · refine Tr.iconst (pc := 86) d_X5_cache_86 (by decide) ?_
          exact Tr.zret (pc := 87) d_X5_cache_87 rfl (by omega) ⟨hS, _, rfl, by omega, by omega⟩
        · refine Tr.iconst (pc := 82) d_X5_cache_82 (by decide) ?_
          refine Tr.goto (pc := 83) (tgt := 87) d_X5_cache_83 rfl ?_
          exact Tr.zret (pc := 87) d_X5_cache_87 rfl (by omega) ⟨hS, _, rfl, by omega, by omega⟩
    refine Tr.if_ge (pc := 30) (tgt := 37) d_X5_cache_30 rfl (fun c30 => ?_) (fun c30 => ?_)
    · refine Tr.aload_n (pc := 37) (i := 0) d_X5_cache_37 rfl rfl ?_
      refine Tr.iconst (pc := 38) d_X5_cache_38 (by decide) ?_
      refine Tr.bipush (pc := 39) d_X5_cache_39 rfl (by decide) ?_
      refine Tr.callV (pc := 41) (as := [_, _]) d_X5_cache_41 s_5_87 ok_X5_takeNumber rfl rfl (Nat.le_of_ble_eq_true rfl) (Nat.le_of_ble_eq_true rfl) (by decide) (ty_6 hS.1.1) ?_
      refine Tr.imp (Tr.deep (by decide) (sp_X5_takeNumber_6_w3 hS.1 ((St.kp hS (by decide) (by decide) (by decide)).trans en_6_2) 0 (by omega) 20 (by omega))) ?_
      rintro M41 _ ⟨h41, r41, rfl, lr41, ur41⟩
      have hS := St.tr hS h41 (by decide) (by decide)
      refine Tr.sc [(0, r41)] rfl ?_
      refine Tr.pick [1, 2, 0] (ls2 := [(0, (2, 6)), (1, (0, r9)), (2, (0, q28_0))]) rfl ?_
      exact J44 _ _ hS (by omega)
    · refine Tr.iconst (pc := 33) d_X5_cache_33 (by decide) ?_
      refine Tr.goto (pc := 34) (tgt := 44) d_X5_cache_34 rfl ?_
      refine Tr.pick [1, 2, 0] (ls2 := [(0, (2, 6)), (1, (0, r9)), (2, (0, q28_0))]) rfl ?_
      exact J44 _ _ hS (by omega)
  refine Tr.if_ge (pc := 14) (tgt := 21) d_X5_cache_14 rfl (fun c14 => ?_) (fun c14 => ?_)
  · refine Tr.aload_n (pc := 21) (i := 0) d_X5_cache_21 rfl rfl ?_
    refine Tr.iconst (pc := 22) d_X5_cache_22 (by decide) ?_
    refine Tr.bipush (pc := 23) d_X5_cache_23 rfl (by decide) ?_
    refine Tr.callV (pc := 25) (as := [_, _]) d_X5_cache_25 s_5_87 ok_X5_takeNumber rfl rfl (Nat.le_of_ble_eq_true rfl) (Nat.le_of_ble_eq_true rfl) (by decide) (ty_6 hS.1.1) ?_
    refine Tr.imp (Tr.deep (by decide) (sp_X5_takeNumber_6_w5 hS.1 ((St.kp hS (by decide) (by decide) (by decide)).trans en_6_2) 1 (by omega) 8 (by omega))) ?_
    rintro M25 _ ⟨h25, r25, rfl, lr25, ur25⟩
    have hS := St.tr hS h25 (by decide) (by decide)
    refine Tr.sc [(0, r25)] rfl ?_
    refine Tr.pick [1, 0] (ls2 := [(0, (2, 6)), (1, (0, r9))]) rfl ?_
    exact J28 _ _ hS (by omega)
  · refine Tr.iconst (pc := 17) d_X5_cache_17 (by decide) ?_
    refine Tr.goto (pc := 18) (tgt := 28) d_X5_cache_18 rfl ?_
    refine Tr.pick [1, 0] (ls2 := [(0, (2, 6)), (1, (0, r9))]) rfl ?_
    exact J28 _ _ hS (by omega)

def ws_X5_heart_6_w1 : List (Int × Int) := [(6, 0), (6, 1), (6, 5), (7, 0)]
def as_X5_heart_6_w1 : List Int := []
def q_X5_heart_6_w1 (M0 M' : Mem) (r : Option PV) : Prop := St Tru ws_X5_heart_6_w1 as_X5_heart_6_w1 M0 M' ∧ ∃ v : Int, r = some (0, v) ∧ 0 ≤ v ∧ v ≤ 1
set_option maxRecDepth 100000 in
set_option maxHeartbeats 4000000 in
theorem sp_X5_heart_6_w1 {l : Launch} {K : EC} {M0 : Mem} (hI : In Tru M0) (en_6_2 : rd M0 6 2 = 2) (en_6_3 : rd M0 6 3 = 7)   : Tr l K 2 mX5_heart 0 [(0, (2, 6))] [] M0 (q_X5_heart_6_w1 M0) := by
  have hS : St Tru ws_X5_heart_6_w1 as_X5_heart_6_w1 M0 M0 := St.rf hI
  refine Tr.aload_n (pc := 0) (i := 0) d_X5_heart_0 rfl rfl ?_
  refine Tr.callV (pc := 1) (as := []) d_X5_heart_1 s_5_74 ok_X5_goOn rfl rfl (Nat.le_of_ble_eq_true rfl) (Nat.le_of_ble_eq_true rfl) (by decide) (ty_6 hS.1.1) ?_
  refine Tr.imp (Tr.deep (by decide) (sp_X5_goOn_6 hS.1 )) ?_
  rintro M1 _ ⟨h1, r1, rfl, lr1, ur1⟩
  have hS := St.tr hS h1 (by decide) (by decide)
  refine Tr.sc [(0, r1)] rfl ?_
  refine Tr.pop (pc := 4) d_X5_heart_4 ne01 ?_
  refine Tr.aload_n (pc := 5) (i := 0) d_X5_heart_5 rfl rfl ?_
  refine Tr.iconst (pc := 6) d_X5_heart_6 (by decide) ?_
  refine Tr.sipush (pc := 7) d_X5_heart_7 rfl (by decide) ?_
  refine Tr.callV (pc := 10) (as := [_, _]) d_X5_heart_10 s_5_87 ok_X5_takeNumber rfl rfl (Nat.le_of_ble_eq_true rfl) (Nat.le_of_ble_eq_true rfl) (by decide) (ty_6 hS.1.1) ?_
  refine Tr.imp (Tr.deep (by decide) (sp_X5_takeNumber_6_w2 hS.1 ((St.kp hS (by decide) (by decide) (by decide)).trans en_6_2) 0 (by omega) 999 (by omega))) ?_
  rintro M10 _ ⟨h10, r10, rfl, lr10, ur10⟩
  have hS := St.tr hS h10 (by decide) (by decide)
  refine Tr.sc [(0, r10)] rfl ?_
  refine Tr.istore_n (pc := 13) (i := 1) (ls2 := [(1, (0, r10)), (0, (2, 6))]) d_X5_heart_13 rfl (by decide) rfl ?_
  refine Tr.aload_n (pc := 14) (i := 0) d_X5_heart_14 rfl rfl ?_
  refine Tr.getf (pc := 15) d_X5_heart_15 f_5_22 (by decide) (by decide) (ty_6 hS.1.1) ?_
  refine Tr.tp 7 ((St.kp hS (by decide) (by decide) (by decide)).trans en_6_3) ?_
  refine Tr.iload_n (pc := 18) (i := 1) d_X5_heart_18 rfl rfl ?_
  refine Tr.putfS (pc := 19) (P := St Tru ws_X5_heart_6_w1 as_X5_heart_6_w1 M0) d_X5_heart_19 f_5_115 (by decide) (by decide) (ty_7 hS.1.1) (st_7_0 hS (by decide) (by omega) trivial) (fun M19 hS w19 => ?_)
  refine Tr.iload_n (pc := 22) (i := 1) d_X5_heart_22 rfl rfl ?_
  refine Tr.if_lt (pc := 23) (tgt := 39) d_X5_heart_23 rfl (fun c23 => ?_) (fun c23 => ?_)
  · refine Tr.iconst (pc := 39) d_X5_heart_39 (by decide) ?_
    exact Tr.zret (pc := 40) d_X5_heart_40 rfl (by omega) ⟨hS, _, rfl, by omega, by omega⟩
  · refine Tr.aload_n (pc := 26) (i := 0) d_X5_heart_26 rfl rfl ?_
    refine Tr.bipush (pc := 27) d_X5_heart_27 rfl (by decide) ?_
    refine Tr.callV (pc := 29) (as := [_]) d_X5_heart_29 s_5_81 ok_X5_takeSign rfl rfl (Nat.le_of_ble_eq_true rfl) (Nat.le_of_ble_eq_true rfl) (by decide) (ty_6 hS.1.1) ?_
    refine Tr.imp (Tr.deep (by decide) (sp_X5_takeSign_6 hS.1 ((St.kp hS (by decide) (by decide) (by decide)).trans en_6_2) 59 (by omega))) ?_
    rintro M29 _ ⟨h29, r29, rfl, lr29, ur29⟩
    have hS := St.tr hS h29 (by decide) (by decide)
    refine Tr.sc [(0, r29)] rfl ?_
    refine Tr.if_eq (pc := 32) (tgt := 39) d_X5_heart_32 rfl (fun c32 => ?_) (fun c32 => ?_)
    · refine Tr.iconst (pc := 39) d_X5_heart_39 (by decide) ?_
      exact Tr.zret (pc := 40) d_X5_heart_40 rfl (by omega) ⟨hS, _, rfl, by omega, by omega⟩
    · refine Tr.iconst (pc := 35) d_X5_heart_35 (by decide) ?_
      refine Tr.goto (pc := 36) (tgt := 40) d_X5_heart_36 rfl ?_
      exact Tr.zret (pc := 40) d_X5_heart_40 rfl (by omega) ⟨hS, _, rfl, by omega, by omega⟩

def ws_X5_declaration_6_w1 : List (Int × Int) := [(6, 0), (6, 1), (6, 5), (7, 0), (7, 1), (7, 2), (7, 3), (8, 0), (8, 1), (8, 2)]
def as_X5_declaration_6_w1 : List Int := [9, 10, 11, 12, 13, 14]
def q_X5_declaration_6_w1 (M0 M' : Mem) (r : Option PV) : Prop := St Tru ws_X5_declaration_6_w1 as_X5_declaration_6_w1 M0 M' ∧ ∃ v : Int, r = some (0, v) ∧ 0 ≤ v ∧ v ≤ 1
set_option maxRecDepth 100000 in
set_option maxHeartbeats 4000000 in
theorem sp_X5_declaration_6_w1 {l : Launch} {K : EC} {M0 : Mem} {xq : Int} (hI : In Tru M0) (hE : e_all K xq) (en_6_2 : rd M0 6 2 = 2) (en_6_3 : rd M0 6 3 = 7) (a1 : Int) (ha1 : (-2147483648) ≤ a1 ∧ a1 ≤ 5)  : Tr l K 4 mX5_declaration 0 [(0, (2, 6)), (1, (0, a1))] [] M0 (q_X5_declaration_6_w1 M0) := by
  have hS : St Tru ws_X5_declaration_6_w1 as_X5_declaration_6_w1 M0 M0 := St.rf hI
  refine Tr.iload_n (pc := 0) (i := 1) d_X5_declaration_0 rfl rfl ?_
  rcases (show (a1 < 0 ∨ 3 < a1) ∨ a1 = 0 ∨ a1 = 1 ∨ a1 = 2 ∨ a1 = 3 by omega) with c1 | c1 | c1 | c1 | c1
  · refine Tr.tswOut (pc := 1) (tgt := 52) d_X5_declaration_1 c1 rfl ?_
    refine Tr.aload_n (pc := 52) (i := 0) d_X5_declaration_52 rfl rfl ?_
    refine Tr.iconst (pc := 53) d_X5_declaration_53 (by decide) ?_
    refine Tr.callV (pc := 54) (as := [_]) d_X5_declaration_54 s_5_112 ok_X5_beginNamed rfl rfl (Nat.le_of_ble_eq_true rfl) (Nat.le_of_ble_eq_true rfl) (by decide) (ty_6 hS.1.1) ?_
    refine Tr.imp (Tr.deep (by decide) (sp_X5_beginNamed_6_w3 hS.1 hE ((St.kp hS (by decide) (by decide) (by decide)).trans en_6_2) ((St.kp hS (by decide) (by decide) (by decide)).trans en_6_3) 2 (by omega))) ?_
    rintro M54 _ ⟨h54, r54, rfl, lr54, ur54⟩
    have hS := St.tr hS h54 (by decide) (by decide)
    refine Tr.sc [(0, r54)] rfl ?_
    refine Tr.if_eq (pc := 57) (tgt := 73) d_X5_declaration_57 rfl (fun c57 => ?_) (fun c57 => ?_)
    · refine Tr.iconst (pc := 73) d_X5_declaration_73 (by decide) ?_
      exact Tr.zret (pc := 74) d_X5_declaration_74 rfl (by omega) ⟨hS, _, rfl, by omega, by omega⟩
    · refine Tr.aload_n (pc := 60) (i := 0) d_X5_declaration_60 rfl rfl ?_
      refine Tr.bipush (pc := 61) d_X5_declaration_61 rfl (by decide) ?_
      refine Tr.callV (pc := 63) (as := [_]) d_X5_declaration_63 s_5_81 ok_X5_takeSign rfl rfl (Nat.le_of_ble_eq_true rfl) (Nat.le_of_ble_eq_true rfl) (by decide) (ty_6 hS.1.1) ?_
      refine Tr.imp (Tr.deep (by decide) (sp_X5_takeSign_6 hS.1 ((St.kp hS (by decide) (by decide) (by decide)).trans en_6_2) 59 (by omega))) ?_
      rintro M63 _ ⟨h63, r63, rfl, lr63, ur63⟩
      have hS := St.tr hS h63 (by decide) (by decide)
      refine Tr.sc [(0, r63)] rfl ?_
      refine Tr.if_eq (pc := 66) (tgt := 73) d_X5_declaration_66 rfl (fun c66 => ?_) (fun c66 => ?_)
      · refine Tr.iconst (pc := 73) d_X5_declaration_73 (by decide) ?_
        exact Tr.zret (pc := 74) d_X5_declaration_74 rfl (by omega) ⟨hS, _, rfl, by omega, by omega⟩
      · refine Tr.iconst (pc := 69) d_X5_declaration_69 (by decide) ?_
        refine Tr.goto (pc := 70) (tgt := 74) d_X5_declaration_70 rfl ?_
        exact Tr.zret (pc := 74) d_X5_declaration_74 rfl (by omega) ⟨hS, _, rfl, by omega, by omega⟩
  · refine Tr.tp 0 c1 ?_
    refine Tr.tswIn (pc := 1) (off := 31) (tgt := 32) d_X5_declaration_1 (by decide) (by decide) rfl rfl ?_
    refine Tr.aload_n (pc := 32) (i := 0) d_X5_declaration_32 rfl rfl ?_
    refine Tr.callV (pc := 33) (as := []) d_X5_declaration_33 s_5_100 ok_X5_heart rfl rfl (Nat.le_of_ble_eq_true rfl) (Nat.le_of_ble_eq_true rfl) (by decide) (ty_6 hS.1.1) ?_
    refine Tr.imp (Tr.deep (by decide) (sp_X5_heart_6_w1 hS.1 ((St.kp hS (by decide) (by decide) (by decide)).trans en_6_2) ((St.kp hS (by decide) (by decide) (by decide)).trans en_6_3))) ?_
    rintro M33 _ ⟨h33, r33, rfl, lr33, ur33⟩
    have hS := St.tr hS h33 (by decide) (by decide)
    refine Tr.sc [(0, r33)] rfl ?_
    exact Tr.zret (pc := 36) d_X5_declaration_36 rfl (by omega) ⟨hS, _, rfl, by omega, by omega⟩
  · refine Tr.tp 1 c1 ?_
    refine Tr.tswIn (pc := 1) (off := 36) (tgt := 37) d_X5_declaration_1 (by decide) (by decide) rfl rfl ?_
    refine Tr.aload_n (pc := 37) (i := 0) d_X5_declaration_37 rfl rfl ?_
    refine Tr.callV (pc := 38) (as := []) d_X5_declaration_38 s_5_103 ok_X5_cache rfl rfl (Nat.le_of_ble_eq_true rfl) (Nat.le_of_ble_eq_true rfl) (by decide) (ty_6 hS.1.1) ?_
    refine Tr.imp (Tr.deep (by decide) (sp_X5_cache_6_w1 hS.1 ((St.kp hS (by decide) (by decide) (by decide)).trans en_6_2) ((St.kp hS (by decide) (by decide) (by decide)).trans en_6_3))) ?_
    rintro M38 _ ⟨h38, r38, rfl, lr38, ur38⟩
    have hS := St.tr hS h38 (by decide) (by decide)
    refine Tr.sc [(0, r38)] rfl ?_
    exact Tr.zret (pc := 41) d_X5_declaration_41 rfl (by omega) ⟨hS, _, rfl, by omega, by omega⟩
  · refine Tr.tp 2 c1 ?_
    refine Tr.tswIn (pc := 1) (off := 41) (tgt := 42) d_X5_declaration_1 (by decide) (by decide) rfl rfl ?_
    refine Tr.aload_n (pc := 42) (i := 0) d_X5_declaration_42 rfl rfl ?_
    refine Tr.callV (pc := 43) (as := []) d_X5_declaration_43 s_5_106 ok_X5_part rfl rfl (Nat.le_of_ble_eq_true rfl) (Nat.le_of_ble_eq_true rfl) (by decide) (ty_6 hS.1.1) ?_
    refine Tr.imp (Tr.deep (by decide) (sp_X5_part_6_w1 hS.1 hE ((St.kp hS (by decide) (by decide) (by decide)).trans en_6_2) ((St.kp hS (by decide) (by decide) (by decide)).trans en_6_3))) ?_
    rintro M43 _ ⟨h43, r43, rfl, lr43, ur43⟩
    have hS := St.tr hS h43 (by decide) (by decide)
    refine Tr.sc [(0, r43)] rfl ?_
    exact Tr.zret (pc := 46) d_X5_declaration_46 rfl (by omega) ⟨hS, _, rfl, by omega, by omega⟩
  · refine Tr.tp 3 c1 ?_
    refine Tr.tswIn (pc := 1) (off := 46) (tgt := 47) d_X5_declaration_1 (by decide) (by decide) rfl rfl ?_
    refine Tr.aload_n (pc := 47) (i := 0) d_X5_declaration_47 rfl rfl ?_
    refine Tr.callV (pc := 48) (as := []) d_X5_declaration_48 s_5_109 ok_X5_input rfl rfl (Nat.le_of_ble_eq_true rfl) (Nat.le_of_ble_eq_true rfl) (by decide) (ty_6 hS.1.1) ?_
    refine Tr.imp (Tr.deep (by decide) (sp_X5_input_6_w1 hS.1 hE ((St.kp hS (by decide) (by decide) (by decide)).trans en_6_2) ((St.kp hS (by decide) (by decide) (by decide)).trans en_6_3))) ?_
    rintro M48 _ ⟨h48, r48, rfl, lr48, ur48⟩
    have hS := St.tr hS h48 (by decide) (by decide)
    refine Tr.sc [(0, r48)] rfl ?_
    exact Tr.zret (pc := 51) d_X5_declaration_51 rfl (by omega) ⟨hS, _, rfl, by omega, by omega⟩

def ws_X5_declarations_6_w1 : List (Int × Int) := [(6, 0), (6, 1), (6, 5), (7, 0), (7, 1), (7, 2), (7, 3), (8, 0), (8, 1), (8, 2)]
def as_X5_declarations_6_w1 : List Int := [9, 10, 11, 12, 13, 14]
def q_X5_declarations_6_w1 (M0 M' : Mem) (r : Option PV) : Prop := St Tru ws_X5_declarations_6_w1 as_X5_declarations_6_w1 M0 M' ∧ ∃ v : Int, r = some (0, v) ∧ 0 ≤ v ∧ v ≤ 1
set_option maxRecDepth 100000 in
set_option maxHeartbeats 4000000 in
theorem sp_X5_declarations_6_w1 {l : Launch} {K : EC} {M0 : Mem} {xq : Int} (hI : In Tru M0) (hE : e_all K xq) (en_6_2 : rd M0 6 2 = 2) (en_6_3 : rd M0 6 3 = 7)   : Tr l K 5 mX5_declarations 0 [(0, (2, 6))] [] M0 (q_X5_declarations_6_w1 M0) := by
  have hS : St Tru ws_X5_declarations_6_w1 as_X5_declarations_6_w1 M0 M0 := St.rf hI
  refine Tr.iconst (pc := 0) d_X5_declarations_0 (by decide) ?_
  refine Tr.istore_n (pc := 1) (i := 1) (ls2 := [(1, (0, 1)), (0, (2, 6))]) d_X5_declarations_1 rfl (by decide) rfl ?_
  refine Tr.iconst (pc := 2) d_X5_declarations_2 (by decide) ?_
  refine Tr.istore_n (pc := 3) (i := 2) (ls2 := [(2, (0, 0)), (1, (0, 1)), (0, (2, 6))]) d_X5_declarations_3 rfl (by decide) rfl ?_
  have J4 : ∀ (n4 : Nat) (M : Mem) (p4_1 p4_2 : Int), St Tru ws_X5_declarations_6_w1 as_X5_declarations_6_w1 M0 M → (0 ≤ p4_1 ∧ p4_1 ≤ 1) → (0 ≤ p4_2 ∧ p4_2 ≤ 900) → (900 - p4_2).toNat < n4 → Tr l K 5 mX5_declarations 4 [(0, (2, 6)), (1, (0, p4_1)), (2, (0, p4_2))] [] M (q_X5_declarations_6_w1 M0) := by
    intro n4
    induction n4 with
    | zero => intro M p4_1 p4_2 hS bp4_1 bp4_2  hm4; exact absurd hm4 (Nat.not_lt_zero _)
    | succ n4 J4 =>
      intro M p4_1 p4_2 hS bp4_1 bp4_2  hm4
      refine Tr.iload_n (pc := 4) (i := 2) d_X5_declarations_4 rfl rfl ?_
      refine Tr.sipush (pc := 5) d_X5_declarations_5 rfl (by decide) ?_
      refine Tr.icmp_ge (pc := 8) (tgt := 70) d_X5_declarations_8 rfl (fun c8 => ?_) (fun c8 => ?_)
      · refine Tr.iload_n (pc := 70) (i := 1) d_X5_declarations_70 rfl rfl ?_
        exact Tr.zret (pc := 71) d_X5_declarations_71 rfl (by omega) ⟨hS, _, rfl, by omega, by omega⟩
      · refine Tr.iload_n (pc := 11) (i := 1) d_X5_declarations_11 rfl rfl ?_
        refine Tr.if_eq (pc := 12) (tgt := 70) d_X5_declarations_12 rfl (fun c12 => ?_) (fun c12 => ?_)
        · refine Tr.iload_n (pc := 70) (i := 1) d_X5_declarations_70 rfl rfl ?_
          exact Tr.zret (pc := 71) d_X5_declarations_71 rfl (by omega) ⟨hS, _, rfl, by omega, by omega⟩
        · refine Tr.aload_n (pc := 15) (i := 0) d_X5_declarations_15 rfl rfl ?_
          refine Tr.getf (pc := 16) d_X5_declarations_16 f_5_18 (by decide) (by decide) (ty_6 hS.1.1) ?_
          refine Tr.tp 2 ((St.kp hS (by decide) (by decide) (by decide)).trans en_6_2) ?_
          refine Tr.getf (pc := 19) d_X5_declarations_19 f_5_50 (by decide) (by decide) (ty_2 hS.1.1) ?_
          refine Tr.tp 3 (fx_2_0 hS.1.1) ?_
          refine Tr.aload_n (pc := 22) (i := 0) d_X5_declarations_22 rfl rfl ?_
          refine Tr.getf (pc := 23) d_X5_declarations_23 f_5_36 (by decide) (by decide) (ty_6 hS.1.1) ?_
          refine Tr.gen (P := fun v => 0 ≤ v ∧ v ≤ 900) (ir_6_5 hS.1.2.1) (fun r23 er23 br23 => ?_)
          refine Tr.iald (pc := 26) d_X5_declarations_26 (ty_3 hS.1.1) (by omega) (by omega) ?_
          refine Tr.gen (P := fun v => (-2147483648) ≤ v ∧ v ≤ 2147483647) (ar_3 hS.1.2.1 _) (fun r26 er26 br26 => ?_)
          refine Tr.iconst (pc := 27) d_X5_declarations_27 (by decide) ?_
          refine Tr.icmp_ne (pc := 28) (tgt := 70) d_X5_declarations_28 rfl (fun c28 => ?_) (fun c28 => ?_)
          · refine Tr.iload_n (pc := 70) (i := 1) d_X5_declarations_70 rfl rfl ?_
            exact Tr.zret (pc := 71) d_X5_declarations_71 rfl (by omega) ⟨hS, _, rfl, by omega, by omega⟩
          · refine Tr.aload_n (pc := 31) (i := 0) d_X5_declarations_31 rfl rfl ?_
            refine Tr.getf (pc := 32) d_X5_declarations_32 f_5_18 (by decide) (by decide) (ty_6 hS.1.1) ?_
            refine Tr.tp 2 ((St.kp hS (by decide) (by decide) (by decide)).trans en_6_2) ?_
            refine Tr.getf (pc := 35) d_X5_declarations_35 f_5_68 (by decide) (by decide) (ty_2 hS.1.1) ?_
            refine Tr.tp 5 (fx_2_2 hS.1.1) ?_
            refine Tr.aload_n (pc := 38) (i := 0) d_X5_declarations_38 rfl rfl ?_
            refine Tr.getf (pc := 39) d_X5_declarations_39 f_5_36 (by decide) (by decide) (ty_6 hS.1.1) ?_
            refine Tr.tp r23 er23 ?_
            refine Tr.iald (pc := 42) d_X5_declarations_42 (ty_5 hS.1.1) (by omega) (by omega) ?_
            refine Tr.gen (P := fun v => (-2147483648) ≤ v ∧ v ≤ 2147483647) (ar_5 hS.1.2.1 _) (fun r42 er42 br42 => ?_)
            refine Tr.iconst (pc := 43) d_X5_declarations_43 (by decide) ?_
            refine Tr.icmp_gt (pc := 44) (tgt := 70) d_X5_declarations_44 rfl (fun c44 => ?_) (fun c44 => ?_)
            · refine Tr.iload_n (pc := 70) (i := 1) d_X5_declarations_70 rfl rfl ?_
              exact Tr.zret (pc := 71) d_X5_declarations_71 rfl (by omega) ⟨hS, _, rfl, by omega, by omega⟩
            · refine Tr.aload_n (pc := 47) (i := 0) d_X5_declarations_47 rfl rfl ?_
              refine Tr.aload_n (pc := 48) (i := 0) d_X5_declarations_48 rfl rfl ?_
              refine Tr.getf (pc := 49) d_X5_declarations_49 f_5_18 (by decide) (by decide) (ty_6 hS.1.1) ?_
              refine Tr.tp 2 ((St.kp hS (by decide) (by decide) (by decide)).trans en_6_2) ?_
              refine Tr.getf (pc := 52) d_X5_declarations_52 f_5_68 (by decide) (by decide) (ty_2 hS.1.1) ?_
              refine Tr.tp 5 (fx_2_2 hS.1.1) ?_
              refine Tr.aload_n (pc := 55) (i := 0) d_X5_declarations_55 rfl rfl ?_
              refine Tr.getf (pc := 56) d_X5_declarations_56 f_5_36 (by decide) (by decide) (ty_6 hS.1.1) ?_
              refine Tr.tp r23 er23 ?_
              refine Tr.iald (pc := 59) d_X5_declarations_59 (ty_5 hS.1.1) (by omega) (by omega) ?_
              refine Tr.tp r42 er42 ?_
              refine Tr.callV (pc := 60) (as := [_]) d_X5_declarations_60 s_5_97 ok_X5_declaration rfl rfl (Nat.le_of_ble_eq_true rfl) (Nat.le_of_ble_eq_true rfl) (by decide) (ty_6 hS.1.1) ?_
              refine Tr.imp (Tr.deep (by decide) (sp_X5_declaration_6_w1 hS.1 hE ((St.kp hS (by decide) (by decide) (by decide)).trans en_6_2) ((St.kp hS (by decide) (by decide) (by decide)).trans en_6_3) r42 (by omega))) ?_
              rintro M60 _ ⟨h60, r60, rfl, lr60, ur60⟩
              have hS := St.tr hS h60 (by decide) (by decide)
              refine Tr.sc [(0, r60)] rfl ?_
              refine Tr.istore_n (pc := 63) (i := 1) (ls2 := [(1, (0, r60)), (0, (2, 6)), (2, (0, p4_2))]) d_X5_declarations_63 rfl (by decide) rfl ?_
              refine Tr.iincV (pc := 64) (n2 := (p4_2 + 1)) (ls2 := [(2, (0, (p4_2 + 1))), (1, (0, r60)), (0, (2, 6))]) d_X5_declarations_64 rfl (by decide) ((w32_id (by omega)).trans (by omega)) rfl ?_
              refine Tr.goto (pc := 67) (tgt := 4) d_X5_declarations_67 rfl ?_
              refine Tr.pick [2, 1, 0] (ls2 := [(0, (2, 6)), (1, (0, r60)), (2, (0, (p4_2 + 1)))]) rfl ?_
              exact J4 _ _ _ hS (by omega) (by omega) (by omega)
  refine Tr.pick [2, 1, 0] (ls2 := [(0, (2, 6)), (1, (0, 1)), (2, (0, 0))]) rfl ?_
  exact J4 _ _ _ _ hS (by omega) (by omega) (Nat.lt_succ_self _)

def ws_X4_open_15 : List (Int × Int) := [(15, 0)]
def as_X4_open_15 : List Int := [16, 17, 18, 19, 20, 21, 22]
def q_X4_open_15 (M0 M' : Mem) (r : Option PV) : Prop := St Tru ws_X4_open_15 as_X4_open_15 M0 M' ∧ ∃ v : Int, r = some (0, v) ∧ 0 ≤ v ∧ v ≤ 59
set_option maxRecDepth 100000 in
set_option maxHeartbeats 4000000 in
theorem sp_X4_open_15 {l : Launch} {K : EC} {M0 : Mem} (hI : In Tru M0)  (a1 : Int) (ha1 : (-2147483648) ≤ a1 ∧ a1 ≤ 2147483647) (a2 : Int) (ha2 : (-1) ≤ a2 ∧ a2 ≤ (-1))  (hpm : rd M0 15 0 ≤ 59) : Tr l K 0 mX4_open 0 [(0, (2, 15)), (1, (0, a1)), (2, (0, a2))] [] M0 (q_X4_open_15 M0) := by
  have hS : St Tru ws_X4_open_15 as_X4_open_15 M0 M0 := St.rf hI
  refine Tr.aload_n (pc := 0) (i := 0) d_X4_open_0 rfl rfl ?_
  refine Tr.getf (pc := 1) d_X4_open_1 f_4_45 (by decide) (by decide) (ty_15 hS.1.1) ?_
  refine Tr.gen (P := fun v => 0 ≤ v ∧ v ≤ 59) (by have h8 := ir_15_0 hS.1.2.1; exact ⟨h8.1, hpm⟩) (fun r1 er1 br1 => ?_)
  refine Tr.istore_n (pc := 4) (i := 3) (ls2 := [(3, (0, r1)), (0, (2, 15)), (1, (0, a1)), (2, (0, a2))]) d_X4_open_4 rfl (by decide) rfl ?_
  refine Tr.aload_n (pc := 5) (i := 0) d_X4_open_5 rfl rfl ?_
  refine Tr.getf (pc := 6) d_X4_open_6 f_4_9 (by decide) (by decide) (ty_15 hS.1.1) ?_
  refine Tr.tp 16 (fx_15_1 hS.1.1) ?_
  refine Tr.iload_n (pc := 9) (i := 3) d_X4_open_9 rfl rfl ?_
  refine Tr.iload_n (pc := 10) (i := 1) d_X4_open_10 rfl rfl ?_
  refine Tr.iastS (pc := 11) (P := St Tru ws_X4_open_15 as_X4_open_15 M0) d_X4_open_11 (ty_16 hS.1.1) (by omega) (by omega) (sa_16 hS (by decide) (by omega) trivial) (fun M11 hS w11 => ?_)
  refine Tr.aload_n (pc := 12) (i := 0) d_X4_open_12 rfl rfl ?_
  refine Tr.getf (pc := 13) d_X4_open_13 f_4_15 (by decide) (by decide) (ty_15 hS.1.1) ?_
  refine Tr.tp 17 (fx_15_2 hS.1.1) ?_
  refine Tr.iload_n (pc := 16) (i := 3) d_X4_open_16 rfl rfl ?_
  refine Tr.iconst (pc := 17) d_X4_open_17 (by decide) ?_
  refine Tr.iastS (pc := 18) (P := St Tru ws_X4_open_15 as_X4_open_15 M0) d_X4_open_18 (ty_17 hS.1.1) (by omega) (by omega) (sa_17 hS (by decide) (by omega) trivial) (fun M18 hS w18 => ?_)
  refine Tr.aload_n (pc := 19) (i := 0) d_X4_open_19 rfl rfl ?_
  refine Tr.getf (pc := 20) d_X4_open_20 f_4_18 (by decide) (by decide) (ty_15 hS.1.1) ?_
  refine Tr.tp 18 (fx_15_3 hS.1.1) ?_
  refine Tr.iload_n (pc := 23) (i := 3) d_X4_open_23 rfl rfl ?_
  refine Tr.aload_n (pc := 24) (i := 0) d_X4_open_24 rfl rfl ?_
  refine Tr.getf (pc := 25) d_X4_open_25 f_4_49 (by decide) (by decide) (ty_15 hS.1.1) ?_
  refine Tr.gen (P := fun v => 0 ≤ v ∧ v ≤ 900) (ir_15_11 hS.1.2.1) (fun r25 er25 br25 => ?_)
  refine Tr.iastS (pc := 28) (P := St Tru ws_X4_open_15 as_X4_open_15 M0) d_X4_open_28 (ty_18 hS.1.1) (by omega) (by omega) (sa_18 hS (by decide) (by omega) trivial) (fun M28 hS w28 => ?_)
  refine Tr.aload_n (pc := 29) (i := 0) d_X4_open_29 rfl rfl ?_
  refine Tr.getf (pc := 30) d_X4_open_30 f_4_21 (by decide) (by decide) (ty_15 hS.1.1) ?_
  refine Tr.tp 19 (fx_15_4 hS.1.1) ?_
  refine Tr.iload_n (pc := 33) (i := 3) d_X4_open_33 rfl rfl ?_
  refine Tr.iconst (pc := 34) d_X4_open_34 (by decide) ?_
  refine Tr.iastS (pc := 35) (P := St Tru ws_X4_open_15 as_X4_open_15 M0) d_X4_open_35 (ty_19 hS.1.1) (by omega) (by omega) (sa_19 hS (by decide) (by omega) trivial) (fun M35 hS w35 => ?_)
  refine Tr.aload_n (pc := 36) (i := 0) d_X4_open_36 rfl rfl ?_
  refine Tr.getf (pc := 37) d_X4_open_37 f_4_24 (by decide) (by decide) (ty_15 hS.1.1) ?_
  refine Tr.tp 20 (fx_15_5 hS.1.1) ?_
  refine Tr.iload_n (pc := 40) (i := 3) d_X4_open_40 rfl rfl ?_
  refine Tr.iconst (pc := 41) d_X4_open_41 (by decide) ?_
  refine Tr.iastS (pc := 42) (P := St Tru ws_X4_open_15 as_X4_open_15 M0) d_X4_open_42 (ty_20 hS.1.1) (by omega) (by omega) (sa_20 hS (by decide) (by omega) trivial) (fun M42 hS w42 => ?_)
  refine Tr.aload_n (pc := 43) (i := 0) d_X4_open_43 rfl rfl ?_
  refine Tr.getf (pc := 44) d_X4_open_44 f_4_27 (by decide) (by decide) (ty_15 hS.1.1) ?_
  refine Tr.tp 21 (fx_15_6 hS.1.1) ?_
  refine Tr.iload_n (pc := 47) (i := 3) d_X4_open_47 rfl rfl ?_
  refine Tr.iconst (pc := 48) d_X4_open_48 (by decide) ?_
  refine Tr.iastS (pc := 49) (P := St Tru ws_X4_open_15 as_X4_open_15 M0) d_X4_open_49 (ty_21 hS.1.1) (by omega) (by omega) (sa_21 hS (by decide) (by omega) trivial) (fun M49 hS w49 => ?_)
  refine Tr.aload_n (pc := 50) (i := 0) d_X4_open_50 rfl rfl ?_
  refine Tr.getf (pc := 51) d_X4_open_51 f_4_30 (by decide) (by decide) (ty_15 hS.1.1) ?_
  refine Tr.tp 22 (fx_15_7 hS.1.1) ?_
  refine Tr.iload_n (pc := 54) (i := 3) d_X4_open_54 rfl rfl ?_
  refine Tr.iload_n (pc := 55) (i := 2) d_X4_open_55 rfl rfl ?_
  refine Tr.tp (-1) (by omega) ?_
  refine Tr.iastS (pc := 56) (P := St Tru ws_X4_open_15 as_X4_open_15 M0) d_X4_open_56 (ty_22 hS.1.1) (by omega) (by omega) (sa_22 hS (by decide) (by omega) trivial) (fun M56 hS w56 => ?_)
  refine Tr.aload_n (pc := 57) (i := 0) d_X4_open_57 rfl rfl ?_
  refine Tr.dup (pc := 58) d_X4_open_58 ne21 ?_
  refine Tr.getf (pc := 59) d_X4_open_59 f_4_45 (by decide) (by decide) (ty_15 hS.1.1) ?_
  refine Tr.tp r1 ((Wr.b w56 rfl).trans ((Wr.b w49 rfl).trans ((Wr.b w42 rfl).trans ((Wr.b w35 rfl).trans ((Wr.b w28 rfl).trans ((Wr.b w18 rfl).trans ((Wr.b w11 rfl).trans er1))))))) ?_
  refine Tr.iconst (pc := 62) d_X4_open_62 (by decide) ?_
  refine Tr.iadd (pc := 63) d_X4_open_63 ?_
  refine Tr.tp (r1 + 1) ((w32_id (by omega)).trans (by omega)) ?_
  refine Tr.putfS (pc := 64) (P := St Tru ws_X4_open_15 as_X4_open_15 M0) d_X4_open_64 f_4_45 (by decide) (by decide) (ty_15 hS.1.1) (st_15_0 hS (by decide) (by omega) trivial) (fun M64 hS w64 => ?_)
  refine Tr.iload_n (pc := 67) (i := 3) d_X4_open_67 rfl rfl ?_
  exact Tr.iret (pc := 68) d_X4_open_68 rfl ⟨hS, _, rfl, by omega, by omega⟩
