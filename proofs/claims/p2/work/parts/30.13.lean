def ws_X6_step_48_w1 : List (Int × Int) := [(48, 9), (48, 11), (48, 12), (48, 13), (48, 14), (48, 17), (63, 0), (63, 7)]
def as_X6_step_48_w1 : List Int := [50, 51, 52, 53, 54, 55, 57, 58, 59, 60, 61, 62, 69, 191]
def q_X6_step_48_w1 (a1 : Int) (M0 M' : Mem) (r : Option PV) : Prop := St Rn ws_X6_step_48_w1 as_X6_step_48_w1 M0 M' ∧ ∃ v : Int, r = some (0, v) ∧ 0 ≤ v ∧ v ≤ 2147483647 ∧ (rd M' 63 7 ≤ rd M0 63 7 + 1)
set_option maxRecDepth 100000 in
set_option maxHeartbeats 4000000 in
theorem sp_X6_step_48_w1 {l : Launch} {K : EC} {M0 : Mem} (hI : In Rn M0) (en_48_1 : rd M0 48 1 = 7) (en_56_1 : rd M0 56 1 = 7) (a1 : Int) (ha1 : 0 ≤ a1 ∧ a1 ≤ 59)  (hq0 : a1 < rd M0 15 0) (hF_Y15 : Yn15 M0) : Tr l K 4 mX6_step 0 [(0, (2, 48)), (1, (0, a1))] [] M0 (q_X6_step_48_w1 a1 M0) := by
  have hS : St Rn ws_X6_step_48_w1 as_X6_step_48_w1 M0 M0 := St.rf hI
  obtain ⟨g63_7, eg63_7⟩ : ∃ v, rd M0 63 7 = v := ⟨_, rfl⟩
  have bg63_7 : (-2147483648) ≤ g63_7 ∧ g63_7 ≤ 2147483647 := by rw [← eg63_7]; exact ir_63_7 hI.2.1
  obtain ⟨g15_0, eg15_0⟩ : ∃ v, rd M0 15 0 = v := ⟨_, rfl⟩
  have bg15_0 : 0 ≤ g15_0 ∧ g15_0 ≤ 60 := by rw [← eg15_0]; exact ir_15_0 hI.2.1
  refine Tr.aload_n (pc := 0) (i := 0) d_X6_step_0 rfl rfl ?_
  refine Tr.iconst (pc := 1) d_X6_step_1 (by decide) ?_
  refine Tr.iconst (pc := 2) d_X6_step_2 (by decide) ?_
  refine Tr.iconst (pc := 3) d_X6_step_3 (by decide) ?_
  refine Tr.callV (pc := 4) (as := [_, _, _]) d_X6_step_4 s_6_145 ok_X6_pass rfl rfl (Nat.le_of_ble_eq_true rfl) (Nat.le_of_ble_eq_true rfl) (by decide) (ty_48 hS.1.1) ?_
  refine Tr.imp (Tr.deep (by decide) (sp_X6_pass_48 hS.1.wk ((St.kp hS (by decide) (by decide) (by decide)).trans en_48_1) 1 (by omega) (-1) (by omega) 0 (by omega))) ?_
  rintro M4 _ ⟨h4, r4, rfl, lr4, ur4⟩
  have h4 := St.rn h4 (Rn.of hS.1.2.2.2.2 (fun _ => St.ka h4 (by decide) (by decide) (by decide)) (St.kp h4 (by decide) (by decide) (by decide)))
  have hS := St.tr hS h4 (by decide) (by decide)
  refine Tr.sc [(0, r4)] rfl ?_
  refine Tr.if_ne (pc := 7) (tgt := 12) d_X6_step_7 rfl (fun c7 => ?_) (fun c7 => ?_)
  · refine Tr.aload_n (pc := 12) (i := 0) d_X6_step_12 rfl rfl ?_
    refine Tr.dup (pc := 13) d_X6_step_13 ne21 ?_
    refine Tr.getf (pc := 14) d_X6_step_14 f_6_97 (by decide) (by decide) (ty_48 hS.1.1) ?_
    refine Tr.gen (P := fun v => (-2147483648) ≤ v ∧ v ≤ 2147483647) (ir_48_11 hS.1.2.1) (fun r14 er14 br14 => ?_)
    refine Tr.iconst (pc := 17) d_X6_step_17 (by decide) ?_
    refine Tr.iadd (pc := 18) d_X6_step_18 ?_
    refine Tr.gen (P := fun v => (-2147483648) ≤ v ∧ v ≤ 2147483647) (w32_b _) (fun r18 er18 br18 => ?_)
    refine Tr.putfS (pc := 19) (P := St Rn ws_X6_step_48_w1 as_X6_step_48_w1 M0) d_X6_step_19 f_6_97 (by decide) (by decide) (ty_48 hS.1.1) (st_48_11 hS (by decide) (by omega) (Rn.of hS.1.2.2.2.2 (fun _ => rd_wb _ rfl) (rd_wb _ rfl))) (fun M19 hS w19 => ?_)
    refine Tr.aload_n (pc := 22) (i := 0) d_X6_step_22 rfl rfl ?_
    refine Tr.getf (pc := 23) d_X6_step_23 f_6_46 (by decide) (by decide) (ty_48 hS.1.1) ?_
    refine Tr.tp 7 ((St.kp hS (by decide) (by decide) (by decide)).trans en_48_1) ?_
    refine Tr.getf (pc := 26) d_X6_step_26 f_6_50 (by decide) (by decide) (ty_7 hS.1.1) ?_
    refine Tr.tp 15 (fx_7_11 hS.1.1) ?_
    refine Tr.astore_n (pc := 29) (i := 2) (ls2 := [(2, (2, 15)), (0, (2, 48)), (1, (0, a1))]) d_X6_step_29 rfl (by decide) rfl ?_
    refine Tr.aload_n (pc := 30) (i := 2) d_X6_step_30 rfl rfl ?_
    refine Tr.getf (pc := 31) d_X6_step_31 f_6_149 (by decide) (by decide) (ty_15 hS.1.1) ?_
    refine Tr.tp 17 (fx_15_2 hS.1.1) ?_
    refine Tr.iload_n (pc := 34) (i := 1) d_X6_step_34 rfl rfl ?_
    refine Tr.iald (pc := 35) d_X6_step_35 (ty_17 hS.1.1) (by omega) (by omega) ?_
    refine Tr.gen (P := fun v => 0 ≤ v ∧ v ≤ 5) (ar_17 hS.1.2.1 _) (fun r35 er35 br35 => ?_)
    refine Tr.istore_n (pc := 36) (i := 3) (ls2 := [(3, (0, r35)), (2, (2, 15)), (0, (2, 48)), (1, (0, a1))]) d_X6_step_36 rfl (by decide) rfl ?_
    refine Tr.aload_n (pc := 37) (i := 2) d_X6_step_37 rfl rfl ?_
    refine Tr.getf (pc := 38) d_X6_step_38 f_6_152 (by decide) (by decide) (ty_15 hS.1.1) ?_
    refine Tr.tp 16 (fx_15_1 hS.1.1) ?_
    refine Tr.iload_n (pc := 41) (i := 1) d_X6_step_41 rfl rfl ?_
    refine Tr.iald (pc := 42) d_X6_step_42 (ty_16 hS.1.1) (by omega) (by omega) ?_
    refine Tr.gen (P := fun v => (-2147483648) ≤ v ∧ v ≤ 2147483647) (ar_16 hS.1.2.1 _) (fun r42 er42 br42 => ?_)
    rcases (show (r42 < 5 ∨ 10 < r42) ∨ r42 = 5 ∨ r42 = 6 ∨ r42 = 7 ∨ r42 = 8 ∨ r42 = 9 ∨ r42 = 10 by omega) with c43 | c43 | c43 | c43 | c43 | c43 | c43
    · refine Tr.tswOut (pc := 43) (tgt := 177) d_X6_step_43 c43 rfl ?_
      refine Tr.aload_n (pc := 177) (i := 0) d_X6_step_177 rfl rfl ?_
      refine Tr.iload_n (pc := 178) (i := 1) d_X6_step_178 rfl rfl ?_
      refine Tr.callV (pc := 179) (as := [_]) d_X6_step_179 s_6_155 ok_X6_worked rfl rfl (Nat.le_of_ble_eq_true rfl) (Nat.le_of_ble_eq_true rfl) (by decide) (ty_48 hS.1.1) ?_
      refine Tr.imp (Tr.deep (by decide) (sp_X6_worked_48_w1 hS.1.wk ((St.kp hS (by decide) (by decide) (by decide)).trans en_48_1) a1 (by omega))) ?_
      rintro M179 _ ⟨h179, r179, rfl, lr179, ur179⟩
      have h179 := St.rn h179 (Rn.of hS.1.2.2.2.2 (fun _ => St.ka h179 (by decide) (by decide) (by decide)) (St.kp h179 (by decide) (by decide) (by decide)))
      have hS := St.tr hS h179 (by decide) (by decide)
      refine Tr.sc [(0, r179)] rfl ?_
      refine Tr.if_eq (pc := 182) (tgt := 194) d_X6_step_182 rfl (fun c182 => ?_) (fun c182 => ?_)
      · refine Tr.aload_n (pc := 194) (i := 2) d_X6_step_194 rfl rfl ?_
        refine Tr.getf (pc := 195) d_X6_step_195 f_6_180 (by decide) (by decide) (ty_15 hS.1.1) ?_
        refine Tr.tp 20 (fx_15_5 hS.1.1) ?_
        refine Tr.iload_n (pc := 198) (i := 1) d_X6_step_198 rfl rfl ?_
        refine Tr.iald (pc := 199) d_X6_step_199 (ty_20 hS.1.1) (by omega) (by omega) ?_
        have ky199_15_0 : rd M179 15 0 = g15_0 := ((St.kp h179 (by decide) (by decide) (by decide)).trans ((Wr.b w19 rfl).trans ((St.kp h4 (by decide) (by decide) (by decide)).trans eg15_0)))
        refine Tr.gen (P := fun v => 0 ≤ v ∧ v ≤ 2147483647) (by have h8 := (Yn15.of hF_Y15 (fun j => St.ka hS (by decide) (by decide) (by decide)) (fun j => St.ka hS (by decide) (by decide) (by decide)) (St.kp hS (by decide) (by decide) (by decide))) (a1) (by omega) (by omega); have h9 := (ar_20 hS.1.2.1 (a1)); omega) (fun r199 er199 br199 => ?_)
        have kr_63_7 : rd M179 63 7 = g63_7 := ((St.kp h179 (by decide) (by decide) (by decide)).trans ((Wr.b w19 rfl).trans ((St.kp h4 (by decide) (by decide) (by decide)).trans eg63_7)))
        exact Tr.iret (pc := 200) d_X6_step_200 rfl ⟨hS, _, rfl, by omega, by omega, by omega⟩
      · refine Tr.aload_n (pc := 185) (i := 2) d_X6_step_185 rfl rfl ?_
        refine Tr.getf (pc := 186) d_X6_step_186 f_6_177 (by decide) (by decide) (ty_15 hS.1.1) ?_
        refine Tr.tp 19 (fx_15_4 hS.1.1) ?_
        refine Tr.iload_n (pc := 189) (i := 1) d_X6_step_189 rfl rfl ?_
        refine Tr.iald (pc := 190) d_X6_step_190 (ty_19 hS.1.1) (by omega) (by omega) ?_
        have ky190_15_0 : rd M179 15 0 = g15_0 := ((St.kp h179 (by decide) (by decide) (by decide)).trans ((Wr.b w19 rfl).trans ((St.kp h4 (by decide) (by decide) (by decide)).trans eg15_0)))
        refine Tr.gen (P := fun v => 0 ≤ v ∧ v ≤ 2147483647) (by have h8 := (Yn15.of hF_Y15 (fun j => St.ka hS (by decide) (by decide) (by decide)) (fun j => St.ka hS (by decide) (by decide) (by decide)) (St.kp hS (by decide) (by decide) (by decide))) (a1) (by omega) (by omega); have h9 := (ar_19 hS.1.2.1 (a1)); omega) (fun r190 er190 br190 => ?_)
        refine Tr.goto (pc := 191) (tgt := 200) d_X6_step_191 rfl ?_
        have kr_63_7 : rd M179 63 7 = g63_7 := ((St.kp h179 (by decide) (by decide) (by decide)).trans ((Wr.b w19 rfl).trans ((St.kp h4 (by decide) (by decide) (by decide)).trans eg63_7)))
        exact Tr.iret (pc := 200) d_X6_step_200 rfl ⟨hS, _, rfl, by omega, by omega, by omega⟩
    · refine Tr.tp 5 c43 ?_
      refine Tr.tswIn (pc := 43) (off := 37) (tgt := 80) d_X6_step_43 (by decide) (by decide) rfl rfl ?_
      refine Tr.aload_n (pc := 80) (i := 0) d_X6_step_80 rfl rfl ?_
      refine Tr.getf (pc := 81) d_X6_step_81 f_6_15 (by decide) (by decide) (ty_48 hS.1.1) ?_
      refine Tr.tp 50 (fx_48_3 hS.1.1) ?_
      refine Tr.iload_n (pc := 84) (i := 3) d_X6_step_84 rfl rfl ?_
      refine Tr.aload_n (pc := 85) (i := 0) d_X6_step_85 rfl rfl ?_
      refine Tr.iload_n (pc := 86) (i := 1) d_X6_step_86 rfl rfl ?_
      refine Tr.callV (pc := 87) (as := [_]) d_X6_step_87 s_6_155 ok_X6_worked rfl rfl (Nat.le_of_ble_eq_true rfl) (Nat.le_of_ble_eq_true rfl) (by decide) (ty_48 hS.1.1) ?_
      refine Tr.imp (Tr.deep (by decide) (sp_X6_worked_48_w1 hS.1.wk ((St.kp hS (by decide) (by decide) (by decide)).trans en_48_1) a1 (by omega))) ?_
      rintro M87 _ ⟨h87, r87, rfl, lr87, ur87⟩
      have h87 := St.rn h87 (Rn.of hS.1.2.2.2.2 (fun _ => St.ka h87 (by decide) (by decide) (by decide)) (St.kp h87 (by decide) (by decide) (by decide)))
      have hS := St.tr hS h87 (by decide) (by decide)
      refine Tr.sc [(0, r87), (0, r35), (2, 50)] rfl ?_
      refine Tr.iastS (pc := 90) (P := St Rn ws_X6_step_48_w1 as_X6_step_48_w1 M0) d_X6_step_90 (ty_50 hS.1.1) (by omega) (by omega) (sa_50 hS (by decide) (by omega) (Rn.of hS.1.2.2.2.2 (fun _ => rd_wb _ rfl) (rd_wb _ rfl))) (fun M90 hS w90 => ?_)
      refine Tr.goto (pc := 91) (tgt := 201) d_X6_step_91 rfl ?_
      refine Tr.aload_n (pc := 201) (i := 2) d_X6_step_201 rfl rfl ?_
      refine Tr.getf (pc := 202) d_X6_step_202 f_6_177 (by decide) (by decide) (ty_15 hS.1.1) ?_
      refine Tr.tp 19 (fx_15_4 hS.1.1) ?_
      refine Tr.iload_n (pc := 205) (i := 1) d_X6_step_205 rfl rfl ?_
      refine Tr.iald (pc := 206) d_X6_step_206 (ty_19 hS.1.1) (by omega) (by omega) ?_
      have ky206_15_0 : rd M90 15 0 = g15_0 := ((Wr.b w90 rfl).trans ((St.kp h87 (by decide) (by decide) (by decide)).trans ((Wr.b w19 rfl).trans ((St.kp h4 (by decide) (by decide) (by decide)).trans eg15_0))))
      refine Tr.gen (P := fun v => 0 ≤ v ∧ v ≤ 2147483647) (by have h8 := (Yn15.of hF_Y15 (fun j => St.ka hS (by decide) (by decide) (by decide)) (fun j => St.ka hS (by decide) (by decide) (by decide)) (St.kp hS (by decide) (by decide) (by decide))) (a1) (by omega) (by omega); have h9 := (ar_19 hS.1.2.1 (a1)); omega) (fun r206 er206 br206 => ?_)
      have kr_63_7 : rd M90 63 7 = g63_7 := ((Wr.b w90 rfl).trans ((St.kp h87 (by decide) (by decide) (by decide)).trans ((Wr.b w19 rfl).trans ((St.kp h4 (by decide) (by decide) (by decide)).trans eg63_7))))
      exact Tr.iret (pc := 207) d_X6_step_207 rfl ⟨hS, _, rfl, by omega, by omega, by omega⟩
    · refine Tr.tp 6 c43 ?_
      refine Tr.tswIn (pc := 43) (off := 51) (tgt := 94) d_X6_step_43 (by decide) (by decide) rfl rfl ?_
      refine Tr.aload_n (pc := 94) (i := 0) d_X6_step_94 rfl rfl ?_
      refine Tr.iload_n (pc := 95) (i := 1) d_X6_step_95 rfl rfl ?_
      refine Tr.iload_n (pc := 96) (i := 3) d_X6_step_96 rfl rfl ?_
      refine Tr.aload_n (pc := 97) (i := 0) d_X6_step_97 rfl rfl ?_
      refine Tr.iload_n (pc := 98) (i := 1) d_X6_step_98 rfl rfl ?_
      refine Tr.callV (pc := 99) (as := [_]) d_X6_step_99 s_6_155 ok_X6_worked rfl rfl (Nat.le_of_ble_eq_true rfl) (Nat.le_of_ble_eq_true rfl) (by decide) (ty_48 hS.1.1) ?_
      refine Tr.imp (Tr.deep (by decide) (sp_X6_worked_48_w1 hS.1.wk ((St.kp hS (by decide) (by decide) (by decide)).trans en_48_1) a1 (by omega))) ?_
      rintro M99 _ ⟨h99, r99, rfl, lr99, ur99⟩
      have h99 := St.rn h99 (Rn.of hS.1.2.2.2.2 (fun _ => St.ka h99 (by decide) (by decide) (by decide)) (St.kp h99 (by decide) (by decide) (by decide)))
      have hS := St.tr hS h99 (by decide) (by decide)
      refine Tr.sc [(0, r99), (0, r35), (0, a1), (2, 48)] rfl ?_
      refine Tr.iconst (pc := 102) d_X6_step_102 (by decide) ?_
      refine Tr.mmax (pc := 103) d_X6_step_103 ml_6_119 mw_mmax (Nat.le_of_ble_eq_true rfl) ?_
      refine Tr.gen (P := fun v => (v = r99 ∧ 0 ≤ r99) ∨ (v = 0 ∧ r99 ≤ 0)) (f_max_p _ _) (fun r103 er103 br103 => ?_)
      refine Tr.bipush (pc := 106) d_X6_step_106 rfl (by decide) ?_
      refine Tr.mmin (pc := 108) d_X6_step_108 ml_6_158 mw_mmin (Nat.le_of_ble_eq_true rfl) ?_
      refine Tr.gen (P := fun v => (v = r103 ∧ r103 ≤ 50) ∨ (v = 50 ∧ 50 ≤ r103)) (f_min_p _ _) (fun r108 er108 br108 => ?_)
      refine Tr.callV (pc := 111) (as := [_, _, _]) d_X6_step_111 s_6_161 ok_X6_use rfl rfl (Nat.le_of_ble_eq_true rfl) (Nat.le_of_ble_eq_true rfl) (by decide) (ty_48 hS.1.1) ?_
      have kb111_63_7 : rd M99 63 7 = g63_7 := ((St.kp h99 (by decide) (by decide) (by decide)).trans ((Wr.b w19 rfl).trans ((St.kp h4 (by decide) (by decide) (by decide)).trans eg63_7)))
      refine Tr.imp (Tr.deep (by decide) (sp_X6_use_48_w1 hS.1 ((St.kp hS (by decide) (by decide) (by decide)).trans en_48_1) ((St.kp hS (by decide) (by decide) (by decide)).trans en_56_1) a1 (by omega) r35 (by omega) r108 (by omega))) ?_
      rintro M111 _ ⟨h111, rfl, z111_0⟩
      have hS := St.tr hS h111 (by decide) (by decide)
      obtain ⟨s111_63_7, es111_63_7⟩ : ∃ v, rd M111 63 7 = v := ⟨_, rfl⟩
      have bs111_63_7 : (-2147483648) ≤ s111_63_7 ∧ s111_63_7 ≤ 2147483647 := by rw [← es111_63_7]; exact ir_63_7 hS.1.2.1
      refine Tr.sc [] rfl ?_
      refine Tr.goto (pc := 114) (tgt := 201) d_X6_step_114 rfl ?_
      refine Tr.aload_n (pc := 201) (i := 2) d_X6_step_201 rfl rfl ?_
      refine Tr.getf (pc := 202) d_X6_step_202 f_6_177 (by decide) (by decide) (ty_15 hS.1.1) ?_
      refine Tr.tp 19 (fx_15_4 hS.1.1) ?_
      refine Tr.iload_n (pc := 205) (i := 1) d_X6_step_205 rfl rfl ?_
      refine Tr.iald (pc := 206) d_X6_step_206 (ty_19 hS.1.1) (by omega) (by omega) ?_
      have ky206_15_0 : rd M111 15 0 = g15_0 := ((St.kp h111 (by decide) (by decide) (by decide)).trans ((St.kp h99 (by decide) (by decide) (by decide)).trans ((Wr.b w19 rfl).trans ((St.kp h4 (by decide) (by decide) (by decide)).trans eg15_0))))
      refine Tr.gen (P := fun v => 0 ≤ v ∧ v ≤ 2147483647) (by have h8 := (Yn15.of hF_Y15 (fun j => St.ka hS (by decide) (by decide) (by decide)) (fun j => St.ka hS (by decide) (by decide) (by decide)) (St.kp hS (by decide) (by decide) (by decide))) (a1) (by omega) (by omega); have h9 := (ar_19 hS.1.2.1 (a1)); omega) (fun r206 er206 br206 => ?_)
      have kr_63_7 : rd M111 63 7 = s111_63_7 := es111_63_7
      exact Tr.iret (pc := 207) d_X6_step_207 rfl ⟨hS, _, rfl, by omega, by omega, by omega⟩
    · refine Tr.tp 7 c43 ?_
      refine Tr.tswIn (pc := 43) (off := 74) (tgt := 117) d_X6_step_43 (by decide) (by decide) rfl rfl ?_
      refine Tr.aload_n (pc := 117) (i := 0) d_X6_step_117 rfl rfl ?_
      refine Tr.iload_n (pc := 118) (i := 1) d_X6_step_118 rfl rfl ?_
      refine Tr.iload_n (pc := 119) (i := 3) d_X6_step_119 rfl rfl ?_
      refine Tr.callV (pc := 120) (as := [_, _]) d_X6_step_120 s_6_165 ok_X6_hold rfl rfl (Nat.le_of_ble_eq_true rfl) (Nat.le_of_ble_eq_true rfl) (by decide) (ty_48 hS.1.1) ?_
      have kb120_63_7 : rd M19 63 7 = g63_7 := ((Wr.b w19 rfl).trans ((St.kp h4 (by decide) (by decide) (by decide)).trans eg63_7))
      refine Tr.imp (Tr.deep (by decide) (sp_X6_hold_48_w1 hS.1 ((St.kp hS (by decide) (by decide) (by decide)).trans en_48_1) ((St.kp hS (by decide) (by decide) (by decide)).trans en_56_1) a1 (by omega) r35 (by omega))) ?_
      rintro M120 _ ⟨h120, rfl, z120_0⟩
      have hS := St.tr hS h120 (by decide) (by decide)
      obtain ⟨s120_63_7, es120_63_7⟩ : ∃ v, rd M120 63 7 = v := ⟨_, rfl⟩
      have bs120_63_7 : (-2147483648) ≤ s120_63_7 ∧ s120_63_7 ≤ 2147483647 := by rw [← es120_63_7]; exact ir_63_7 hS.1.2.1
      refine Tr.sc [] rfl ?_
      refine Tr.goto (pc := 123) (tgt := 201) d_X6_step_123 rfl ?_
      refine Tr.aload_n (pc := 201) (i := 2) d_X6_step_201 rfl rfl ?_
      refine Tr.getf (pc := 202) d_X6_step_202 f_6_177 (by decide) (by decide) (ty_15 hS.1.1) ?_
      refine Tr.tp 19 (fx_15_4 hS.1.1) ?_
      refine Tr.iload_n (pc := 205) (i := 1) d_X6_step_205 rfl rfl ?_
      refine Tr.iald (pc := 206) d_X6_step_206 (ty_19 hS.1.1) (by omega) (by omega) ?_
      have ky206_15_0 : rd M120 15 0 = g15_0 := ((St.kp h120 (by decide) (by decide) (by decide)).trans ((Wr.b w19 rfl).trans ((St.kp h4 (by decide) (by decide) (by decide)).trans eg15_0)))
      refine Tr.gen (P := fun v => 0 ≤ v ∧ v ≤ 2147483647) (by have h8 := (Yn15.of hF_Y15 (fun j => St.ka hS (by decide) (by decide) (by decide)) (fun j => St.ka hS (by decide) (by decide) (by decide)) (St.kp hS (by decide) (by decide) (by decide))) (a1) (by omega) (by omega); have h9 := (ar_19 hS.1.2.1 (a1)); omega) (fun r206 er206 br206 => ?_)
      have kr_63_7 : rd M120 63 7 = s120_63_7 := es120_63_7
      exact Tr.iret (pc := 207) d_X6_step_207 rfl ⟨hS, _, rfl, by omega, by omega, by omega⟩
    · refine Tr.tp 8 c43 ?_
      refine Tr.tswIn (pc := 43) (off := 83) (tgt := 126) d_X6_step_43 (by decide) (by decide) rfl rfl ?_
      refine Tr.aload_n (pc := 126) (i := 0) d_X6_step_126 rfl rfl ?_
      refine Tr.iload_n (pc := 127) (i := 1) d_X6_step_127 rfl rfl ?_
      refine Tr.iload_n (pc := 128) (i := 3) d_X6_step_128 rfl rfl ?_
      refine Tr.callV (pc := 129) (as := [_, _]) d_X6_step_129 s_6_168 ok_X6_free rfl rfl (Nat.le_of_ble_eq_true rfl) (Nat.le_of_ble_eq_true rfl) (by decide) (ty_48 hS.1.1) ?_
      refine Tr.imp (Tr.deep (by decide) (sp_X6_free_48_w1 hS.1 ((St.kp hS (by decide) (by decide) (by decide)).trans en_48_1) ((St.kp hS (by decide) (by decide) (by decide)).trans en_56_1) a1 (by omega) r35 (by omega))) ?_
      rintro M129 _ ⟨h129, rfl⟩
      have hS := St.tr hS h129 (by decide) (by decide)
      refine Tr.sc [] rfl ?_
      refine Tr.goto (pc := 132) (tgt := 201) d_X6_step_132 rfl ?_
      refine Tr.aload_n (pc := 201) (i := 2) d_X6_step_201 rfl rfl ?_
      refine Tr.getf (pc := 202) d_X6_step_202 f_6_177 (by decide) (by decide) (ty_15 hS.1.1) ?_
      refine Tr.tp 19 (fx_15_4 hS.1.1) ?_
      refine Tr.iload_n (pc := 205) (i := 1) d_X6_step_205 rfl rfl ?_
      refine Tr.iald (pc := 206) d_X6_step_206 (ty_19 hS.1.1) (by omega) (by omega) ?_
      have ky206_15_0 : rd M129 15 0 = g15_0 := ((St.kp h129 (by decide) (by decide) (by decide)).trans ((Wr.b w19 rfl).trans ((St.kp h4 (by decide) (by decide) (by decide)).trans eg15_0)))
      refine Tr.gen (P := fun v => 0 ≤ v ∧ v ≤ 2147483647) (by have h8 := (Yn15.of hF_Y15 (fun j => St.ka hS (by decide) (by decide) (by decide)) (fun j => St.ka hS (by decide) (by decide) (by decide)) (St.kp hS (by decide) (by decide) (by decide))) (a1) (by omega) (by omega); have h9 := (ar_19 hS.1.2.1 (a1)); omega) (fun r206 er206 br206 => ?_)
      have kr_63_7 : rd M129 63 7 = g63_7 := ((St.kp h129 (by decide) (by decide) (by decide)).trans ((Wr.b w19 rfl).trans ((St.kp h4 (by decide) (by decide) (by decide)).trans eg63_7)))
      exact Tr.iret (pc := 207) d_X6_step_207 rfl ⟨hS, _, rfl, by omega, by omega, by omega⟩
    · refine Tr.tp 9 c43 ?_
      refine Tr.tswIn (pc := 43) (off := 92) (tgt := 135) d_X6_step_43 (by decide) (by decide) rfl rfl ?_
      refine Tr.aload_n (pc := 135) (i := 0) d_X6_step_135 rfl rfl ?_
      refine Tr.aload_n (pc := 136) (i := 0) d_X6_step_136 rfl rfl ?_
      refine Tr.iload_n (pc := 137) (i := 1) d_X6_step_137 rfl rfl ?_
      refine Tr.callV (pc := 138) (as := [_]) d_X6_step_138 s_6_155 ok_X6_worked rfl rfl (Nat.le_of_ble_eq_true rfl) (Nat.le_of_ble_eq_true rfl) (by decide) (ty_48 hS.1.1) ?_
      refine Tr.imp (Tr.deep (by decide) (sp_X6_worked_48_w1 hS.1.wk ((St.kp hS (by decide) (by decide) (by decide)).trans en_48_1) a1 (by omega))) ?_
      rintro M138 _ ⟨h138, r138, rfl, lr138, ur138⟩
      have h138 := St.rn h138 (Rn.of hS.1.2.2.2.2 (fun _ => St.ka h138 (by decide) (by decide) (by decide)) (St.kp h138 (by decide) (by decide) (by decide)))
      have hS := St.tr hS h138 (by decide) (by decide)
      refine Tr.sc [(0, r138), (2, 48)] rfl ?_
      refine Tr.iconst (pc := 141) d_X6_step_141 (by decide) ?_
      refine Tr.mmax (pc := 142) d_X6_step_142 ml_6_119 mw_mmax (Nat.le_of_ble_eq_true rfl) ?_
      refine Tr.gen (P := fun v => (v = r138 ∧ 0 ≤ r138) ∨ (v = 0 ∧ r138 ≤ 0)) (f_max_p _ _) (fun r142 er142 br142 => ?_)
      refine Tr.bipush (pc := 145) d_X6_step_145 rfl (by decide) ?_
      refine Tr.mmin (pc := 147) d_X6_step_147 ml_6_158 mw_mmin (Nat.le_of_ble_eq_true rfl) ?_
      refine Tr.gen (P := fun v => (v = r142 ∧ r142 ≤ 100) ∨ (v = 100 ∧ 100 ≤ r142)) (f_min_p _ _) (fun r147 er147 br147 => ?_)
      refine Tr.iconst (pc := 150) d_X6_step_150 (by decide) ?_
      refine Tr.iconst (pc := 151) d_X6_step_151 (by decide) ?_
      refine Tr.callV (pc := 152) (as := [_, _, _]) d_X6_step_152 s_6_145 ok_X6_pass rfl rfl (Nat.le_of_ble_eq_true rfl) (Nat.le_of_ble_eq_true rfl) (by decide) (ty_48 hS.1.1) ?_
      refine Tr.imp (Tr.deep (by decide) (sp_X6_pass_48_w2 hS.1.wk ((St.kp hS (by decide) (by decide) (by decide)).trans en_48_1) r147 (by omega) (-1) (by omega) 0 (by omega))) ?_
      rintro M152 _ ⟨h152, r152, rfl, lr152, ur152⟩
      have h152 := St.rn h152 (Rn.of hS.1.2.2.2.2 (fun _ => St.ka h152 (by decide) (by decide) (by decide)) (St.kp h152 (by decide) (by decide) (by decide)))
      have hS := St.tr hS h152 (by decide) (by decide)
      refine Tr.sc [(0, r152)] rfl ?_
      refine Tr.pop (pc := 155) d_X6_step_155 ne01 ?_
      refine Tr.goto (pc := 156) (tgt := 201) d_X6_step_156 rfl ?_
      refine Tr.aload_n (pc := 201) (i := 2) d_X6_step_201 rfl rfl ?_
      refine Tr.getf (pc := 202) d_X6_step_202 f_6_177 (by decide) (by decide) (ty_15 hS.1.1) ?_
      refine Tr.tp 19 (fx_15_4 hS.1.1) ?_
      refine Tr.iload_n (pc := 205) (i := 1) d_X6_step_205 rfl rfl ?_
      refine Tr.iald (pc := 206) d_X6_step_206 (ty_19 hS.1.1) (by omega) (by omega) ?_
      have ky206_15_0 : rd M152 15 0 = g15_0 := ((St.kp h152 (by decide) (by decide) (by decide)).trans ((St.kp h138 (by decide) (by decide) (by decide)).trans ((Wr.b w19 rfl).trans ((St.kp h4 (by decide) (by decide) (by decide)).trans eg15_0))))
      refine Tr.gen (P := fun v => 0 ≤ v ∧ v ≤ 2147483647) (by have h8 := (Yn15.of hF_Y15 (fun j => St.ka hS (by decide) (by decide) (by decide)) (fun j => St.ka hS (by decide) (by decide) (by decide)) (St.kp hS (by decide) (by decide) (by decide))) (a1) (by omega) (by omega); have h9 := (ar_19 hS.1.2.1 (a1)); omega) (fun r206 er206 br206 => ?_)
      have kr_63_7 : rd M152 63 7 = g63_7 := ((St.kp h152 (by decide) (by decide) (by decide)).trans ((St.kp h138 (by decide) (by decide) (by decide)).trans ((Wr.b w19 rfl).trans ((St.kp h4 (by decide) (by decide) (by decide)).trans eg63_7))))
      exact Tr.iret (pc := 207) d_X6_step_207 rfl ⟨hS, _, rfl, by omega, by omega, by omega⟩
    · refine Tr.tp 10 c43 ?_
      refine Tr.tswIn (pc := 43) (off := 116) (tgt := 159) d_X6_step_43 (by decide) (by decide) rfl rfl ?_
      refine Tr.aload_n (pc := 159) (i := 0) d_X6_step_159 rfl rfl ?_
      refine Tr.aload_n (pc := 160) (i := 0) d_X6_step_160 rfl rfl ?_
      refine Tr.iload_n (pc := 161) (i := 1) d_X6_step_161 rfl rfl ?_
      refine Tr.callV (pc := 162) (as := [_]) d_X6_step_162 s_6_155 ok_X6_worked rfl rfl (Nat.le_of_ble_eq_true rfl) (Nat.le_of_ble_eq_true rfl) (by decide) (ty_48 hS.1.1) ?_
      refine Tr.imp (Tr.deep (by decide) (sp_X6_worked_48_w1 hS.1.wk ((St.kp hS (by decide) (by decide) (by decide)).trans en_48_1) a1 (by omega))) ?_
      rintro M162 _ ⟨h162, r162, rfl, lr162, ur162⟩
      have h162 := St.rn h162 (Rn.of hS.1.2.2.2.2 (fun _ => St.ka h162 (by decide) (by decide) (by decide)) (St.kp h162 (by decide) (by decide) (by decide)))
      have hS := St.tr hS h162 (by decide) (by decide)
      refine Tr.sc [(0, r162), (2, 48)] rfl ?_
      refine Tr.sipush (pc := 165) d_X6_step_165 rfl (by decide) ?_
      refine Tr.callS (pc := 168) (as := [_, _]) d_X6_step_168 s_6_171 ok_J9_floorMod_7cf53 rfl rfl (Nat.le_of_ble_eq_true rfl) (Nat.le_of_ble_eq_true rfl) ?_
      refine Tr.imp (Tr.deep (by decide) (sp_J9_floorMod_7cf53 hS.1.wk r162 (by omega) 1000 (by omega) (by omega))) ?_
      rintro M168 _ ⟨h168, r168, rfl, lr168, ur168, wr168⟩
      have h168 := St.rn h168 (Rn.of hS.1.2.2.2.2 (fun _ => St.ka h168 (by decide) (by decide) (by decide)) (St.kp h168 (by decide) (by decide) (by decide)))
      have hS := St.tr hS h168 (by decide) (by decide)
      refine Tr.sc [(0, r168), (2, 48)] rfl ?_
      refine Tr.callV (pc := 171) (as := [_]) d_X6_step_171 s_6_174 ok_X6_touch rfl rfl (Nat.le_of_ble_eq_true rfl) (Nat.le_of_ble_eq_true rfl) (by decide) (ty_48 hS.1.1) ?_
      refine Tr.imp (Tr.deep (by decide) (sp_X6_touch_48 hS.1.wk ((St.kp hS (by decide) (by decide) (by decide)).trans en_48_1) r168 (by omega))) ?_
      rintro M171 _ ⟨h171, rfl⟩
      have h171 := St.rn h171 (Rn.of hS.1.2.2.2.2 (fun _ => St.ka h171 (by decide) (by decide) (by decide)) (St.kp h171 (by decide) (by decide) (by decide)))
      have hS := St.tr hS h171 (by decide) (by decide)
      refine Tr.sc [] rfl ?_
      refine Tr.goto (pc := 174) (tgt := 201) d_X6_step_174 rfl ?_
      refine Tr.aload_n (pc := 201) (i := 2) d_X6_step_201 rfl rfl ?_
      refine Tr.getf (pc := 202) d_X6_step_202 f_6_177 (by decide) (by decide) (ty_15 hS.1.1) ?_
      refine Tr.tp 19 (fx_15_4 hS.1.1) ?_
      refine Tr.iload_n (pc := 205) (i := 1) d_X6_step_205 rfl rfl ?_
      refine Tr.iald (pc := 206) d_X6_step_206 (ty_19 hS.1.1) (by omega) (by omega) ?_
      have ky206_15_0 : rd M171 15 0 = g15_0 := ((St.kp h171 (by decide) (by decide) (by decide)).trans ((St.kp h168 (by decide) (by decide) (by decide)).trans ((St.kp h162 (by decide) (by decide) (by decide)).trans ((Wr.b w19 rfl).trans ((St.kp h4 (by decide) (by decide) (by decide)).trans eg15_0)))))
      refine Tr.gen (P := fun v => 0 ≤ v ∧ v ≤ 2147483647) (by have h8 := (Yn15.of hF_Y15 (fun j => St.ka hS (by decide) (by decide) (by decide)) (fun j => St.ka hS (by decide) (by decide) (by decide)) (St.kp hS (by decide) (by decide) (by decide))) (a1) (by omega) (by omega); have h9 := (ar_19 hS.1.2.1 (a1)); omega) (fun r206 er206 br206 => ?_)
      have kr_63_7 : rd M171 63 7 = g63_7 := ((St.kp h171 (by decide) (by decide) (by decide)).trans ((St.kp h168 (by decide) (by decide) (by decide)).trans ((St.kp h162 (by decide) (by decide) (by decide)).trans ((Wr.b w19 rfl).trans ((St.kp h4 (by decide) (by decide) (by decide)).trans eg63_7)))))
      exact Tr.iret (pc := 207) d_X6_step_207 rfl ⟨hS, _, rfl, by omega, by omega, by omega⟩
  · refine Tr.iload_n (pc := 10) (i := 1) d_X6_step_10 rfl rfl ?_
    have kr_63_7 : rd M4 63 7 = g63_7 := ((St.kp h4 (by decide) (by decide) (by decide)).trans eg63_7)
    exact Tr.iret (pc := 11) d_X6_step_11 rfl ⟨hS, _, rfl, by omega, by omega, by omega⟩

def ws_X1_payHeart_56_w1 : List (Int × Int) := []
def as_X1_payHeart_56_w1 : List Int := [60]
def q_X1_payHeart_56_w1 (M0 M' : Mem) (r : Option PV) : Prop := St Tru ws_X1_payHeart_56_w1 as_X1_payHeart_56_w1 M0 M' ∧ r = none
set_option maxRecDepth 100000 in
set_option maxHeartbeats 4000000 in
theorem sp_X1_payHeart_56_w1 {l : Launch} {K : EC} {M0 : Mem} (hI : In Tru M0) (en_56_1 : rd M0 56 1 = 7) (a1 : Int) (ha1 : 0 ≤ a1 ∧ a1 ≤ 59) (a2 : Int) (ha2 : (-2147483648) ≤ a2 ∧ a2 ≤ 2147483647)  : Tr l K 0 mX1_payHeart 0 [(0, (2, 56)), (1, (0, a1)), (2, (0, a2))] [] M0 (q_X1_payHeart_56_w1 M0) := by
  have hS : St Tru ws_X1_payHeart_56_w1 as_X1_payHeart_56_w1 M0 M0 := St.rf hI
  refine Tr.aload_n (pc := 0) (i := 0) d_X1_payHeart_0 rfl rfl ?_
  refine Tr.getz (pc := 1) d_X1_payHeart_1 f_1_37 (by decide) (ty_56 hS.1.1) ?_
  refine Tr.tp 1 (fx_56_0 hS.1.1) ?_
  refine Tr.if_eq (pc := 4) (tgt := 25) d_X1_payHeart_4 rfl (fun hc => absurd hc (by omega)) (fun _ => ?_)
  refine Tr.aload_n (pc := 7) (i := 0) d_X1_payHeart_7 rfl rfl ?_
  refine Tr.getf (pc := 8) d_X1_payHeart_8 f_1_21 (by decide) (by decide) (ty_56 hS.1.1) ?_
  refine Tr.tp 60 (fx_56_5 hS.1.1) ?_
  refine Tr.iload_n (pc := 11) (i := 1) d_X1_payHeart_11 rfl rfl ?_
  refine Tr.dup2 (pc := 12) d_X1_payHeart_12 ne01 ne21 ?_
  refine Tr.iald (pc := 13) d_X1_payHeart_13 (ty_60 hS.1.1) (by omega) (by omega) ?_
  refine Tr.gen (P := fun v => (-2147483648) ≤ v ∧ v ≤ 2147483647) (ar_60 hS.1.2.1 _) (fun r13 er13 br13 => ?_)
  refine Tr.iload_n (pc := 14) (i := 2) d_X1_payHeart_14 rfl rfl ?_
  refine Tr.aload_n (pc := 15) (i := 0) d_X1_payHeart_15 rfl rfl ?_
  refine Tr.getf (pc := 16) d_X1_payHeart_16 f_1_41 (by decide) (by decide) (ty_56 hS.1.1) ?_
  refine Tr.tp 7 ((St.kp hS (by decide) (by decide) (by decide)).trans en_56_1) ?_
  refine Tr.getf (pc := 19) d_X1_payHeart_19 f_1_57 (by decide) (by decide) (ty_7 hS.1.1) ?_
  refine Tr.gen (P := fun v => (-1) ≤ v ∧ v ≤ 999) (ir_7_0 hS.1.2.1) (fun r19 er19 br19 => ?_)
  refine Tr.imul (pc := 22) d_X1_payHeart_22 ?_
  refine Tr.gen (P := fun v => (-2147483648) ≤ v ∧ v ≤ 2147483647) (w32_b _) (fun r22 er22 br22 => ?_)
  refine Tr.iadd (pc := 23) d_X1_payHeart_23 ?_
  refine Tr.gen (P := fun v => (-2147483648) ≤ v ∧ v ≤ 2147483647) (w32_b _) (fun r23 er23 br23 => ?_)
  refine Tr.iastS (pc := 24) (P := St Tru ws_X1_payHeart_56_w1 as_X1_payHeart_56_w1 M0) d_X1_payHeart_24 (ty_60 hS.1.1) (by omega) (by omega) (sa_60 hS (by decide) (by omega) trivial) (fun M24 hS w24 => ?_)
  exact Tr.vret (pc := 25) d_X1_payHeart_25 rfl ⟨hS, rfl⟩

def ws_X6_go_48_7_47 : List (Int × Int) := [(48, 1), (48, 9), (48, 10), (48, 11), (48, 12), (48, 13), (48, 14), (48, 15), (48, 16), (48, 17), (56, 1), (63, 0), (63, 1), (63, 2), (63, 3), (63, 4), (63, 5), (63, 7), (63, 8), (63, 9), (63, 10), (63, 11)]
def as_X6_go_48_7_47 : List Int := [49, 50, 51, 52, 53, 54, 55, 57, 58, 59, 60, 61, 62, 69, 191]
def q_X6_go_48_7_47 (M0 M' : Mem) (r : Option PV) : Prop := St Tru ws_X6_go_48_7_47 as_X6_go_48_7_47 M0 M' ∧ rd M' 48 1 = 7 ∧ rd M' 56 1 = 7 ∧ r = none
set_option maxRecDepth 100000 in
set_option maxHeartbeats 4000000 in
theorem sp_X6_go_48_7_47 {l : Launch} {K : EC} {M0 : Mem} (hI : In Tru M0)  (a3 : Int) (ha3 : (-1) ≤ a3 ∧ a3 ≤ 2147483647)  (hF_Y15 : Yn15 M0) : Tr l K 5 mX6_go 0 [(0, (2, 48)), (1, (2, 7)), (2, (2, 47)), (3, (0, a3))] [] M0 (q_X6_go_48_7_47 M0) := by
  have hS : St Tru ws_X6_go_48_7_47 as_X6_go_48_7_47 M0 M0 := St.rf hI
  obtain ⟨g63_7, eg63_7⟩ : ∃ v, rd M0 63 7 = v := ⟨_, rfl⟩
  have bg63_7 : (-2147483648) ≤ g63_7 ∧ g63_7 ≤ 2147483647 := by rw [← eg63_7]; exact ir_63_7 hI.2.1
  obtain ⟨g15_0, eg15_0⟩ : ∃ v, rd M0 15 0 = v := ⟨_, rfl⟩
  have bg15_0 : 0 ≤ g15_0 ∧ g15_0 ≤ 60 := by rw [← eg15_0]; exact ir_15_0 hI.2.1
  refine Tr.aload_n (pc := 0) (i := 0) d_X6_go_0 rfl rfl ?_
  refine Tr.aload_n (pc := 1) (i := 1) d_X6_go_1 rfl rfl ?_
  refine Tr.aload_n (pc := 2) (i := 2) d_X6_go_2 rfl rfl ?_
  refine Tr.iload_n (pc := 3) (i := 3) d_X6_go_3 rfl rfl ?_
  refine Tr.callV (pc := 4) (as := [_, _, _]) d_X6_go_4 s_6_42 ok_X6_begin rfl rfl (Nat.le_of_ble_eq_true rfl) (Nat.le_of_ble_eq_true rfl) (by decide) (ty_48 hS.1.1) ?_
  refine Tr.imp (Tr.deep (by decide) (sp_X6_begin_48_7_47 hS.1 a3 (by omega))) ?_
  rintro M4 _ ⟨h4, o4_48_1, o4_56_1, rfl, z4_0, f4_Rn⟩
  have hS := St.tr hS h4 (by decide) (by decide)
  obtain ⟨s4_63_7, es4_63_7⟩ : ∃ v, rd M4 63 7 = v := ⟨_, rfl⟩
  have bs4_63_7 : (-2147483648) ≤ s4_63_7 ∧ s4_63_7 ≤ 2147483647 := by rw [← es4_63_7]; exact ir_63_7 hS.1.2.1
  have hS := St.rn hS f4_Rn
  refine Tr.sc [] rfl ?_
  refine Tr.iconst (pc := 7) d_X6_go_7 (by decide) ?_
  refine Tr.istore (pc := 8) (i := 4) (ls2 := [(4, (0, 0)), (0, (2, 48)), (1, (2, 7)), (2, (2, 47)), (3, (0, a3))]) d_X6_go_8 (by decide) rfl ?_
  refine Tr.iconst (pc := 10) d_X6_go_10 (by decide) ?_
  refine Tr.istore (pc := 11) (i := 5) (ls2 := [(5, (0, 0)), (4, (0, 0)), (0, (2, 48)), (1, (2, 7)), (2, (2, 47)), (3, (0, a3))]) d_X6_go_11 (by decide) rfl ?_
  have J13 : ∀ (n13 : Nat) (M : Mem) (p13_4 p13_5 u13_63_7 : Int), St Rn ws_X6_go_48_7_47 as_X6_go_48_7_47 M0 M → (0 ≤ p13_4 ∧ p13_4 ≤ 2147483647) → (0 ≤ p13_5 ∧ p13_5 ≤ 2001) → ((-2147483648) ≤ u13_63_7 ∧ u13_63_7 ≤ 2147483647) → rd M 15 0 = g15_0 → rd M 48 1 = 7 → rd M 56 1 = 7 → rd M 63 7 = u13_63_7 → (u13_63_7 ≤ p13_5) → (2001 - p13_5).toNat < n13 → Tr l K 5 mX6_go 13 [(0, (2, 48)), (4, (0, p13_4)), (5, (0, p13_5))] [] M (q_X6_go_48_7_47 M0) := by
    intro n13
    induction n13 with
    | zero => intro M p13_4 p13_5 u13_63_7 hS bp13_4 bp13_5 bu13_63_7 k13_15_0 k13_48_1 k13_56_1 k13_63_7 t13_0 hm13; exact absurd hm13 (Nat.not_lt_zero _)
    | succ n13 J13 =>
      intro M p13_4 p13_5 u13_63_7 hS bp13_4 bp13_5 bu13_63_7 k13_15_0 k13_48_1 k13_56_1 k13_63_7 t13_0 hm13
      refine Tr.iload (pc := 13) (i := 5) d_X6_go_13 rfl ?_
      refine Tr.sipush (pc := 15) d_X6_go_15 rfl (by decide) ?_
      have J103 : ∀ (M : Mem), St Rn ws_X6_go_48_7_47 as_X6_go_48_7_47 M0 M → rd M 15 0 = g15_0 → rd M 48 1 = 7 → rd M 56 1 = 7 → rd M 63 7 = u13_63_7 → Tr l K 5 mX6_go 103 [(0, (2, 48))] [] M (q_X6_go_48_7_47 M0) := by
        intro M  hS  k103_15_0 k103_48_1 k103_56_1 k103_63_7
        refine Tr.aload_n (pc := 103) (i := 0) d_X6_go_103 rfl rfl ?_
        refine Tr.callV (pc := 104) (as := []) d_X6_go_104 s_6_82 ok_X6_finish rfl rfl (Nat.le_of_ble_eq_true rfl) (Nat.le_of_ble_eq_true rfl) (by decide) (ty_48 hS.1.1) ?_
        refine Tr.imp (Tr.deep (by decide) (sp_X6_finish_48 hS.1 k103_48_1 k103_56_1)) ?_
        rintro M104 _ ⟨h104, rfl⟩
        have hS := St.tr hS h104 (by decide) (by decide)
        refine Tr.sc [] rfl ?_
        have hS := hS.wk
        exact Tr.vret (pc := 107) d_X6_go_107 rfl ⟨hS, ((St.kp h104 (by decide) (by decide) (by decide)).trans k103_48_1), ((St.kp h104 (by decide) (by decide) (by decide)).trans k103_56_1), rfl⟩
      refine Tr.icmp_gt (pc := 18) (tgt := 103) d_X6_go_18 rfl (fun c18 => ?_) (fun c18 => ?_)
      · refine Tr.pick [0] (ls2 := [(0, (2, 48))]) rfl ?_
        exact J103 _ hS k13_15_0 k13_48_1 k13_56_1 k13_63_7
      · refine Tr.iload (pc := 21) (i := 4) d_X6_go_21 rfl ?_
        refine Tr.aload_n (pc := 23) (i := 0) d_X6_go_23 rfl rfl ?_
        refine Tr.getf (pc := 24) d_X6_go_24 f_6_46 (by decide) (by decide) (ty_48 hS.1.1) ?_
        refine Tr.tp 7 k13_48_1 ?_
        refine Tr.getf (pc := 27) d_X6_go_27 f_6_50 (by decide) (by decide) (ty_7 hS.1.1) ?_
        refine Tr.tp 15 (fx_7_11 hS.1.1) ?_
        refine Tr.getf (pc := 30) d_X6_go_30 f_6_56 (by decide) (by decide) (ty_15 hS.1.1) ?_
        refine Tr.tp g15_0 k13_15_0 ?_
        refine Tr.icmp_ge (pc := 33) (tgt := 103) d_X6_go_33 rfl (fun c33 => ?_) (fun c33 => ?_)
        · refine Tr.pick [0] (ls2 := [(0, (2, 48))]) rfl ?_
          exact J103 _ hS k13_15_0 k13_48_1 k13_56_1 k13_63_7
        · refine Tr.aload_n (pc := 36) (i := 0) d_X6_go_36 rfl rfl ?_
          refine Tr.getf (pc := 37) d_X6_go_37 f_6_62 (by decide) (by decide) (ty_48 hS.1.1) ?_
          refine Tr.gen (P := fun v => (-2147483648) ≤ v ∧ v ≤ 2147483647) (ir_48_14 hS.1.2.1) (fun r37 er37 br37 => ?_)
          refine Tr.if_ne (pc := 40) (tgt := 103) d_X6_go_40 rfl (fun c40 => ?_) (fun c40 => ?_)
          · refine Tr.pick [0] (ls2 := [(0, (2, 48))]) rfl ?_
            exact J103 _ hS k13_15_0 k13_48_1 k13_56_1 k13_63_7
          · refine Tr.aload_n (pc := 43) (i := 0) d_X6_go_43 rfl rfl ?_
            refine Tr.getf (pc := 44) d_X6_go_44 f_6_38 (by decide) (by decide) (ty_48 hS.1.1) ?_
            refine Tr.tp 56 (fx_48_0 hS.1.1) ?_
            refine Tr.callV (pc := 47) (as := []) d_X6_go_47 s_6_65 ok_X1_makeRoom rfl rfl (Nat.le_of_ble_eq_true rfl) (Nat.le_of_ble_eq_true rfl) (by decide) (ty_56 hS.1.1) ?_
            have kb47_63_7 : rd M 63 7 = u13_63_7 := k13_63_7
            refine Tr.imp (Tr.deep (by decide) (sp_X1_makeRoom_56 hS.1.wk (by omega))) ?_
            rintro M47 _ ⟨h47, rfl⟩
            have h47 := St.rn h47 (Rn.of hS.1.2.2.2.2 (fun _ => St.ka h47 (by decide) (by decide) (by decide)) (St.kp h47 (by decide) (by decide) (by decide)))
            have hS := St.tr hS h47 (by decide) (by decide)
            refine Tr.sc [] rfl ?_
            refine Tr.aload_n (pc := 50) (i := 0) d_X6_go_50 rfl rfl ?_
            refine Tr.getf (pc := 51) d_X6_go_51 f_6_68 (by decide) (by decide) (ty_48 hS.1.1) ?_
            refine Tr.gen (P := fun v => (-2147483648) ≤ v ∧ v ≤ 2147483647) (ir_48_9 hS.1.2.1) (fun r51 er51 br51 => ?_)
            refine Tr.istore (pc := 54) (i := 6) (ls2 := [(6, (0, r51)), (0, (2, 48)), (4, (0, p13_4)), (5, (0, p13_5))]) d_X6_go_54 (by decide) rfl ?_
            refine Tr.aload_n (pc := 56) (i := 0) d_X6_go_56 rfl rfl ?_
            refine Tr.iload (pc := 57) (i := 4) d_X6_go_57 rfl ?_
            refine Tr.callV (pc := 59) (as := [_]) d_X6_go_59 s_6_71 ok_X6_step rfl rfl (Nat.le_of_ble_eq_true rfl) (Nat.le_of_ble_eq_true rfl) (by decide) (ty_48 hS.1.1) ?_
            have kb59_15_0 : rd M47 15 0 = g15_0 := ((St.kp h47 (by decide) (by decide) (by decide)).trans k13_15_0)
            have kb59_63_7 : rd M47 63 7 = u13_63_7 := ((St.kp h47 (by decide) (by decide) (by decide)).trans k13_63_7)
            refine Tr.imp (Tr.deep (by decide) (sp_X6_step_48_w1 hS.1 ((St.kp h47 (by decide) (by decide) (by decide)).trans k13_48_1) ((St.kp h47 (by decide) (by decide) (by decide)).trans k13_56_1) p13_4 (by omega) (by omega) (Yn15.of hF_Y15 (fun j => St.ka hS (by decide) (by decide) (by decide)) (fun j => St.ka hS (by decide) (by decide) (by decide)) (St.kp hS (by decide) (by decide) (by decide))))) ?_
            rintro M59 _ ⟨h59, r59, rfl, lr59, ur59, z59_0⟩
            have hS := St.tr hS h59 (by decide) (by decide)
            obtain ⟨s59_63_7, es59_63_7⟩ : ∃ v, rd M59 63 7 = v := ⟨_, rfl⟩
            have bs59_63_7 : (-2147483648) ≤ s59_63_7 ∧ s59_63_7 ≤ 2147483647 := by rw [← es59_63_7]; exact ir_63_7 hS.1.2.1
            refine Tr.sc [(0, r59)] rfl ?_
            refine Tr.istore (pc := 62) (i := 7) (ls2 := [(7, (0, r59)), (6, (0, r51)), (0, (2, 48)), (4, (0, p13_4)), (5, (0, p13_5))]) d_X6_go_62 (by decide) rfl ?_
            refine Tr.aload_n (pc := 64) (i := 0) d_X6_go_64 rfl rfl ?_
            refine Tr.getf (pc := 65) d_X6_go_65 f_6_38 (by decide) (by decide) (ty_48 hS.1.1) ?_
            refine Tr.tp 56 (fx_48_0 hS.1.1) ?_
            refine Tr.iload (pc := 68) (i := 4) d_X6_go_68 rfl ?_
            refine Tr.aload_n (pc := 70) (i := 0) d_X6_go_70 rfl rfl ?_
            refine Tr.getf (pc := 71) d_X6_go_71 f_6_68 (by decide) (by decide) (ty_48 hS.1.1) ?_
            refine Tr.gen (P := fun v => (-2147483648) ≤ v ∧ v ≤ 2147483647) (ir_48_9 hS.1.2.1) (fun r71 er71 br71 => ?_)
            refine Tr.iload (pc := 74) (i := 6) d_X6_go_74 rfl ?_
            refine Tr.isub (pc := 76) d_X6_go_76 ?_
            refine Tr.gen (P := fun v => (-2147483648) ≤ v ∧ v ≤ 2147483647) (w32_b _) (fun r76 er76 br76 => ?_)
            refine Tr.callV (pc := 77) (as := [_, _]) d_X6_go_77 s_6_75 ok_X1_payHeart rfl rfl (Nat.le_of_ble_eq_true rfl) (Nat.le_of_ble_eq_true rfl) (by decide) (ty_56 hS.1.1) ?_
            refine Tr.imp (Tr.deep (by decide) (sp_X1_payHeart_56_w1 hS.1.wk ((St.kp h59 (by decide) (by decide) (by decide)).trans ((St.kp h47 (by decide) (by decide) (by decide)).trans k13_56_1)) p13_4 (by omega) r76 (by omega))) ?_
            rintro M77 _ ⟨h77, rfl⟩
            have h77 := St.rn h77 (Rn.of hS.1.2.2.2.2 (fun _ => St.ka h77 (by decide) (by decide) (by decide)) (St.kp h77 (by decide) (by decide) (by decide)))
            have hS := St.tr hS h77 (by decide) (by decide)
            refine Tr.sc [] rfl ?_
            refine Tr.aload_n (pc := 80) (i := 0) d_X6_go_80 rfl rfl ?_
            refine Tr.getf (pc := 81) d_X6_go_81 f_6_62 (by decide) (by decide) (ty_48 hS.1.1) ?_
            refine Tr.gen (P := fun v => (-2147483648) ≤ v ∧ v ≤ 2147483647) (ir_48_14 hS.1.2.1) (fun r81 er81 br81 => ?_)
            have J93 : ∀ (M : Mem), St Rn ws_X6_go_48_7_47 as_X6_go_48_7_47 M0 M → rd M 15 0 = g15_0 → rd M 48 1 = 7 → rd M 48 14 = r81 → rd M 48 9 = r71 → rd M 56 1 = 7 → rd M 63 7 = s59_63_7 → Tr l K 5 mX6_go 93 [(0, (2, 48)), (5, (0, p13_5)), (7, (0, r59))] [] M (q_X6_go_48_7_47 M0) := by
              intro M  hS  k93_15_0 k93_48_1 k93_48_14 k93_48_9 k93_56_1 k93_63_7
              refine Tr.iload (pc := 93) (i := 7) d_X6_go_93 rfl ?_
              refine Tr.istore (pc := 95) (i := 4) (ls2 := [(4, (0, r59)), (0, (2, 48)), (5, (0, p13_5)), (7, (0, r59))]) d_X6_go_95 (by decide) rfl ?_
              refine Tr.iincV (pc := 97) (n2 := (p13_5 + 1)) (ls2 := [(5, (0, (p13_5 + 1))), (4, (0, r59)), (0, (2, 48)), (7, (0, r59))]) d_X6_go_97 rfl (by decide) ((w32_id (by omega)).trans (by omega)) rfl ?_
              refine Tr.goto (pc := 100) (tgt := 13) d_X6_go_100 rfl ?_
              refine Tr.pick [2, 1, 0] (ls2 := [(0, (2, 48)), (4, (0, r59)), (5, (0, (p13_5 + 1)))]) rfl ?_
              exact J13 _ _ _ _ hS (by omega) (by omega) (by omega) k93_15_0 k93_48_1 k93_56_1 k93_63_7 (by omega) (by omega)
            refine Tr.if_eq (pc := 84) (tgt := 93) d_X6_go_84 rfl (fun c84 => ?_) (fun c84 => ?_)
            · refine Tr.pick [2, 4, 0] (ls2 := [(0, (2, 48)), (5, (0, p13_5)), (7, (0, r59))]) rfl ?_
              exact J93 _ hS ((St.kp h77 (by decide) (by decide) (by decide)).trans ((St.kp h59 (by decide) (by decide) (by decide)).trans ((St.kp h47 (by decide) (by decide) (by decide)).trans k13_15_0))) ((St.kp h77 (by decide) (by decide) (by decide)).trans ((St.kp h59 (by decide) (by decide) (by decide)).trans ((St.kp h47 (by decide) (by decide) (by decide)).trans k13_48_1))) er81 ((St.kp h77 (by decide) (by decide) (by decide)).trans er71) ((St.kp h77 (by decide) (by decide) (by decide)).trans ((St.kp h59 (by decide) (by decide) (by decide)).trans ((St.kp h47 (by decide) (by decide) (by decide)).trans k13_56_1))) ((St.kp h77 (by decide) (by decide) (by decide)).trans es59_63_7)
            · refine Tr.aload_n (pc := 87) (i := 0) d_X6_go_87 rfl rfl ?_
              refine Tr.iload (pc := 88) (i := 4) d_X6_go_88 rfl ?_
              refine Tr.putfS (pc := 90) (P := St Rn ws_X6_go_48_7_47 as_X6_go_48_7_47 M0) d_X6_go_90 f_6_79 (by decide) (by decide) (ty_48 hS.1.1) (st_48_15 hS (by decide) (by omega) (Rn.of hS.1.2.2.2.2 (fun _ => rd_wb _ rfl) (rd_wb _ rfl))) (fun M90 hS w90 => ?_)
              refine Tr.pick [2, 4, 0] (ls2 := [(0, (2, 48)), (5, (0, p13_5)), (7, (0, r59))]) rfl ?_
              exact J93 _ hS ((Wr.b w90 rfl).trans ((St.kp h77 (by decide) (by decide) (by decide)).trans ((St.kp h59 (by decide) (by decide) (by decide)).trans ((St.kp h47 (by decide) (by decide) (by decide)).trans k13_15_0)))) ((Wr.b w90 rfl).trans ((St.kp h77 (by decide) (by decide) (by decide)).trans ((St.kp h59 (by decide) (by decide) (by decide)).trans ((St.kp h47 (by decide) (by decide) (by decide)).trans k13_48_1)))) ((Wr.b w90 rfl).trans er81) ((Wr.b w90 rfl).trans ((St.kp h77 (by decide) (by decide) (by decide)).trans er71)) ((Wr.b w90 rfl).trans ((St.kp h77 (by decide) (by decide) (by decide)).trans ((St.kp h59 (by decide) (by decide) (by decide)).trans ((St.kp h47 (by decide) (by decide) (by decide)).trans k13_56_1)))) ((Wr.b w90 rfl).trans ((St.kp h77 (by decide) (by decide) (by decide)).trans es59_63_7))
  refine Tr.pick [2, 1, 0] (ls2 := [(0, (2, 48)), (4, (0, 0)), (5, (0, 0))]) rfl ?_
  exact J13 _ _ _ _ _ hS (by omega) (by omega) (by omega) ((St.kp h4 (by decide) (by decide) (by decide)).trans eg15_0) o4_48_1 o4_56_1 es4_63_7 (by omega) (Nat.lt_succ_self _)

def ws_X9_clear_100 : List (Int × Int) := [(100, 3)]
def as_X9_clear_100 : List Int := []
def q_X9_clear_100 (M0 M' : Mem) (r : Option PV) : Prop := St Tru ws_X9_clear_100 as_X9_clear_100 M0 M' ∧ r = none
set_option maxRecDepth 100000 in
set_option maxHeartbeats 4000000 in
theorem sp_X9_clear_100 {l : Launch} {K : EC} {M0 : Mem} (hI : In Tru M0)    : Tr l K 0 mX9_clear 0 [(0, (2, 100))] [] M0 (q_X9_clear_100 M0) := by
  have hS : St Tru ws_X9_clear_100 as_X9_clear_100 M0 M0 := St.rf hI
  refine Tr.aload_n (pc := 0) (i := 0) d_X9_clear_0 rfl rfl ?_
  refine Tr.iconst (pc := 1) d_X9_clear_1 (by decide) ?_
  refine Tr.putfS (pc := 2) (P := St Tru ws_X9_clear_100 as_X9_clear_100 M0) d_X9_clear_2 f_9_19 (by decide) (by decide) (ty_100 hS.1.1) (st_100_3 hS (by decide) (by omega) trivial) (fun M2 hS w2 => ?_)
  exact Tr.vret (pc := 5) d_X9_clear_5 rfl ⟨hS, rfl⟩

def ws_X11_run_0 : List (Int × Int) := [(0, 9), (48, 1), (48, 9), (48, 10), (48, 11), (48, 12), (48, 13), (48, 14), (48, 15), (48, 16), (48, 17), (56, 1), (63, 0), (63, 1), (63, 2), (63, 3), (63, 4), (63, 5), (63, 7), (63, 8), (63, 9), (63, 10), (63, 11), (100, 3)]
def as_X11_run_0 : List Int := [49, 50, 51, 52, 53, 54, 55, 57, 58, 59, 60, 61, 62, 69, 191]
def q_X11_run_0 (M0 M' : Mem) (r : Option PV) : Prop := St Tru ws_X11_run_0 as_X11_run_0 M0 M' ∧ ∃ v : Int, r = some (0, v) ∧ (-2147483648) ≤ v ∧ v ≤ 2147483647
set_option maxRecDepth 100000 in
set_option maxHeartbeats 4000000 in
theorem sp_X11_run_0 {l : Launch} {K : EC} {M0 : Mem} (hI : In Tru M0) (en_0_4 : rd M0 0 4 = 7) (a1 : Int) (ha1 : (-2147483648) ≤ a1 ∧ a1 ≤ 2147483647)  (hF_Y15 : Yn15 M0) : Tr l K 6 mX11_run 0 [(0, (2, 0)), (1, (0, a1))] [] M0 (q_X11_run_0 M0) := by
  have hS : St Tru ws_X11_run_0 as_X11_run_0 M0 M0 := St.rf hI
  refine Tr.iload_n (pc := 0) (i := 1) d_X11_run_0 rfl rfl ?_
  refine Tr.iconst (pc := 1) d_X11_run_1 (by decide) ?_
  refine Tr.icmp_ge (pc := 2) (tgt := 8) d_X11_run_2 rfl (fun c2 => ?_) (fun c2 => ?_)
  · refine Tr.aload_n (pc := 8) (i := 0) d_X11_run_8 rfl rfl ?_
    refine Tr.getf (pc := 9) d_X11_run_9 f_11_46 (by decide) (by decide) (ty_0 hS.1.1) ?_
    refine Tr.tp 48 (fx_0_7 hS.1.1) ?_
    refine Tr.aload_n (pc := 12) (i := 0) d_X11_run_12 rfl rfl ?_
    refine Tr.getf (pc := 13) d_X11_run_13 f_11_30 (by decide) (by decide) (ty_0 hS.1.1) ?_
    refine Tr.tp 7 ((St.kp hS (by decide) (by decide) (by decide)).trans en_0_4) ?_
    refine Tr.aload_n (pc := 16) (i := 0) d_X11_run_16 rfl rfl ?_
    refine Tr.getf (pc := 17) d_X11_run_17 f_11_37 (by decide) (by decide) (ty_0 hS.1.1) ?_
    refine Tr.tp 47 (fx_0_6 hS.1.1) ?_
    refine Tr.iload_n (pc := 20) (i := 1) d_X11_run_20 rfl rfl ?_
    refine Tr.callV (pc := 21) (as := [_, _, _]) d_X11_run_21 s_11_144 ok_X6_go rfl rfl (Nat.le_of_ble_eq_true rfl) (Nat.le_of_ble_eq_true rfl) (by decide) (ty_48 hS.1.1) ?_
    refine Tr.imp (Tr.deep (by decide) (sp_X6_go_48_7_47 hS.1 a1 (by omega) (Yn15.of hF_Y15 (fun j => St.ka hS (by decide) (by decide) (by decide)) (fun j => St.ka hS (by decide) (by decide) (by decide)) (St.kp hS (by decide) (by decide) (by decide))))) ?_
    rintro M21 _ ⟨h21, o21_48_1, o21_56_1, rfl⟩
    have hS := St.tr hS h21 (by decide) (by decide)
    refine Tr.sc [] rfl ?_
    refine Tr.aload_n (pc := 24) (i := 0) d_X11_run_24 rfl rfl ?_
    refine Tr.getf (pc := 25) d_X11_run_25 f_11_56 (by decide) (by decide) (ty_0 hS.1.1) ?_
    refine Tr.tp 100 (fx_0_10 hS.1.1) ?_
    refine Tr.callV (pc := 28) (as := []) d_X11_run_28 s_11_148 ok_X9_clear rfl rfl (Nat.le_of_ble_eq_true rfl) (Nat.le_of_ble_eq_true rfl) (by decide) (ty_100 hS.1.1) ?_
    refine Tr.imp (Tr.deep (by decide) (sp_X9_clear_100 hS.1 )) ?_
    rintro M28 _ ⟨h28, rfl⟩
    have hS := St.tr hS h28 (by decide) (by decide)
    refine Tr.sc [] rfl ?_
    refine Tr.aload_n (pc := 31) (i := 0) d_X11_run_31 rfl rfl ?_
    refine Tr.iconst (pc := 32) d_X11_run_32 (by decide) ?_
    refine Tr.putzS (pc := 33) (P := St Tru ws_X11_run_0 as_X11_run_0 M0) d_X11_run_33 f_11_109 (by decide) (ty_0 hS.1.1) (by omega) (st_0_9 hS (by decide) (by omega) trivial) (fun M33 hS w33 => ?_)
    refine Tr.aload_n (pc := 36) (i := 0) d_X11_run_36 rfl rfl ?_
    refine Tr.getf (pc := 37) d_X11_run_37 f_11_46 (by decide) (by decide) (ty_0 hS.1.1) ?_
    refine Tr.tp 48 (fx_0_7 hS.1.1) ?_
    refine Tr.getf (pc := 40) d_X11_run_40 f_11_149 (by decide) (by decide) (ty_48 hS.1.1) ?_
    refine Tr.gen (P := fun v => (-2147483648) ≤ v ∧ v ≤ 2147483647) (ir_48_14 hS.1.2.1) (fun r40 er40 br40 => ?_)
    exact Tr.iret (pc := 43) d_X11_run_43 rfl ⟨hS, _, rfl, by omega, by omega⟩
  · refine Tr.bipush (pc := 5) d_X11_run_5 rfl (by decide) ?_
    exact Tr.iret (pc := 7) d_X11_run_7 rfl ⟨hS, _, rfl, by omega, by omega⟩

def ws_X7_isLetter : List (Int × Int) := []
def as_X7_isLetter : List Int := []
def q_X7_isLetter (M0 M' : Mem) (r : Option PV) : Prop := St Tru ws_X7_isLetter as_X7_isLetter M0 M' ∧ ∃ v : Int, r = some (0, v) ∧ 0 ≤ v ∧ v ≤ 1
set_option maxRecDepth 100000 in
set_option maxHeartbeats 4000000 in
theorem sp_X7_isLetter {l : Launch} {K : EC} {M0 : Mem} (hI : In Tru M0)  (a0 : Int) (ha0 : (-1000) ≤ a0 ∧ a0 ≤ 161)  : Tr l K 0 mX7_isLetter 0 [(0, (0, a0))] [] M0 (q_X7_isLetter M0) := by
  have hS : St Tru ws_X7_isLetter as_X7_isLetter M0 M0 := St.rf hI
  refine Tr.iload_n (pc := 0) (i := 0) d_X7_isLetter_0 rfl rfl ?_
  refine Tr.bipush (pc := 1) d_X7_isLetter_1 rfl (by decide) ?_
  refine Tr.icmp_lt (pc := 3) (tgt := 16) d_X7_isLetter_3 rfl (fun c3 => ?_) (fun c3 => ?_)
  · refine Tr.iconst (pc := 16) d_X7_isLetter_16 (by decide) ?_
    exact Tr.zret (pc := 17) d_X7_isLetter_17 rfl (by omega) ⟨hS, _, rfl, by omega, by omega⟩
  · refine Tr.iload_n (pc := 6) (i := 0) d_X7_isLetter_6 rfl rfl ?_
    refine Tr.bipush (pc := 7) d_X7_isLetter_7 rfl (by decide) ?_
    refine Tr.icmp_gt (pc := 9) (tgt := 16) d_X7_isLetter_9 rfl (fun c9 => ?_) (fun c9 => ?_)
    · refine Tr.iconst (pc := 16) d_X7_isLetter_16 (by decide) ?_
      exact Tr.zret (pc := 17) d_X7_isLetter_17 rfl (by omega) ⟨hS, _, rfl, by omega, by omega⟩
    · refine Tr.iconst (pc := 12) d_X7_isLetter_12 (by decide) ?_
      refine Tr.goto (pc := 13) (tgt := 17) d_X7_isLetter_13 rfl ?_
      exact Tr.zret (pc := 17) d_X7_isLetter_17 rfl (by omega) ⟨hS, _, rfl, by omega, by omega⟩

def ws_X7_isDigit : List (Int × Int) := []
def as_X7_isDigit : List Int := []
def q_X7_isDigit (M0 M' : Mem) (r : Option PV) : Prop := St Tru ws_X7_isDigit as_X7_isDigit M0 M' ∧ ∃ v : Int, r = some (0, v) ∧ 0 ≤ v ∧ v ≤ 1
set_option maxRecDepth 100000 in
set_option maxHeartbeats 4000000 in
theorem sp_X7_isDigit {l : Launch} {K : EC} {M0 : Mem} (hI : In Tru M0)  (a0 : Int) (ha0 : (-1000) ≤ a0 ∧ a0 ≤ 161)  : Tr l K 0 mX7_isDigit 0 [(0, (0, a0))] [] M0 (q_X7_isDigit M0) := by
  have hS : St Tru ws_X7_isDigit as_X7_isDigit M0 M0 := St.rf hI
  refine Tr.iload_n (pc := 0) (i := 0) d_X7_isDigit_0 rfl rfl ?_
  refine Tr.bipush (pc := 1) d_X7_isDigit_1 rfl (by decide) ?_
  refine Tr.icmp_lt (pc := 3) (tgt := 16) d_X7_isDigit_3 rfl (fun c3 => ?_) (fun c3 => ?_)
  · refine Tr.iconst (pc := 16) d_X7_isDigit_16 (by decide) ?_
    exact Tr.zret (pc := 17) d_X7_isDigit_17 rfl (by omega) ⟨hS, _, rfl, by omega, by omega⟩
  · refine Tr.iload_n (pc := 6) (i := 0) d_X7_isDigit_6 rfl rfl ?_
    refine Tr.bipush (pc := 7) d_X7_isDigit_7 rfl (by decide) ?_
    refine Tr.icmp_gt (pc := 9) (tgt := 16) d_X7_isDigit_9 rfl (fun c9 => ?_) (fun c9 => ?_)
    · refine Tr.iconst (pc := 16) d_X7_isDigit_16 (by decide) ?_
      exact Tr.zret (pc := 17) d_X7_isDigit_17 rfl (by omega) ⟨hS, _, rfl, by omega, by omega⟩
    · refine Tr.iconst (pc := 12) d_X7_isDigit_12 (by decide) ?_
      refine Tr.goto (pc := 13) (tgt := 17) d_X7_isDigit_13 rfl ?_
      exact Tr.zret (pc := 17) d_X7_isDigit_17 rfl (by omega) ⟨hS, _, rfl, by omega, by omega⟩

def ws_J1_canEncode_9a6ad : List (Int × Int) := []
def as_J1_canEncode_9a6ad : List Int := []
def q_J1_canEncode_9a6ad (M0 M' : Mem) (r : Option PV) : Prop := St Tru ws_J1_canEncode_9a6ad as_J1_canEncode_9a6ad M0 M' ∧ ∃ v : Int, r = some (0, v) ∧ 1 ≤ v ∧ v ≤ 1
set_option maxRecDepth 100000 in
set_option maxHeartbeats 4000000 in
theorem sp_J1_canEncode_9a6ad {l : Launch} {K : EC} {M0 : Mem} (hI : In Tru M0)  (a0 : Int) (ha0 : 1 ≤ a0 ∧ a0 ≤ 161)  : Tr l K 0 mJ1_canEncode_9a6ad 0 [(0, (0, a0))] [] M0 (q_J1_canEncode_9a6ad M0) := by
  have hS : St Tru ws_J1_canEncode_9a6ad as_J1_canEncode_9a6ad M0 M0 := St.rf hI
  refine Tr.iload_n (pc := 0) (i := 0) d_J1_canEncode_9a6ad_0 rfl rfl ?_
  refine Tr.if_lt (pc := 1) (tgt := 15) d_J1_canEncode_9a6ad_1 rfl (fun hc => absurd hc (by omega)) (fun _ => ?_)
  refine Tr.iload_n (pc := 4) (i := 0) d_J1_canEncode_9a6ad_4 rfl rfl ?_
  refine Tr.sipush (pc := 5) d_J1_canEncode_9a6ad_5 rfl (by decide) ?_
  refine Tr.icmp_gt (pc := 8) (tgt := 15) d_J1_canEncode_9a6ad_8 rfl (fun hc => absurd hc (by omega)) (fun _ => ?_)
  refine Tr.iconst (pc := 11) d_J1_canEncode_9a6ad_11 (by decide) ?_
  refine Tr.goto (pc := 12) (tgt := 16) d_J1_canEncode_9a6ad_12 rfl ?_
  exact Tr.zret (pc := 16) d_J1_canEncode_9a6ad_16 rfl (by omega) ⟨hS, _, rfl, by omega, by omega⟩

def ws_X7_add_2 : List (Int × Int) := [(2, 3)]
def as_X7_add_2 : List Int := [3, 4, 5]
def q_X7_add_2 (M0 M' : Mem) (r : Option PV) : Prop := St Tru ws_X7_add_2 as_X7_add_2 M0 M' ∧ ∃ v : Int, r = some (0, v) ∧ 1 ≤ v ∧ v ≤ 900
set_option maxRecDepth 100000 in
set_option maxHeartbeats 4000000 in
theorem sp_X7_add_2 {l : Launch} {K : EC} {M0 : Mem} (hI : In Tru M0)  (a1 : Int) (ha1 : 5 ≤ a1 ∧ a1 ≤ 5) (a2 : Int) (ha2 : 0 ≤ a2 ∧ a2 ≤ 899) (a3 : Int) (ha3 : 1 ≤ a3 ∧ a3 ≤ 161) (a4 : Int) (ha4 : 1 ≤ a4 ∧ a4 ≤ 900)  : Tr l K 0 mX7_add 0 [(0, (2, 2)), (1, (0, a1)), (2, (0, a2)), (3, (0, a3)), (4, (0, a4))] [] M0 (q_X7_add_2 M0) := by
  have hS : St Tru ws_X7_add_2 as_X7_add_2 M0 M0 := St.rf hI
  refine Tr.aload_n (pc := 0) (i := 0) d_X7_add_0 rfl rfl ?_
  refine Tr.getf (pc := 1) d_X7_add_1 f_7_29 (by decide) (by decide) (ty_2 hS.1.1) ?_
  refine Tr.gen (P := fun v => 0 ≤ v ∧ v ≤ 901) (ir_2_3 hS.1.2.1) (fun r1 er1 br1 => ?_)
  refine Tr.aload_n (pc := 4) (i := 0) d_X7_add_4 rfl rfl ?_
  refine Tr.getf (pc := 5) d_X7_add_5 f_7_9 (by decide) (by decide) (ty_2 hS.1.1) ?_
  refine Tr.tp 3 (fx_2_0 hS.1.1) ?_
  refine Tr.alen (pc := 8) d_X7_add_8 (ty_3 hS.1.1) (by decide) (by decide) ?_
  refine Tr.tp 901 rfl ?_
  refine Tr.icmp_ge (pc := 9) (tgt := 52) d_X7_add_9 rfl (fun c9 => ?_) (fun c9 => ?_)
  · refine Tr.iload (pc := 52) (i := 4) d_X7_add_52 rfl ?_
    exact Tr.iret (pc := 54) d_X7_add_54 rfl ⟨hS, _, rfl, by omega, by omega⟩
  · refine Tr.aload_n (pc := 12) (i := 0) d_X7_add_12 rfl rfl ?_
    refine Tr.getf (pc := 13) d_X7_add_13 f_7_9 (by decide) (by decide) (ty_2 hS.1.1) ?_
    refine Tr.tp 3 (fx_2_0 hS.1.1) ?_
    refine Tr.aload_n (pc := 16) (i := 0) d_X7_add_16 rfl rfl ?_
    refine Tr.getf (pc := 17) d_X7_add_17 f_7_29 (by decide) (by decide) (ty_2 hS.1.1) ?_
    refine Tr.tp r1 er1 ?_
    refine Tr.iload_n (pc := 20) (i := 1) d_X7_add_20 rfl rfl ?_
    refine Tr.tp 5 (by omega) ?_
    refine Tr.iastS (pc := 21) (P := St Tru ws_X7_add_2 as_X7_add_2 M0) d_X7_add_21 (ty_3 hS.1.1) (by omega) (by omega) (sa_3 hS (by decide) (by omega) trivial) (fun M21 hS w21 => ?_)
    refine Tr.aload_n (pc := 22) (i := 0) d_X7_add_22 rfl rfl ?_
    refine Tr.getf (pc := 23) d_X7_add_23 f_7_15 (by decide) (by decide) (ty_2 hS.1.1) ?_
    refine Tr.tp 4 (fx_2_1 hS.1.1) ?_
    refine Tr.aload_n (pc := 26) (i := 0) d_X7_add_26 rfl rfl ?_
    refine Tr.getf (pc := 27) d_X7_add_27 f_7_29 (by decide) (by decide) (ty_2 hS.1.1) ?_
    refine Tr.tp r1 ((Wr.b w21 rfl).trans er1) ?_
    refine Tr.iload_n (pc := 30) (i := 2) d_X7_add_30 rfl rfl ?_
    refine Tr.iastS (pc := 31) (P := St Tru ws_X7_add_2 as_X7_add_2 M0) d_X7_add_31 (ty_4 hS.1.1) (by omega) (by omega) (sa_4 hS (by decide) (by omega) trivial) (fun M31 hS w31 => ?_)
    refine Tr.aload_n (pc := 32) (i := 0) d_X7_add_32 rfl rfl ?_
    refine Tr.getf (pc := 33) d_X7_add_33 f_7_18 (by decide) (by decide) (ty_2 hS.1.1) ?_
    refine Tr.tp 5 (fx_2_2 hS.1.1) ?_
    refine Tr.aload_n (pc := 36) (i := 0) d_X7_add_36 rfl rfl ?_
    refine Tr.getf (pc := 37) d_X7_add_37 f_7_29 (by decide) (by decide) (ty_2 hS.1.1) ?_
    refine Tr.tp r1 ((Wr.b w31 rfl).trans ((Wr.b w21 rfl).trans er1)) ?_
    refine Tr.iload_n (pc := 40) (i := 3) d_X7_add_40 rfl rfl ?_
    refine Tr.iastS (pc := 41) (P := St Tru ws_X7_add_2 as_X7_add_2 M0) d_X7_add_41 (ty_5 hS.1.1) (by omega) (by omega) (sa_5 hS (by decide) (by omega) trivial) (fun M41 hS w41 => ?_)
    refine Tr.aload_n (pc := 42) (i := 0) d_X7_add_42 rfl rfl ?_
    refine Tr.dup (pc := 43) d_X7_add_43 ne21 ?_
    refine Tr.getf (pc := 44) d_X7_add_44 f_7_29 (by decide) (by decide) (ty_2 hS.1.1) ?_
    refine Tr.tp r1 ((Wr.b w41 rfl).trans ((Wr.b w31 rfl).trans ((Wr.b w21 rfl).trans er1))) ?_
    refine Tr.iconst (pc := 47) d_X7_add_47 (by decide) ?_
    refine Tr.iadd (pc := 48) d_X7_add_48 ?_
    refine Tr.tp (r1 + 1) ((w32_id (by omega)).trans (by omega)) ?_
    refine Tr.putfS (pc := 49) (P := St Tru ws_X7_add_2 as_X7_add_2 M0) d_X7_add_49 f_7_29 (by decide) (by decide) (ty_2 hS.1.1) (st_2_3 hS (by decide) (by omega) trivial) (fun M49 hS w49 => ?_)
    refine Tr.iload (pc := 52) (i := 4) d_X7_add_52 rfl ?_
    exact Tr.iret (pc := 54) d_X7_add_54 rfl ⟨hS, _, rfl, by omega, by omega⟩

def ws_X7_add_2_w1 : List (Int × Int) := [(2, 3)]
def as_X7_add_2_w1 : List Int := [3, 4, 5]
def q_X7_add_2_w1 (M0 M' : Mem) (r : Option PV) : Prop := St Tru ws_X7_add_2_w1 as_X7_add_2_w1 M0 M' ∧ ∃ v : Int, r = some (0, v) ∧ (-1) ≤ v ∧ v ≤ (-1)
set_option maxRecDepth 100000 in
set_option maxHeartbeats 4000000 in
theorem sp_X7_add_2_w1 {l : Launch} {K : EC} {M0 : Mem} (hI : In Tru M0)  (a1 : Int) (ha1 : 0 ≤ a1 ∧ a1 ≤ 0) (a2 : Int) (ha2 : 0 ≤ a2 ∧ a2 ≤ 900) (a3 : Int) (ha3 : 0 ≤ a3 ∧ a3 ≤ 0) (a4 : Int) (ha4 : (-1) ≤ a4 ∧ a4 ≤ (-1))  : Tr l K 0 mX7_add 0 [(0, (2, 2)), (1, (0, a1)), (2, (0, a2)), (3, (0, a3)), (4, (0, a4))] [] M0 (q_X7_add_2_w1 M0) := by
  have hS : St Tru ws_X7_add_2_w1 as_X7_add_2_w1 M0 M0 := St.rf hI
  refine Tr.aload_n (pc := 0) (i := 0) d_X7_add_0 rfl rfl ?_
  refine Tr.getf (pc := 1) d_X7_add_1 f_7_29 (by decide) (by decide) (ty_2 hS.1.1) ?_
  refine Tr.gen (P := fun v => 0 ≤ v ∧ v ≤ 901) (ir_2_3 hS.1.2.1) (fun r1 er1 br1 => ?_)
  refine Tr.aload_n (pc := 4) (i := 0) d_X7_add_4 rfl rfl ?_
  refine Tr.getf (pc := 5) d_X7_add_5 f_7_9 (by decide) (by decide) (ty_2 hS.1.1) ?_
  refine Tr.tp 3 (fx_2_0 hS.1.1) ?_
  refine Tr.alen (pc := 8) d_X7_add_8 (ty_3 hS.1.1) (by decide) (by decide) ?_
  refine Tr.tp 901 rfl ?_
  refine Tr.icmp_ge (pc := 9) (tgt := 52) d_X7_add_9 rfl (fun c9 => ?_) (fun c9 => ?_)
  · refine Tr.iload (pc := 52) (i := 4) d_X7_add_52 rfl ?_
    refine Tr.tp (-1) (by omega) ?_
    exact Tr.iret (pc := 54) d_X7_add_54 rfl ⟨hS, _, rfl, by omega, by omega⟩
  · refine Tr.aload_n (pc := 12) (i := 0) d_X7_add_12 rfl rfl ?_
    refine Tr.getf (pc := 13) d_X7_add_13 f_7_9 (by decide) (by decide) (ty_2 hS.1.1) ?_
    refine Tr.tp 3 (fx_2_0 hS.1.1) ?_
    refine Tr.aload_n (pc := 16) (i := 0) d_X7_add_16 rfl rfl ?_
    refine Tr.getf (pc := 17) d_X7_add_17 f_7_29 (by decide) (by decide) (ty_2 hS.1.1) ?_
    refine Tr.tp r1 er1 ?_
    refine Tr.iload_n (pc := 20) (i := 1) d_X7_add_20 rfl rfl ?_
    refine Tr.tp 0 (by omega) ?_
    refine Tr.iastS (pc := 21) (P := St Tru ws_X7_add_2_w1 as_X7_add_2_w1 M0) d_X7_add_21 (ty_3 hS.1.1) (by omega) (by omega) (sa_3 hS (by decide) (by omega) trivial) (fun M21 hS w21 => ?_)
    refine Tr.aload_n (pc := 22) (i := 0) d_X7_add_22 rfl rfl ?_
    refine Tr.getf (pc := 23) d_X7_add_23 f_7_15 (by decide) (by decide) (ty_2 hS.1.1) ?_
    refine Tr.tp 4 (fx_2_1 hS.1.1) ?_
    refine Tr.aload_n (pc := 26) (i := 0) d_X7_add_26 rfl rfl ?_
    refine Tr.getf (pc := 27) d_X7_add_27 f_7_29 (by decide) (by decide) (ty_2 hS.1.1) ?_
    refine Tr.tp r1 ((Wr.b w21 rfl).trans er1) ?_
    refine Tr.iload_n (pc := 30) (i := 2) d_X7_add_30 rfl rfl ?_
    refine Tr.iastS (pc := 31) (P := St Tru ws_X7_add_2_w1 as_X7_add_2_w1 M0) d_X7_add_31 (ty_4 hS.1.1) (by omega) (by omega) (sa_4 hS (by decide) (by omega) trivial) (fun M31 hS w31 => ?_)
    refine Tr.aload_n (pc := 32) (i := 0) d_X7_add_32 rfl rfl ?_
    refine Tr.getf (pc := 33) d_X7_add_33 f_7_18 (by decide) (by decide) (ty_2 hS.1.1) ?_
    refine Tr.tp 5 (fx_2_2 hS.1.1) ?_
    refine Tr.aload_n (pc := 36) (i := 0) d_X7_add_36 rfl rfl ?_
    refine Tr.getf (pc := 37) d_X7_add_37 f_7_29 (by decide) (by decide) (ty_2 hS.1.1) ?_
    refine Tr.tp r1 ((Wr.b w31 rfl).trans ((Wr.b w21 rfl).trans er1)) ?_
    refine Tr.iload_n (pc := 40) (i := 3) d_X7_add_40 rfl rfl ?_
    refine Tr.tp 0 (by omega) ?_
    refine Tr.iastS (pc := 41) (P := St Tru ws_X7_add_2_w1 as_X7_add_2_w1 M0) d_X7_add_41 (ty_5 hS.1.1) (by omega) (by omega) (sa_5 hS (by decide) (by omega) trivial) (fun M41 hS w41 => ?_)
    refine Tr.aload_n (pc := 42) (i := 0) d_X7_add_42 rfl rfl ?_
    refine Tr.dup (pc := 43) d_X7_add_43 ne21 ?_
    refine Tr.getf (pc := 44) d_X7_add_44 f_7_29 (by decide) (by decide) (ty_2 hS.1.1) ?_
    refine Tr.tp r1 ((Wr.b w41 rfl).trans ((Wr.b w31 rfl).trans ((Wr.b w21 rfl).trans er1))) ?_
    refine Tr.iconst (pc := 47) d_X7_add_47 (by decide) ?_
    refine Tr.iadd (pc := 48) d_X7_add_48 ?_
    refine Tr.tp (r1 + 1) ((w32_id (by omega)).trans (by omega)) ?_
    refine Tr.putfS (pc := 49) (P := St Tru ws_X7_add_2_w1 as_X7_add_2_w1 M0) d_X7_add_49 f_7_29 (by decide) (by decide) (ty_2 hS.1.1) (st_2_3 hS (by decide) (by omega) trivial) (fun M49 hS w49 => ?_)
    refine Tr.iload (pc := 52) (i := 4) d_X7_add_52 rfl ?_
    refine Tr.tp (-1) (by omega) ?_
    exact Tr.iret (pc := 54) d_X7_add_54 rfl ⟨hS, _, rfl, by omega, by omega⟩

def ws_X7_add_2_w2 : List (Int × Int) := [(2, 3)]
def as_X7_add_2_w2 : List Int := [3, 4, 5]
def q_X7_add_2_w2 (M0 M' : Mem) (r : Option PV) : Prop := St Tru ws_X7_add_2_w2 as_X7_add_2_w2 M0 M' ∧ ∃ v : Int, r = some (0, v) ∧ (-1) ≤ v ∧ v ≤ (-1)
set_option maxRecDepth 100000 in
set_option maxHeartbeats 4000000 in
theorem sp_X7_add_2_w2 {l : Launch} {K : EC} {M0 : Mem} (hI : In Tru M0)  (a1 : Int) (ha1 : 1 ≤ a1 ∧ a1 ≤ 1) (a2 : Int) (ha2 : 0 ≤ a2 ∧ a2 ≤ 899) (a3 : Int) (ha3 : 0 ≤ a3 ∧ a3 ≤ 0) (a4 : Int) (ha4 : (-1) ≤ a4 ∧ a4 ≤ (-1))  : Tr l K 0 mX7_add 0 [(0, (2, 2)), (1, (0, a1)), (2, (0, a2)), (3, (0, a3)), (4, (0, a4))] [] M0 (q_X7_add_2_w2 M0) := by
  have hS : St Tru ws_X7_add_2_w2 as_X7_add_2_w2 M0 M0 := St.rf hI
  refine Tr.aload_n (pc := 0) (i := 0) d_X7_add_0 rfl rfl ?_
  refine Tr.getf (pc := 1) d_X7_add_1 f_7_29 (by decide) (by decide) (ty_2 hS.1.1) ?_
  refine Tr.gen (P := fun v => 0 ≤ v ∧ v ≤ 901) (ir_2_3 hS.1.2.1) (fun r1 er1 br1 => ?_)
  refine Tr.aload_n (pc := 4) (i := 0) d_X7_add_4 rfl rfl ?_
  refine Tr.getf (pc := 5) d_X7_add_5 f_7_9 (by decide) (by decide) (ty_2 hS.1.1) ?_
  refine Tr.tp 3 (fx_2_0 hS.1.1) ?_
  refine Tr.alen (pc := 8) d_X7_add_8 (ty_3 hS.1.1) (by decide) (by decide) ?_
  refine Tr.tp 901 rfl ?_
  refine Tr.icmp_ge (pc := 9) (tgt := 52) d_X7_add_9 rfl (fun c9 => ?_) (fun c9 => ?_)
  · refine Tr.iload (pc := 52) (i := 4) d_X7_add_52 rfl ?_
    refine Tr.tp (-1) (by omega) ?_
    exact Tr.iret (pc := 54) d_X7_add_54 rfl ⟨hS, _, rfl, by omega, by omega⟩
  · refine Tr.aload_n (pc := 12) (i := 0) d_X7_add_12 rfl rfl ?_
    refine Tr.getf (pc := 13) d_X7_add_13 f_7_9 (by decide) (by decide) (ty_2 hS.1.1) ?_
    refine Tr.tp 3 (fx_2_0 hS.1.1) ?_
    refine Tr.aload_n (pc := 16) (i := 0) d_X7_add_16 rfl rfl ?_
    refine Tr.getf (pc := 17) d_X7_add_17 f_7_29 (by decide) (by decide) (ty_2 hS.1.1) ?_
    refine Tr.tp r1 er1 ?_
    refine Tr.iload_n (pc := 20) (i := 1) d_X7_add_20 rfl rfl ?_
    refine Tr.tp 1 (by omega) ?_
    refine Tr.iastS (pc := 21) (P := St Tru ws_X7_add_2_w2 as_X7_add_2_w2 M0) d_X7_add_21 (ty_3 hS.1.1) (by omega) (by omega) (sa_3 hS (by decide) (by omega) trivial) (fun M21 hS w21 => ?_)
    refine Tr.aload_n (pc := 22) (i := 0) d_X7_add_22 rfl rfl ?_
    refine Tr.getf (pc := 23) d_X7_add_23 f_7_15 (by decide) (by decide) (ty_2 hS.1.1) ?_
    refine Tr.tp 4 (fx_2_1 hS.1.1) ?_
    refine Tr.aload_n (pc := 26) (i := 0) d_X7_add_26 rfl rfl ?_
    refine Tr.getf (pc := 27) d_X7_add_27 f_7_29 (by decide) (by decide) (ty_2 hS.1.1) ?_
    refine Tr.tp r1 ((Wr.b w21 rfl).trans er1) ?_
    refine Tr.iload_n (pc := 30) (i := 2) d_X7_add_30 rfl rfl ?_
    refine Tr.iastS (pc := 31) (P := St Tru ws_X7_add_2_w2 as_X7_add_2_w2 M0) d_X7_add_31 (ty_4 hS.1.1) (by omega) (by omega) (sa_4 hS (by decide) (by omega) trivial) (fun M31 hS w31 => ?_)
    refine Tr.aload_n (pc := 32) (i := 0) d_X7_add_32 rfl rfl ?_
    refine Tr.getf (pc := 33) d_X7_add_33 f_7_18 (by decide) (by decide) (ty_2 hS.1.1) ?_
    refine Tr.tp 5 (fx_2_2 hS.1.1) ?_
    refine Tr.aload_n (pc := 36) (i := 0) d_X7_add_36 rfl rfl ?_
    refine Tr.getf (pc := 37) d_X7_add_37 f_7_29 (by decide) (by decide) (ty_2 hS.1.1) ?_
    refine Tr.tp r1 ((Wr.b w31 rfl).trans ((Wr.b w21 rfl).trans er1)) ?_
    refine Tr.iload_n (pc := 40) (i := 3) d_X7_add_40 rfl rfl ?_
    refine Tr.tp 0 (by omega) ?_
    refine Tr.iastS (pc := 41) (P := St Tru ws_X7_add_2_w2 as_X7_add_2_w2 M0) d_X7_add_41 (ty_5 hS.1.1) (by omega) (by omega) (sa_5 hS (by decide) (by omega) trivial) (fun M41 hS w41 => ?_)
    refine Tr.aload_n (pc := 42) (i := 0) d_X7_add_42 rfl rfl ?_
    refine Tr.dup (pc := 43) d_X7_add_43 ne21 ?_
    refine Tr.getf (pc := 44) d_X7_add_44 f_7_29 (by decide) (by decide) (ty_2 hS.1.1) ?_
    refine Tr.tp r1 ((Wr.b w41 rfl).trans ((Wr.b w31 rfl).trans ((Wr.b w21 rfl).trans er1))) ?_
    refine Tr.iconst (pc := 47) d_X7_add_47 (by decide) ?_
    refine Tr.iadd (pc := 48) d_X7_add_48 ?_
    refine Tr.tp (r1 + 1) ((w32_id (by omega)).trans (by omega)) ?_
    refine Tr.putfS (pc := 49) (P := St Tru ws_X7_add_2_w2 as_X7_add_2_w2 M0) d_X7_add_49 f_7_29 (by decide) (by decide) (ty_2 hS.1.1) (st_2_3 hS (by decide) (by omega) trivial) (fun M49 hS w49 => ?_)
    refine Tr.iload (pc := 52) (i := 4) d_X7_add_52 rfl ?_
    refine Tr.tp (-1) (by omega) ?_
    exact Tr.iret (pc := 54) d_X7_add_54 rfl ⟨hS, _, rfl, by omega, by omega⟩

def ws_X7_add_2_w3 : List (Int × Int) := [(2, 3)]
def as_X7_add_2_w3 : List Int := [3, 4, 5]
def q_X7_add_2_w3 (M0 M' : Mem) (r : Option PV) : Prop := St Tru ws_X7_add_2_w3 as_X7_add_2_w3 M0 M' ∧ ∃ v : Int, r = some (0, v) ∧ 0 ≤ v ∧ v ≤ 900
set_option maxRecDepth 100000 in
set_option maxHeartbeats 4000000 in
theorem sp_X7_add_2_w3 {l : Launch} {K : EC} {M0 : Mem} (hI : In Tru M0)  (a1 : Int) (ha1 : 3 ≤ a1 ∧ a1 ≤ 5) (a2 : Int) (ha2 : 0 ≤ a2 ∧ a2 ≤ 899) (a3 : Int) (ha3 : (-2147483648) ≤ a3 ∧ a3 ≤ 2147483647) (a4 : Int) (ha4 : 0 ≤ a4 ∧ a4 ≤ 900)  : Tr l K 0 mX7_add 0 [(0, (2, 2)), (1, (0, a1)), (2, (0, a2)), (3, (0, a3)), (4, (0, a4))] [] M0 (q_X7_add_2_w3 M0) := by
  have hS : St Tru ws_X7_add_2_w3 as_X7_add_2_w3 M0 M0 := St.rf hI
  refine Tr.aload_n (pc := 0) (i := 0) d_X7_add_0 rfl rfl ?_
  refine Tr.getf (pc := 1) d_X7_add_1 f_7_29 (by decide) (by decide) (ty_2 hS.1.1) ?_
  refine Tr.gen (P := fun v => 0 ≤ v ∧ v ≤ 901) (ir_2_3 hS.1.2.1) (fun r1 er1 br1 => ?_)
  refine Tr.aload_n (pc := 4) (i := 0) d_X7_add_4 rfl rfl ?_
  refine Tr.getf (pc := 5) d_X7_add_5 f_7_9 (by decide) (by decide) (ty_2 hS.1.1) ?_
  refine Tr.tp 3 (fx_2_0 hS.1.1) ?_
  refine Tr.alen (pc := 8) d_X7_add_8 (ty_3 hS.1.1) (by decide) (by decide) ?_
  refine Tr.tp 901 rfl ?_
  refine Tr.icmp_ge (pc := 9) (tgt := 52) d_X7_add_9 rfl (fun c9 => ?_) (fun c9 => ?_)
  · refine Tr.iload (pc := 52) (i := 4) d_X7_add_52 rfl ?_
    exact Tr.iret (pc := 54) d_X7_add_54 rfl ⟨hS, _, rfl, by omega, by omega⟩
  · refine Tr.aload_n (pc := 12) (i := 0) d_X7_add_12 rfl rfl ?_
    refine Tr.getf (pc := 13) d_X7_add_13 f_7_9 (by decide) (by decide) (ty_2 hS.1.1) ?_
    refine Tr.tp 3 (fx_2_0 hS.1.1) ?_
    refine Tr.aload_n (pc := 16) (i := 0) d_X7_add_16 rfl rfl ?_
    refine Tr.getf (pc := 17) d_X7_add_17 f_7_29 (by decide) (by decide) (ty_2 hS.1.1) ?_
    refine Tr.tp r1 er1 ?_
    refine Tr.iload_n (pc := 20) (i := 1) d_X7_add_20 rfl rfl ?_
    refine Tr.iastS (pc := 21) (P := St Tru ws_X7_add_2_w3 as_X7_add_2_w3 M0) d_X7_add_21 (ty_3 hS.1.1) (by omega) (by omega) (sa_3 hS (by decide) (by omega) trivial) (fun M21 hS w21 => ?_)
    refine Tr.aload_n (pc := 22) (i := 0) d_X7_add_22 rfl rfl ?_
    refine Tr.getf (pc := 23) d_X7_add_23 f_7_15 (by decide) (by decide) (ty_2 hS.1.1) ?_
    refine Tr.tp 4 (fx_2_1 hS.1.1) ?_
    refine Tr.aload_n (pc := 26) (i := 0) d_X7_add_26 rfl rfl ?_
    refine Tr.getf (pc := 27) d_X7_add_27 f_7_29 (by decide) (by decide) (ty_2 hS.1.1) ?_
    refine Tr.tp r1 ((Wr.b w21 rfl).trans er1) ?_
    refine Tr.iload_n (pc := 30) (i := 2) d_X7_add_30 rfl rfl ?_
    refine Tr.iastS (pc := 31) (P := St Tru ws_X7_add_2_w3 as_X7_add_2_w3 M0) d_X7_add_31 (ty_4 hS.1.1) (by omega) (by omega) (sa_4 hS (by decide) (by omega) trivial) (fun M31 hS w31 => ?_)
    refine Tr.aload_n (pc := 32) (i := 0) d_X7_add_32 rfl rfl ?_
    refine Tr.getf (pc := 33) d_X7_add_33 f_7_18 (by decide) (by decide) (ty_2 hS.1.1) ?_
    refine Tr.tp 5 (fx_2_2 hS.1.1) ?_
    refine Tr.aload_n (pc := 36) (i := 0) d_X7_add_36 rfl rfl ?_
    refine Tr.getf (pc := 37) d_X7_add_37 f_7_29 (by decide) (by decide) (ty_2 hS.1.1) ?_
    refine Tr.tp r1 ((Wr.b w31 rfl).trans ((Wr.b w21 rfl).trans er1)) ?_
    refine Tr.iload_n (pc := 40) (i := 3) d_X7_add_40 rfl rfl ?_
    refine Tr.iastS (pc := 41) (P := St Tru ws_X7_add_2_w3 as_X7_add_2_w3 M0) d_X7_add_41 (ty_5 hS.1.1) (by omega) (by omega) (sa_5 hS (by decide) (by omega) trivial) (fun M41 hS w41 => ?_)
    refine Tr.aload_n (pc := 42) (i := 0) d_X7_add_42 rfl rfl ?_
    refine Tr.dup (pc := 43) d_X7_add_43 ne21 ?_
    refine Tr.getf (pc := 44) d_X7_add_44 f_7_29 (by decide) (by decide) (ty_2 hS.1.1) ?_
    refine Tr.tp r1 ((Wr.b w41 rfl).trans ((Wr.b w31 rfl).trans ((Wr.b w21 rfl).trans er1))) ?_
    refine Tr.iconst (pc := 47) d_X7_add_47 (by decide) ?_
    refine Tr.iadd (pc := 48) d_X7_add_48 ?_
    refine Tr.tp (r1 + 1) ((w32_id (by omega)).trans (by omega)) ?_
    refine Tr.putfS (pc := 49) (P := St Tru ws_X7_add_2_w3 as_X7_add_2_w3 M0) d_X7_add_49 f_7_29 (by decide) (by decide) (ty_2 hS.1.1) (st_2_3 hS (by decide) (by omega) trivial) (fun M49 hS w49 => ?_)
    refine Tr.iload (pc := 52) (i := 4) d_X7_add_52 rfl ?_
    exact Tr.iret (pc := 54) d_X7_add_54 rfl ⟨hS, _, rfl, by omega, by omega⟩
