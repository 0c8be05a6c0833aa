def ws_X12_run_120 : List (Int × Int) := [(120, 59), (120, 60), (120, 61), (120, 62), (120, 63), (120, 64), (120, 65), (120, 66), (120, 67), (120, 68), (120, 70), (120, 75), (120, 79), (120, 84), (120, 85), (120, 86), (120, 87), (120, 88), (120, 89), (120, 90), (120, 91), (120, 95), (120, 96)]
def as_X12_run_120 : List Int := [154, 155, 156, 157, 158, 159, 160, 161, 162, 163, 164, 165, 166, 167, 168, 169, 170, 171, 172, 173, 174, 175]
def q_X12_run_120 (a1 : Int) (M0 M' : Mem) (r : Option PV) : Prop := St Tru ws_X12_run_120 as_X12_run_120 M0 M' ∧ ∃ v : Int, r = some (0, v) ∧ (-2) ≤ v ∧ v ≤ 2 ∧ (rd M' 120 59 = -1)
set_option maxRecDepth 100000 in
set_option maxHeartbeats 4000000 in
theorem sp_X12_run_120 {l : Launch} {K : EC} {M0 : Mem} (hI : In Tru M0) (en_120_12 : rd M0 120 12 = 0) (a1 : Int) (ha1 : (-2147483648) ≤ a1 ∧ a1 ≤ 2147483647)  (hq0 : rd M0 120 59 = -1) (hF_Bk0 : Bk0 M0) : Tr l K 8 mX12_run 0 [(0, (2, 120)), (1, (0, a1))] [] M0 (q_X12_run_120 a1 M0) := by
  have hS : St Tru ws_X12_run_120 as_X12_run_120 M0 M0 := St.rf hI
  obtain ⟨g120_59, eg120_59⟩ : ∃ v, rd M0 120 59 = v := ⟨_, rfl⟩
  have bg120_59 : (-1) ≤ g120_59 ∧ g120_59 ≤ 5 := by rw [← eg120_59]; exact ir_120_59 hI.2.1
  refine Tr.iload_n (pc := 0) (i := 1) d_X12_run_0 rfl rfl ?_
  refine Tr.iconst (pc := 1) d_X12_run_1 (by decide) ?_
  refine Tr.icmp_ge (pc := 2) (tgt := 8) d_X12_run_2 rfl (fun c2 => ?_) (fun c2 => ?_)
  · refine Tr.iconst (pc := 8) d_X12_run_8 (by decide) ?_
    refine Tr.istore_n (pc := 9) (i := 2) (ls2 := [(2, (0, 0)), (0, (2, 120)), (1, (0, a1))]) d_X12_run_9 rfl (by decide) rfl ?_
    have J10 : ∀ (n10 : Nat) (M : Mem) (p10_2 : Int), St Tru ws_X12_run_120 as_X12_run_120 M0 M → (0 ≤ p10_2 ∧ p10_2 ≤ 3) → rd M 120 59 = g120_59 → (g120_59 = -1) → (3 - p10_2).toNat < n10 → Tr l K 8 mX12_run 10 [(0, (2, 120)), (1, (0, a1)), (2, (0, p10_2))] [] M (q_X12_run_120 a1 M0) := by
      intro n10
      induction n10 with
      | zero => intro M p10_2 hS bp10_2 k10_120_59 t10_0 hm10; exact absurd hm10 (Nat.not_lt_zero _)
      | succ n10 J10 =>
        intro M p10_2 hS bp10_2 k10_120_59 t10_0 hm10
        refine Tr.iload_n (pc := 10) (i := 2) d_X12_run_10 rfl rfl ?_
        refine Tr.iconst (pc := 11) d_X12_run_11 (by decide) ?_
        refine Tr.icmp_ge (pc := 12) (tgt := 33) d_X12_run_12 rfl (fun c12 => ?_) (fun c12 => ?_)
        · refine Tr.aload_n (pc := 33) (i := 0) d_X12_run_33 rfl rfl ?_
          refine Tr.iconst (pc := 34) d_X12_run_34 (by decide) ?_
          refine Tr.putzS (pc := 35) (P := St Tru ws_X12_run_120 as_X12_run_120 M0) d_X12_run_35 f_12_225 (by decide) (ty_120 hS.1.1) (by omega) (st_120_70 hS (by decide) (by omega) trivial) (fun M35 hS w35 => ?_)
          refine Tr.aload_n (pc := 38) (i := 0) d_X12_run_38 rfl rfl ?_
          refine Tr.iload_n (pc := 39) (i := 1) d_X12_run_39 rfl rfl ?_
          refine Tr.i2l (pc := 40) d_X12_run_40 ?_
          refine Tr.callV (pc := 41) (as := [_]) d_X12_run_41 s_12_637 ok_X12_runs rfl rfl (Nat.le_of_ble_eq_true rfl) (Nat.le_of_ble_eq_true rfl) (by decide) (ty_120 hS.1.1) ?_
          have kb41_120_59 : rd M35 120 59 = g120_59 := ((Wr.b w35 rfl).trans k10_120_59)
          refine Tr.imp (Tr.deep (by decide) (sp_X12_runs_120_w1 hS.1 ((St.kp hS (by decide) (by decide) (by decide)).trans en_120_12) a1 (by omega) (by omega) (Bk0.of hF_Bk0 (fun j => St.ka hS (by decide) (by decide) (by decide)) (fun j => St.ka hS (by decide) (by decide) (by decide)) (fun j => St.ka hS (by decide) (by decide) (by decide)) (fun j => St.ka hS (by decide) (by decide) (by decide)) (fun j => St.ka hS (by decide) (by decide) (by decide)) (fun j => St.ka hS (by decide) (by decide) (by decide)) (fun j => St.ka hS (by decide) (by decide) (by decide)) (fun j => St.ka hS (by decide) (by decide) (by decide)) (St.kp hS (by decide) (by decide) (by decide)) (St.kp hS (by decide) (by decide) (by decide)) (St.kp hS (by decide) (by decide) (by decide)) (St.kp hS (by decide) (by decide) (by decide))))) ?_
          rintro M41 _ ⟨h41, r41, rfl, lr41, ur41, z41_0⟩
          have hS := St.tr hS h41 (by decide) (by decide)
          obtain ⟨s41_120_59, es41_120_59⟩ : ∃ v, rd M41 120 59 = v := ⟨_, rfl⟩
          have bs41_120_59 : (-1) ≤ s41_120_59 ∧ s41_120_59 ≤ 5 := by rw [← es41_120_59]; exact ir_120_59 hS.1.2.1
          refine Tr.sc [(0, r41)] rfl ?_
          refine Tr.istore_n (pc := 44) (i := 2) (ls2 := [(2, (0, r41)), (0, (2, 120)), (1, (0, a1))]) d_X12_run_44 rfl (by decide) rfl ?_
          refine Tr.aload_n (pc := 45) (i := 0) d_X12_run_45 rfl rfl ?_
          refine Tr.iconst (pc := 46) d_X12_run_46 (by decide) ?_
          refine Tr.putzS (pc := 47) (P := St Tru ws_X12_run_120 as_X12_run_120 M0) d_X12_run_47 f_12_225 (by decide) (ty_120 hS.1.1) (by omega) (st_120_70 hS (by decide) (by omega) trivial) (fun M47 hS w47 => ?_)
          refine Tr.aload_n (pc := 50) (i := 0) d_X12_run_50 rfl rfl ?_
          refine Tr.iconst (pc := 51) d_X12_run_51 (by decide) ?_
          refine Tr.putzS (pc := 52) (P := St Tru ws_X12_run_120 as_X12_run_120 M0) d_X12_run_52 f_12_270 (by decide) (ty_120 hS.1.1) (by omega) (st_120_85 hS (by decide) (by omega) trivial) (fun M52 hS w52 => ?_)
          refine Tr.aload_n (pc := 55) (i := 0) d_X12_run_55 rfl rfl ?_
          refine Tr.aload_n (pc := 56) (i := 0) d_X12_run_56 rfl rfl ?_
          refine Tr.getf (pc := 57) d_X12_run_57 f_12_201 (by decide) (by decide) (ty_120 hS.1.1) ?_
          refine Tr.gen (P := fun v => 0 ≤ v ∧ v ≤ 2060) (ir_120_62 hS.1.2.1) (fun r57 er57 br57 => ?_)
          refine Tr.putfS (pc := 60) (P := St Tru ws_X12_run_120 as_X12_run_120 M0) d_X12_run_60 f_12_273 (by decide) (by decide) (ty_120 hS.1.1) (st_120_86 hS (by decide) (by omega) trivial) (fun M60 hS w60 => ?_)
          refine Tr.aload_n (pc := 63) (i := 0) d_X12_run_63 rfl rfl ?_
          refine Tr.aload_n (pc := 64) (i := 0) d_X12_run_64 rfl rfl ?_
          refine Tr.getf (pc := 65) d_X12_run_65 f_12_204 (by decide) (by decide) (ty_120 hS.1.1) ?_
          refine Tr.gen (P := fun v => (-9223372036854775808) ≤ v ∧ v ≤ 9223372036854775807) (ir_120_63 hS.1.2.1) (fun r65 er65 br65 => ?_)
          refine Tr.putfS (pc := 68) (P := St Tru ws_X12_run_120 as_X12_run_120 M0) d_X12_run_68 f_12_276 (by decide) (by decide) (ty_120 hS.1.1) (st_120_87 hS (by decide) (by omega) trivial) (fun M68 hS w68 => ?_)
          refine Tr.aload_n (pc := 71) (i := 0) d_X12_run_71 rfl rfl ?_
          refine Tr.aload_n (pc := 72) (i := 0) d_X12_run_72 rfl rfl ?_
          refine Tr.getf (pc := 73) d_X12_run_73 f_12_210 (by decide) (by decide) (ty_120 hS.1.1) ?_
          refine Tr.gen (P := fun v => (-2147483648) ≤ v ∧ v ≤ 2147483647) (ir_120_65 hS.1.2.1) (fun r73 er73 br73 => ?_)
          refine Tr.putfS (pc := 76) (P := St Tru ws_X12_run_120 as_X12_run_120 M0) d_X12_run_76 f_12_279 (by decide) (by decide) (ty_120 hS.1.1) (st_120_88 hS (by decide) (by omega) trivial) (fun M76 hS w76 => ?_)
          refine Tr.aload_n (pc := 79) (i := 0) d_X12_run_79 rfl rfl ?_
          refine Tr.aload_n (pc := 80) (i := 0) d_X12_run_80 rfl rfl ?_
          refine Tr.getf (pc := 81) d_X12_run_81 f_12_213 (by decide) (by decide) (ty_120 hS.1.1) ?_
          refine Tr.gen (P := fun v => (-2147483648) ≤ v ∧ v ≤ 2147483647) (ir_120_66 hS.1.2.1) (fun r81 er81 br81 => ?_)
          refine Tr.putfS (pc := 84) (P := St Tru ws_X12_run_120 as_X12_run_120 M0) d_X12_run_84 f_12_282 (by decide) (by decide) (ty_120 hS.1.1) (st_120_89 hS (by decide) (by omega) trivial) (fun M84 hS w84 => ?_)
          refine Tr.aload_n (pc := 87) (i := 0) d_X12_run_87 rfl rfl ?_
          refine Tr.aload_n (pc := 88) (i := 0) d_X12_run_88 rfl rfl ?_
          refine Tr.getf (pc := 89) d_X12_run_89 f_12_216 (by decide) (by decide) (ty_120 hS.1.1) ?_
          refine Tr.gen (P := fun v => (-2147483648) ≤ v ∧ v ≤ 2147483647) (ir_120_67 hS.1.2.1) (fun r89 er89 br89 => ?_)
          refine Tr.putfS (pc := 92) (P := St Tru ws_X12_run_120 as_X12_run_120 M0) d_X12_run_92 f_12_285 (by decide) (by decide) (ty_120 hS.1.1) (st_120_90 hS (by decide) (by omega) trivial) (fun M92 hS w92 => ?_)
          refine Tr.aload_n (pc := 95) (i := 0) d_X12_run_95 rfl rfl ?_
          refine Tr.aload_n (pc := 96) (i := 0) d_X12_run_96 rfl rfl ?_
          refine Tr.getf (pc := 97) d_X12_run_97 f_12_267 (by decide) (by decide) (ty_120 hS.1.1) ?_
          refine Tr.gen (P := fun v => (-2147483648) ≤ v ∧ v ≤ 2147483647) (ir_120_84 hS.1.2.1) (fun r97 er97 br97 => ?_)
          refine Tr.putfS (pc := 100) (P := St Tru ws_X12_run_120 as_X12_run_120 M0) d_X12_run_100 f_12_288 (by decide) (by decide) (ty_120 hS.1.1) (st_120_91 hS (by decide) (by omega) trivial) (fun M100 hS w100 => ?_)
          refine Tr.aload_n (pc := 103) (i := 0) d_X12_run_103 rfl rfl ?_
          refine Tr.aload_n (pc := 104) (i := 0) d_X12_run_104 rfl rfl ?_
          refine Tr.getf (pc := 105) d_X12_run_105 f_12_240 (by decide) (by decide) (ty_120 hS.1.1) ?_
          refine Tr.gen (P := fun v => 0 ≤ v ∧ v ≤ 2100) (ir_120_75 hS.1.2.1) (fun r105 er105 br105 => ?_)
          refine Tr.putfS (pc := 108) (P := St Tru ws_X12_run_120 as_X12_run_120 M0) d_X12_run_108 f_12_300 (by decide) (by decide) (ty_120 hS.1.1) (st_120_95 hS (by decide) (by omega) trivial) (fun M108 hS w108 => ?_)
          refine Tr.aload_n (pc := 111) (i := 0) d_X12_run_111 rfl rfl ?_
          refine Tr.aload_n (pc := 112) (i := 0) d_X12_run_112 rfl rfl ?_
          refine Tr.getf (pc := 113) d_X12_run_113 f_12_252 (by decide) (by decide) (ty_120 hS.1.1) ?_
          refine Tr.gen (P := fun v => 0 ≤ v ∧ v ≤ 2100) (ir_120_79 hS.1.2.1) (fun r113 er113 br113 => ?_)
          refine Tr.putfS (pc := 116) (P := St Tru ws_X12_run_120 as_X12_run_120 M0) d_X12_run_116 f_12_303 (by decide) (by decide) (ty_120 hS.1.1) (st_120_96 hS (by decide) (by omega) trivial) (fun M116 hS w116 => ?_)
          refine Tr.iconst (pc := 119) d_X12_run_119 (by decide) ?_
          refine Tr.istore_n (pc := 120) (i := 3) (ls2 := [(3, (0, 0)), (2, (0, r41)), (0, (2, 120)), (1, (0, a1))]) d_X12_run_120 rfl (by decide) rfl ?_
          have J121 : ∀ (n121 : Nat) (M : Mem) (p121_3 : Int), St Tru ws_X12_run_120 as_X12_run_120 M0 M → (0 ≤ p121_3 ∧ p121_3 ≤ 6) → rd M 120 59 = s41_120_59 → rd M 120 62 = r57 → rd M 120 63 = r65 → rd M 120 65 = r73 → rd M 120 66 = r81 → rd M 120 67 = r89 → rd M 120 70 = 0 → rd M 120 75 = r105 → rd M 120 79 = r113 → rd M 120 84 = r97 → rd M 120 85 = 1 → rd M 120 86 = r57 → rd M 120 87 = r65 → rd M 120 88 = r73 → rd M 120 89 = r81 → rd M 120 90 = r89 → rd M 120 91 = r97 → rd M 120 95 = r105 → rd M 120 96 = r113 → (s41_120_59 = -1) → (6 - p121_3).toNat < n121 → Tr l K 8 mX12_run 121 [(0, (2, 120)), (2, (0, r41)), (3, (0, p121_3))] [] M (q_X12_run_120 a1 M0) := by
            intro n121
            induction n121 with
            | zero => intro M p121_3 hS bp121_3 k121_120_59 k121_120_62 k121_120_63 k121_120_65 k121_120_66 k121_120_67 k121_120_70 k121_120_75 k121_120_79 k121_120_84 k121_120_85 k121_120_86 k121_120_87 k121_120_88 k121_120_89 k121_120_90 k121_120_91 k121_120_95 k121_120_96 t121_0 hm121; exact absurd hm121 (Nat.not_lt_zero _)
            | succ n121 J121 =>
              intro M p121_3 hS bp121_3 k121_120_59 k121_120_62 k121_120_63 k121_120_65 k121_120_66 k121_120_67 k121_120_70 k121_120_75 k121_120_79 k121_120_84 k121_120_85 k121_120_86 k121_120_87 k121_120_88 k121_120_89 k121_120_90 k121_120_91 k121_120_95 k121_120_96 t121_0 hm121
              refine Tr.iload_n (pc := 121) (i := 3) d_X12_run_121 rfl rfl ?_
              refine Tr.bipush (pc := 122) d_X12_run_122 rfl (by decide) ?_
              refine Tr.icmp_ge (pc := 124) (tgt := 145) d_X12_run_124 rfl (fun c124 => ?_) (fun c124 => ?_)
              · refine Tr.iconst (pc := 145) d_X12_run_145 (by decide) ?_
                refine Tr.istore_n (pc := 146) (i := 3) (ls2 := [(3, (0, 0)), (0, (2, 120)), (2, (0, r41))]) d_X12_run_146 rfl (by decide) rfl ?_
                have J147 : ∀ (n147 : Nat) (M : Mem) (p147_3 : Int), St Tru ws_X12_run_120 as_X12_run_120 M0 M → (0 ≤ p147_3 ∧ p147_3 ≤ 24) → rd M 120 59 = s41_120_59 → rd M 120 62 = r57 → rd M 120 63 = r65 → rd M 120 65 = r73 → rd M 120 66 = r81 → rd M 120 67 = r89 → rd M 120 70 = 0 → rd M 120 75 = r105 → rd M 120 79 = r113 → rd M 120 84 = r97 → rd M 120 85 = 1 → rd M 120 86 = r57 → rd M 120 87 = r65 → rd M 120 88 = r73 → rd M 120 89 = r81 → rd M 120 90 = r89 → rd M 120 91 = r97 → rd M 120 95 = r105 → rd M 120 96 = r113 → (s41_120_59 = -1) → (24 - p147_3).toNat < n147 → Tr l K 8 mX12_run 147 [(0, (2, 120)), (2, (0, r41)), (3, (0, p147_3))] [] M (q_X12_run_120 a1 M0) := by
                  intro n147
                  induction n147 with
                  | zero => intro M p147_3 hS bp147_3 k147_120_59 k147_120_62 k147_120_63 k147_120_65 k147_120_66 k147_120_67 k147_120_70 k147_120_75 k147_120_79 k147_120_84 k147_120_85 k147_120_86 k147_120_87 k147_120_88 k147_120_89 k147_120_90 k147_120_91 k147_120_95 k147_120_96 t147_0 hm147; exact absurd hm147 (Nat.not_lt_zero _)
                  | succ n147 J147 =>
                    intro M p147_3 hS bp147_3 k147_120_59 k147_120_62 k147_120_63 k147_120_65 k147_120_66 k147_120_67 k147_120_70 k147_120_75 k147_120_79 k147_120_84 k147_120_85 k147_120_86 k147_120_87 k147_120_88 k147_120_89 k147_120_90 k147_120_91 k147_120_95 k147_120_96 t147_0 hm147
                    refine Tr.iload_n (pc := 147) (i := 3) d_X12_run_147 rfl rfl ?_
                    refine Tr.bipush (pc := 148) d_X12_run_148 rfl (by decide) ?_
                    refine Tr.icmp_ge (pc := 150) (tgt := 171) d_X12_run_150 rfl (fun c150 => ?_) (fun c150 => ?_)
                    · refine Tr.iconst (pc := 171) d_X12_run_171 (by decide) ?_
                      refine Tr.istore_n (pc := 172) (i := 3) (ls2 := [(3, (0, 0)), (0, (2, 120)), (2, (0, r41))]) d_X12_run_172 rfl (by decide) rfl ?_
                      have J173 : ∀ (n173 : Nat) (M : Mem) (p173_3 : Int), St Tru ws_X12_run_120 as_X12_run_120 M0 M → (0 ≤ p173_3 ∧ p173_3 ≤ 6) → rd M 120 59 = s41_120_59 → rd M 120 62 = r57 → rd M 120 63 = r65 → rd M 120 65 = r73 → rd M 120 66 = r81 → rd M 120 67 = r89 → rd M 120 70 = 0 → rd M 120 75 = r105 → rd M 120 79 = r113 → rd M 120 84 = r97 → rd M 120 85 = 1 → rd M 120 86 = r57 → rd M 120 87 = r65 → rd M 120 88 = r73 → rd M 120 89 = r81 → rd M 120 90 = r89 → rd M 120 91 = r97 → rd M 120 95 = r105 → rd M 120 96 = r113 → (s41_120_59 = -1) → (6 - p173_3).toNat < n173 → Tr l K 8 mX12_run 173 [(0, (2, 120)), (2, (0, r41)), (3, (0, p173_3))] [] M (q_X12_run_120 a1 M0) := by
                        intro n173
                        induction n173 with
                        | zero => intro M p173_3 hS bp173_3 k173_120_59 k173_120_62 k173_120_63 k173_120_65 k173_120_66 k173_120_67 k173_120_70 k173_120_75 k173_120_79 k173_120_84 k173_120_85 k173_120_86 k173_120_87 k173_120_88 k173_120_89 k173_120_90 k173_120_91 k173_120_95 k173_120_96 t173_0 hm173; exact absurd hm173 (Nat.not_lt_zero _)
                        | succ n173 J173 =>
                          intro M p173_3 hS bp173_3 k173_120_59 k173_120_62 k173_120_63 k173_120_65 k173_120_66 k173_120_67 k173_120_70 k173_120_75 k173_120_79 k173_120_84 k173_120_85 k173_120_86 k173_120_87 k173_120_88 k173_120_89 k173_120_90 k173_120_91 k173_120_95 k173_120_96 t173_0 hm173
                          refine Tr.iload_n (pc := 173) (i := 3) d_X12_run_173 rfl rfl ?_
                          refine Tr.bipush (pc := 174) d_X12_run_174 rfl (by decide) ?_
                          refine Tr.icmp_ge (pc := 176) (tgt := 222) d_X12_run_176 rfl (fun c176 => ?_) (fun c176 => ?_)
                          · refine Tr.iload_n (pc := 222) (i := 2) d_X12_run_222 rfl rfl ?_
                            have kr_120_59 : rd M 120 59 = s41_120_59 := k173_120_59
                            exact Tr.iret (pc := 223) d_X12_run_223 rfl ⟨hS, _, rfl, by omega, by omega, by omega⟩
                          · refine Tr.aload_n (pc := 179) (i := 0) d_X12_run_179 rfl rfl ?_
                            refine Tr.getf (pc := 180) d_X12_run_180 f_12_297 (by decide) (by decide) (ty_120 hS.1.1) ?_
                            refine Tr.tp 175 (fx_120_94 hS.1.1) ?_
                            refine Tr.iload_n (pc := 183) (i := 3) d_X12_run_183 rfl rfl ?_
                            refine Tr.aload_n (pc := 184) (i := 0) d_X12_run_184 rfl rfl ?_
                            refine Tr.getf (pc := 185) d_X12_run_185 f_12_177 (by decide) (by decide) (ty_120 hS.1.1) ?_
                            refine Tr.tp 156 (fx_120_54 hS.1.1) ?_
                            refine Tr.iload_n (pc := 188) (i := 3) d_X12_run_188 rfl rfl ?_
                            refine Tr.zald (pc := 189) d_X12_run_189 (ty_156 hS.1.1) (by omega) (by omega) ?_
                            refine Tr.gen (P := fun v => 0 ≤ v ∧ v ≤ 1) (ar_156 hS.1.2.1 _) (fun r189 er189 br189 => ?_)
                            have J215 : ∀ (M : Mem) (q215_1 q215_2 : Int), St Tru ws_X12_run_120 as_X12_run_120 M0 M → (0 ≤ q215_1 ∧ q215_1 ≤ 5) → (0 ≤ q215_2 ∧ q215_2 ≤ 1) → rd M 120 59 = s41_120_59 → rd M 120 62 = r57 → rd M 120 63 = r65 → rd M 120 65 = r73 → rd M 120 66 = r81 → rd M 120 67 = r89 → rd M 120 70 = 0 → rd M 120 75 = r105 → rd M 120 79 = r113 → rd M 120 84 = r97 → rd M 120 85 = 1 → rd M 120 86 = r57 → rd M 120 87 = r65 → rd M 120 88 = r73 → rd M 120 89 = r81 → rd M 120 90 = r89 → rd M 120 91 = r97 → rd M 120 95 = r105 → rd M 120 96 = r113 → (s41_120_59 = -1) → Tr l K 8 mX12_run 215 [(0, (2, 120)), (2, (0, r41)), (3, (0, p173_3))] [(0, q215_2), (0, q215_1), (2, 175)] M (q_X12_run_120 a1 M0) := by
                              intro M q215_1 q215_2 hS bq215_1 bq215_2 k215_120_59 k215_120_62 k215_120_63 k215_120_65 k215_120_66 k215_120_67 k215_120_70 k215_120_75 k215_120_79 k215_120_84 k215_120_85 k215_120_86 k215_120_87 k215_120_88 k215_120_89 k215_120_90 k215_120_91 k215_120_95 k215_120_96 t215_0
                              refine Tr.zastS (pc := 215) (P := St Tru ws_X12_run_120 as_X12_run_120 M0) d_X12_run_215 (ty_175 hS.1.1) (by omega) (by omega) (by omega) (sa_175 hS (by decide) (by omega) trivial) (fun M215 hS w215 => ?_)
                              refine Tr.iincV (pc := 216) (n2 := (p173_3 + 1)) (ls2 := [(3, (0, (p173_3 + 1))), (0, (2, 120)), (2, (0, r41))]) d_X12_run_216 rfl (by decide) ((w32_id (by omega)).trans (by omega)) rfl ?_
                              refine Tr.goto (pc := 219) (tgt := 173) d_X12_run_219 rfl ?_
                              refine Tr.pick [1, 2, 0] (ls2 := [(0, (2, 120)), (2, (0, r41)), (3, (0, (p173_3 + 1)))]) rfl ?_
                              exact J173 _ _ hS (by omega) ((Wr.b w215 rfl).trans k215_120_59) ((Wr.b w215 rfl).trans k215_120_62) ((Wr.b w215 rfl).trans k215_120_63) ((Wr.b w215 rfl).trans k215_120_65) ((Wr.b w215 rfl).trans k215_120_66) ((Wr.b w215 rfl).trans k215_120_67) ((Wr.b w215 rfl).trans k215_120_70) ((Wr.b w215 rfl).trans k215_120_75) ((Wr.b w215 rfl).trans k215_120_79) ((Wr.b w215 rfl).trans k215_120_84) ((Wr.b w215 rfl).trans k215_120_85) ((Wr.b w215 rfl).trans k215_120_86) ((Wr.b w215 rfl).trans k215_120_87) ((Wr.b w215 rfl).trans k215_120_88) ((Wr.b w215 rfl).trans k215_120_89) ((Wr.b w215 rfl).trans k215_120_90) ((Wr.b w215 rfl).trans k215_120_91) ((Wr.b w215 rfl).trans k215_120_95) ((Wr.b w215 rfl).trans k215_120_96) (by omega) (by omega)
                            have J214 : ∀ (M : Mem) (q214_1 : Int), St Tru ws_X12_run_120 as_X12_run_120 M0 M → (0 ≤ q214_1 ∧ q214_1 ≤ 5) → rd M 120 59 = s41_120_59 → rd M 120 62 = r57 → rd M 120 63 = r65 → rd M 120 65 = r73 → rd M 120 66 = r81 → rd M 120 67 = r89 → rd M 120 70 = 0 → rd M 120 75 = r105 → rd M 120 79 = r113 → rd M 120 84 = r97 → rd M 120 85 = 1 → rd M 120 86 = r57 → rd M 120 87 = r65 → rd M 120 88 = r73 → rd M 120 89 = r81 → rd M 120 90 = r89 → rd M 120 91 = r97 → rd M 120 95 = r105 → rd M 120 96 = r113 → (s41_120_59 = -1) → Tr l K 8 mX12_run 214 [(0, (2, 120)), (2, (0, r41)), (3, (0, p173_3))] [(0, q214_1), (2, 175)] M (q_X12_run_120 a1 M0) := by
                              intro M q214_1 hS bq214_1 k214_120_59 k214_120_62 k214_120_63 k214_120_65 k214_120_66 k214_120_67 k214_120_70 k214_120_75 k214_120_79 k214_120_84 k214_120_85 k214_120_86 k214_120_87 k214_120_88 k214_120_89 k214_120_90 k214_120_91 k214_120_95 k214_120_96 t214_0
                              refine Tr.iconst (pc := 214) d_X12_run_214 (by decide) ?_
                              refine Tr.pick [0, 1, 2] (ls2 := [(0, (2, 120)), (2, (0, r41)), (3, (0, p173_3))]) rfl ?_
                              exact J215 _ _ _ hS (by omega) (by omega) k214_120_59 k214_120_62 k214_120_63 k214_120_65 k214_120_66 k214_120_67 k214_120_70 k214_120_75 k214_120_79 k214_120_84 k214_120_85 k214_120_86 k214_120_87 k214_120_88 k214_120_89 k214_120_90 k214_120_91 k214_120_95 k214_120_96 (by omega)
                            refine Tr.if_ne (pc := 190) (tgt := 214) d_X12_run_190 rfl (fun c190 => ?_) (fun c190 => ?_)
                            · refine Tr.pick [0, 1, 2] (ls2 := [(0, (2, 120)), (2, (0, r41)), (3, (0, p173_3))]) rfl ?_
                              exact J214 _ _ hS (by omega) k173_120_59 k173_120_62 k173_120_63 k173_120_65 k173_120_66 k173_120_67 k173_120_70 k173_120_75 k173_120_79 k173_120_84 k173_120_85 k173_120_86 k173_120_87 k173_120_88 k173_120_89 k173_120_90 k173_120_91 k173_120_95 k173_120_96 (by omega)
                            · refine Tr.aload_n (pc := 193) (i := 0) d_X12_run_193 rfl rfl ?_
                              refine Tr.getf (pc := 194) d_X12_run_194 f_12_183 (by decide) (by decide) (ty_120 hS.1.1) ?_
                              refine Tr.tp 158 (fx_120_56 hS.1.1) ?_
                              refine Tr.iload_n (pc := 197) (i := 3) d_X12_run_197 rfl rfl ?_
                              refine Tr.iald (pc := 198) d_X12_run_198 (ty_158 hS.1.1) (by omega) (by omega) ?_
                              refine Tr.gen (P := fun v => (-2147483648) ≤ v ∧ v ≤ 2147483647) (ar_158 hS.1.2.1 _) (fun r198 er198 br198 => ?_)
                              refine Tr.if_ne (pc := 199) (tgt := 214) d_X12_run_199 rfl (fun c199 => ?_) (fun c199 => ?_)
                              · refine Tr.pick [0, 1, 2] (ls2 := [(0, (2, 120)), (2, (0, r41)), (3, (0, p173_3))]) rfl ?_
                                exact J214 _ _ hS (by omega) k173_120_59 k173_120_62 k173_120_63 k173_120_65 k173_120_66 k173_120_67 k173_120_70 k173_120_75 k173_120_79 k173_120_84 k173_120_85 k173_120_86 k173_120_87 k173_120_88 k173_120_89 k173_120_90 k173_120_91 k173_120_95 k173_120_96 (by omega)
                              · refine Tr.iload_n (pc := 202) (i := 3) d_X12_run_202 rfl rfl ?_
                                refine Tr.aload_n (pc := 203) (i := 0) d_X12_run_203 rfl rfl ?_
                                refine Tr.getf (pc := 204) d_X12_run_204 f_12_195 (by decide) (by decide) (ty_120 hS.1.1) ?_
                                refine Tr.gen (P := fun v => (-2147483648) ≤ v ∧ v ≤ 2147483647) (ir_120_60 hS.1.2.1) (fun r204 er204 br204 => ?_)
                                refine Tr.icmp_eq (pc := 207) (tgt := 214) d_X12_run_207 rfl (fun c207 => ?_) (fun c207 => ?_)
                                · refine Tr.pick [0, 1, 2] (ls2 := [(0, (2, 120)), (2, (0, r41)), (3, (0, p173_3))]) rfl ?_
                                  exact J214 _ _ hS (by omega) k173_120_59 k173_120_62 k173_120_63 k173_120_65 k173_120_66 k173_120_67 k173_120_70 k173_120_75 k173_120_79 k173_120_84 k173_120_85 k173_120_86 k173_120_87 k173_120_88 k173_120_89 k173_120_90 k173_120_91 k173_120_95 k173_120_96 (by omega)
                                · refine Tr.iconst (pc := 210) d_X12_run_210 (by decide) ?_
                                  refine Tr.goto (pc := 211) (tgt := 215) d_X12_run_211 rfl ?_
                                  refine Tr.pick [0, 1, 2] (ls2 := [(0, (2, 120)), (2, (0, r41)), (3, (0, p173_3))]) rfl ?_
                                  exact J215 _ _ _ hS (by omega) (by omega) k173_120_59 k173_120_62 k173_120_63 k173_120_65 k173_120_66 k173_120_67 k173_120_70 k173_120_75 k173_120_79 k173_120_84 k173_120_85 k173_120_86 k173_120_87 k173_120_88 k173_120_89 k173_120_90 k173_120_91 k173_120_95 k173_120_96 (by omega)
                      refine Tr.pick [1, 2, 0] (ls2 := [(0, (2, 120)), (2, (0, r41)), (3, (0, 0))]) rfl ?_
                      exact J173 _ _ _ hS (by omega) k147_120_59 k147_120_62 k147_120_63 k147_120_65 k147_120_66 k147_120_67 k147_120_70 k147_120_75 k147_120_79 k147_120_84 k147_120_85 k147_120_86 k147_120_87 k147_120_88 k147_120_89 k147_120_90 k147_120_91 k147_120_95 k147_120_96 (by omega) (Nat.lt_succ_self _)
                    · refine Tr.aload_n (pc := 153) (i := 0) d_X12_run_153 rfl rfl ?_
                      refine Tr.getf (pc := 154) d_X12_run_154 f_12_294 (by decide) (by decide) (ty_120 hS.1.1) ?_
                      refine Tr.tp 174 (fx_120_93 hS.1.1) ?_
                      refine Tr.iload_n (pc := 157) (i := 3) d_X12_run_157 rfl rfl ?_
                      refine Tr.aload_n (pc := 158) (i := 0) d_X12_run_158 rfl rfl ?_
                      refine Tr.getf (pc := 159) d_X12_run_159 f_12_222 (by decide) (by decide) (ty_120 hS.1.1) ?_
                      refine Tr.tp 161 (fx_120_69 hS.1.1) ?_
                      refine Tr.iload_n (pc := 162) (i := 3) d_X12_run_162 rfl rfl ?_
                      refine Tr.iald (pc := 163) d_X12_run_163 (ty_161 hS.1.1) (by omega) (by omega) ?_
                      refine Tr.gen (P := fun v => (-2147483648) ≤ v ∧ v ≤ 2147483647) (ar_161 hS.1.2.1 _) (fun r163 er163 br163 => ?_)
                      refine Tr.iastS (pc := 164) (P := St Tru ws_X12_run_120 as_X12_run_120 M0) d_X12_run_164 (ty_174 hS.1.1) (by omega) (by omega) (sa_174 hS (by decide) (by omega) trivial) (fun M164 hS w164 => ?_)
                      refine Tr.iincV (pc := 165) (n2 := (p147_3 + 1)) (ls2 := [(3, (0, (p147_3 + 1))), (0, (2, 120)), (2, (0, r41))]) d_X12_run_165 rfl (by decide) ((w32_id (by omega)).trans (by omega)) rfl ?_
                      refine Tr.goto (pc := 168) (tgt := 147) d_X12_run_168 rfl ?_
                      refine Tr.pick [1, 2, 0] (ls2 := [(0, (2, 120)), (2, (0, r41)), (3, (0, (p147_3 + 1)))]) rfl ?_
                      exact J147 _ _ hS (by omega) ((Wr.b w164 rfl).trans k147_120_59) ((Wr.b w164 rfl).trans k147_120_62) ((Wr.b w164 rfl).trans k147_120_63) ((Wr.b w164 rfl).trans k147_120_65) ((Wr.b w164 rfl).trans k147_120_66) ((Wr.b w164 rfl).trans k147_120_67) ((Wr.b w164 rfl).trans k147_120_70) ((Wr.b w164 rfl).trans k147_120_75) ((Wr.b w164 rfl).trans k147_120_79) ((Wr.b w164 rfl).trans k147_120_84) ((Wr.b w164 rfl).trans k147_120_85) ((Wr.b w164 rfl).trans k147_120_86) ((Wr.b w164 rfl).trans k147_120_87) ((Wr.b w164 rfl).trans k147_120_88) ((Wr.b w164 rfl).trans k147_120_89) ((Wr.b w164 rfl).trans k147_120_90) ((Wr.b w164 rfl).trans k147_120_91) ((Wr.b w164 rfl).trans k147_120_95) ((Wr.b w164 rfl).trans k147_120_96) (by omega) (by omega)
                refine Tr.pick [1, 2, 0] (ls2 := [(0, (2, 120)), (2, (0, r41)), (3, (0, 0))]) rfl ?_
                exact J147 _ _ _ hS (by omega) k121_120_59 k121_120_62 k121_120_63 k121_120_65 k121_120_66 k121_120_67 k121_120_70 k121_120_75 k121_120_79 k121_120_84 k121_120_85 k121_120_86 k121_120_87 k121_120_88 k121_120_89 k121_120_90 k121_120_91 k121_120_95 k121_120_96 (by omega) (Nat.lt_succ_self _)
              · refine Tr.aload_n (pc := 127) (i := 0) d_X12_run_127 rfl rfl ?_
                refine Tr.getf (pc := 128) d_X12_run_128 f_12_291 (by decide) (by decide) (ty_120 hS.1.1) ?_
                refine Tr.tp 173 (fx_120_92 hS.1.1) ?_
                refine Tr.iload_n (pc := 131) (i := 3) d_X12_run_131 rfl rfl ?_
                refine Tr.aload_n (pc := 132) (i := 0) d_X12_run_132 rfl rfl ?_
                refine Tr.getf (pc := 133) d_X12_run_133 f_12_174 (by decide) (by decide) (ty_120 hS.1.1) ?_
                refine Tr.tp 155 (fx_120_53 hS.1.1) ?_
                refine Tr.iload_n (pc := 136) (i := 3) d_X12_run_136 rfl rfl ?_
                refine Tr.iald (pc := 137) d_X12_run_137 (ty_155 hS.1.1) (by omega) (by omega) ?_
                refine Tr.gen (P := fun v => (-2147483648) ≤ v ∧ v ≤ 2147483647) (ar_155 hS.1.2.1 _) (fun r137 er137 br137 => ?_)
                refine Tr.iastS (pc := 138) (P := St Tru ws_X12_run_120 as_X12_run_120 M0) d_X12_run_138 (ty_173 hS.1.1) (by omega) (by omega) (sa_173 hS (by decide) (by omega) trivial) (fun M138 hS w138 => ?_)
                refine Tr.iincV (pc := 139) (n2 := (p121_3 + 1)) (ls2 := [(3, (0, (p121_3 + 1))), (0, (2, 120)), (2, (0, r41))]) d_X12_run_139 rfl (by decide) ((w32_id (by omega)).trans (by omega)) rfl ?_
                refine Tr.goto (pc := 142) (tgt := 121) d_X12_run_142 rfl ?_
                refine Tr.pick [1, 2, 0] (ls2 := [(0, (2, 120)), (2, (0, r41)), (3, (0, (p121_3 + 1)))]) rfl ?_
                exact J121 _ _ hS (by omega) ((Wr.b w138 rfl).trans k121_120_59) ((Wr.b w138 rfl).trans k121_120_62) ((Wr.b w138 rfl).trans k121_120_63) ((Wr.b w138 rfl).trans k121_120_65) ((Wr.b w138 rfl).trans k121_120_66) ((Wr.b w138 rfl).trans k121_120_67) ((Wr.b w138 rfl).trans k121_120_70) ((Wr.b w138 rfl).trans k121_120_75) ((Wr.b w138 rfl).trans k121_120_79) ((Wr.b w138 rfl).trans k121_120_84) ((Wr.b w138 rfl).trans k121_120_85) ((Wr.b w138 rfl).trans k121_120_86) ((Wr.b w138 rfl).trans k121_120_87) ((Wr.b w138 rfl).trans k121_120_88) ((Wr.b w138 rfl).trans k121_120_89) ((Wr.b w138 rfl).trans k121_120_90) ((Wr.b w138 rfl).trans k121_120_91) ((Wr.b w138 rfl).trans k121_120_95) ((Wr.b w138 rfl).trans k121_120_96) (by omega) (by omega)
          refine Tr.pick [2, 1, 0] (ls2 := [(0, (2, 120)), (2, (0, r41)), (3, (0, 0))]) rfl ?_
          exact J121 _ _ _ hS (by omega) ((Wr.b w116 rfl).trans ((Wr.b w108 rfl).trans ((Wr.b w100 rfl).trans ((Wr.b w92 rfl).trans ((Wr.b w84 rfl).trans ((Wr.b w76 rfl).trans ((Wr.b w68 rfl).trans ((Wr.b w60 rfl).trans ((Wr.b w52 rfl).trans ((Wr.b w47 rfl).trans es41_120_59)))))))))) ((Wr.b w116 rfl).trans ((Wr.b w108 rfl).trans ((Wr.b w100 rfl).trans ((Wr.b w92 rfl).trans ((Wr.b w84 rfl).trans ((Wr.b w76 rfl).trans ((Wr.b w68 rfl).trans ((Wr.b w60 rfl).trans er57)))))))) ((Wr.b w116 rfl).trans ((Wr.b w108 rfl).trans ((Wr.b w100 rfl).trans ((Wr.b w92 rfl).trans ((Wr.b w84 rfl).trans ((Wr.b w76 rfl).trans ((Wr.b w68 rfl).trans er65))))))) ((Wr.b w116 rfl).trans ((Wr.b w108 rfl).trans ((Wr.b w100 rfl).trans ((Wr.b w92 rfl).trans ((Wr.b w84 rfl).trans ((Wr.b w76 rfl).trans er73)))))) ((Wr.b w116 rfl).trans ((Wr.b w108 rfl).trans ((Wr.b w100 rfl).trans ((Wr.b w92 rfl).trans ((Wr.b w84 rfl).trans er81))))) ((Wr.b w116 rfl).trans ((Wr.b w108 rfl).trans ((Wr.b w100 rfl).trans ((Wr.b w92 rfl).trans er89)))) ((Wr.b w116 rfl).trans ((Wr.b w108 rfl).trans ((Wr.b w100 rfl).trans ((Wr.b w92 rfl).trans ((Wr.b w84 rfl).trans ((Wr.b w76 rfl).trans ((Wr.b w68 rfl).trans ((Wr.b w60 rfl).trans ((Wr.b w52 rfl).trans w47.1))))))))) ((Wr.b w116 rfl).trans ((Wr.b w108 rfl).trans er105)) ((Wr.b w116 rfl).trans er113) ((Wr.b w116 rfl).trans ((Wr.b w108 rfl).trans ((Wr.b w100 rfl).trans er97))) ((Wr.b w116 rfl).trans ((Wr.b w108 rfl).trans ((Wr.b w100 rfl).trans ((Wr.b w92 rfl).trans ((Wr.b w84 rfl).trans ((Wr.b w76 rfl).trans ((Wr.b w68 rfl).trans ((Wr.b w60 rfl).trans w52.1)))))))) ((Wr.b w116 rfl).trans ((Wr.b w108 rfl).trans ((Wr.b w100 rfl).trans ((Wr.b w92 rfl).trans ((Wr.b w84 rfl).trans ((Wr.b w76 rfl).trans ((Wr.b w68 rfl).trans w60.1))))))) ((Wr.b w116 rfl).trans ((Wr.b w108 rfl).trans ((Wr.b w100 rfl).trans ((Wr.b w92 rfl).trans ((Wr.b w84 rfl).trans ((Wr.b w76 rfl).trans w68.1)))))) ((Wr.b w116 rfl).trans ((Wr.b w108 rfl).trans ((Wr.b w100 rfl).trans ((Wr.b w92 rfl).trans ((Wr.b w84 rfl).trans w76.1))))) ((Wr.b w116 rfl).trans ((Wr.b w108 rfl).trans ((Wr.b w100 rfl).trans ((Wr.b w92 rfl).trans w84.1)))) ((Wr.b w116 rfl).trans ((Wr.b w108 rfl).trans ((Wr.b w100 rfl).trans w92.1))) ((Wr.b w116 rfl).trans ((Wr.b w108 rfl).trans w100.1)) ((Wr.b w116 rfl).trans w108.1) w116.1 (by omega) (Nat.lt_succ_self _)
        · refine Tr.aload_n (pc := 15) (i := 0) d_X12_run_15 rfl rfl ?_
          refine Tr.getf (pc := 16) d_X12_run_16 f_12_171 (by decide) (by decide) (ty_120 hS.1.1) ?_
          refine Tr.tp 154 (fx_120_52 hS.1.1) ?_
          refine Tr.iload_n (pc := 19) (i := 2) d_X12_run_19 rfl rfl ?_
          refine Tr.aload_n (pc := 20) (i := 0) d_X12_run_20 rfl rfl ?_
          refine Tr.getf (pc := 21) d_X12_run_21 f_12_168 (by decide) (by decide) (ty_120 hS.1.1) ?_
          refine Tr.tp 153 (fx_120_51 hS.1.1) ?_
          refine Tr.iload_n (pc := 24) (i := 2) d_X12_run_24 rfl rfl ?_
          refine Tr.iald (pc := 25) d_X12_run_25 (ty_153 hS.1.1) (by omega) (by omega) ?_
          refine Tr.gen (P := fun v => (-2147483648) ≤ v ∧ v ≤ 2147483647) (ar_153 hS.1.2.1 _) (fun r25 er25 br25 => ?_)
          refine Tr.iastS (pc := 26) (P := St Tru ws_X12_run_120 as_X12_run_120 M0) d_X12_run_26 (ty_154 hS.1.1) (by omega) (by omega) (sa_154 hS (by decide) (by omega) trivial) (fun M26 hS w26 => ?_)
          refine Tr.iincV (pc := 27) (n2 := (p10_2 + 1)) (ls2 := [(2, (0, (p10_2 + 1))), (0, (2, 120)), (1, (0, a1))]) d_X12_run_27 rfl (by decide) ((w32_id (by omega)).trans (by omega)) rfl ?_
          refine Tr.goto (pc := 30) (tgt := 10) d_X12_run_30 rfl ?_
          refine Tr.pick [1, 2, 0] (ls2 := [(0, (2, 120)), (1, (0, a1)), (2, (0, (p10_2 + 1)))]) rfl ?_
          exact J10 _ _ hS (by omega) ((Wr.b w26 rfl).trans k10_120_59) (by omega) (by omega)
    refine Tr.pick [1, 2, 0] (ls2 := [(0, (2, 120)), (1, (0, a1)), (2, (0, 0))]) rfl ?_
    exact J10 _ _ _ hS (by omega) eg120_59 (by omega) (Nat.lt_succ_self _)
  · refine Tr.bipush (pc := 5) d_X12_run_5 rfl (by decide) ?_
    have kr_120_59 : rd M0 120 59 = g120_59 := eg120_59
    exact Tr.iret (pc := 7) d_X12_run_7 rfl ⟨hS, _, rfl, by omega, by omega, by omega⟩

