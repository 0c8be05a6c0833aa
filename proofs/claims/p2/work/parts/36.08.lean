def ws_X12_run_120 : List (Int × Int) := [(120, 59), (120, 60), (120, 61), (120, 62), (120, 63), (120, 64), (120, 65), (120, 66), (120, 67), (120, 68), (120, 70), (120, 75), (120, 79), (120, 84), (120, 85), (120, 86), (120, 87), (120, 88), (120, 89), (120, 90), (120, 91), (120, 95), (120, 96)]
def as_X12_run_120 : List Int := [154, 155, 156, 157, 158, 159, 160, 161, 162, 163, 164, 165, 166, 167, 168, 169, 170, 171, 172, 173, 174, 175]
def q_X12_run_120 (a1 : Int) (M0 M' : Mem) (r : Option PV) : Prop := St Tru ws_X12_run_120 as_X12_run_120 M0 M' ∧ ∃ v : Int, r = some (0, v) ∧ (-2) ≤ v ∧ v ≤ 2 ∧ (rd M' 120 59 = -1)
set_option maxRecDepth 100000 in
set_option maxHeartbeats 4000000 in
theorem sp_X12_run_120 {l : Launch} {K : EC} {M0 : Mem} (hI : In Tru M0) (en_120_12 : rd M0 120 12 = 0) (a1 : Int) (ha1 : (-2147483648) ≤ a1 ∧ a1 ≤ 2147483647)  (hq0 : rd M0 120 59 = -1) (hF_Bk0 : Bk0 M0) : Tr l K 8 mX12_run 0 [(0, (2, 120)), (1, (0, a1))] [] M0 (q_X12_run_120 a1 M0) := by
  have hS : St Tru ws_X12_run_120 as_X12_run_120 M0 M0 := St.rf hI
  obtain ⟨g120_59, eg120_59⟩ : ∃ v, rd M0 120 59 = v := ⟨_, rfl⟩
  have bg120_59 : (-1) ≤ g120_59 ∧ g120_59 ≤ 5 := by rw [← eg120_59]; exact ir_120_59 hI.2.1
  refine Tr.iload_n (pc := 0) (i := 1) d_X12_run_0 rfl rfl ?_
  refine Tr.iconst (pc := 1) d_X12_run_1 (by decide) ?_
  refine Tr.icmp_ge (pc := 2) (tgt := 8) d_X12_run_2 rfl (fun c2 => ?_) (fun c2 => ?_)
  · refine Tr.iconst (pc := 8) d_X12_run_8 (by decide) ?_
    refine Tr.istore_n (pc := 9) (i := 2) (ls2 := [(2, (0, 0)), (0, (2, 120)), (1, (0, a1))]) d_X12_run_9 rfl (by decide) rfl ?_
    have J10 : ∀ (n10 : Nat) (M : Mem) (p10_2 : Int), St Tru ws_X12_run_120 as_X12_run_120 M0 M → (0 ≤ p10_2 ∧ p10_2 ≤ 3) → rd M 120 59 = g120_59 → (g120_59 = -1) → (3 - p10_2).toNat < n10 → Tr l K 8 mX12_run 10 [(0, (2, 120)), (1, (0, a1)), (2, (0, p10_2))] [] M (q_X12_run_120 a1 M0) := by
      intro n10
      induction n10 with
      | zero => intro M p10_2 hS bp10_2 k10_120_59 t10_0 hm10; exact absurd hm10 (Nat.not_lt_zero _)
      | succ n10 J10 =>
        intro M p10_2 hS bp10_2 k10_120_59 t10_0 hm10
        refine Tr.iload_n (pc := 10) (i := 2) d_X12_run_10 rfl rfl ?_
        refine Tr.iconst (pc := 11) d_X12_run_11 (by decide) ?_
        refine Tr.icmp_ge (pc := 12) (tgt := 33) d_X12_run_12 rfl (fun c12 => ?_) (fun c12 => ?_)
        · refine Tr.aload_n (pc := 33) (i := 0) d_X12_run_33 rfl rfl ?_
          refine Tr.iconst (pc := 34) d_X12_run_34 (by decide) ?_
          refine Tr.putzS (pc := 35) (P := St Tru ws_X12_run_120 as_X12_run_120 M0) d_X12_run_35 f_12_225 (by decide) (ty_120 hS.1.1) (by omega) (st_120_70 hS (by decide) (by omega) trivial) (fun M35 hS w35 => ?_)
          refine Tr.aload_n (pc := 38) (i := 0) d_X12_run_38 rfl rfl ?_
          refine Tr.iload_n (pc := 39) (i := 1) d_X12_run_39 rfl rfl ?_
          refine Tr.i2l (pc := 40) d_X12_run_40 ?_
          refine Tr.callV (pc := 41) (as := [_]) d_X12_run_41 s_12_637 ok_X12_runs rfl rfl (Nat.le_of_ble_eq_true rfl) (Nat.le_of_ble_eq_true rfl) (by decide) (ty_120 hS.1.1) ?_
          have kb41_120_59 : rd M35 120 59 = g120_59 := ((Wr.b w35 rfl).trans k10_120_59)
          refine Tr.imp (Tr.deep (by decide) (sp_X12_runs_120_w1 hS.1 ((St.kp hS (by decide) (by decide) (by decide)).trans en_120_12) a1 (by omega) (by omega) (Bk0.of hF_Bk0 (fun j => St.ka hS (by decide) (by decide) (by decide)) (fun j => St.ka hS (by decide) (by decide) (by decide)) (fun j => St.ka hS (by decide) (by decide) (by decide)) (fun j => St.ka hS (by decide) (by decide) (by decide)) (fun j => St.ka hS (by decide) (by decide) (by decide)) (fun j => St.ka hS (by decide) (by decide) (by decide)) (fun j => St.ka hS (by decide) (by decide) (by decide)) (fun j => St.ka hS (by decide) (by decide) (by decide)) (St.kp hS (by decide) (by decide) (by decide)) (St.kp hS (by decide) (by decide) (by decide)) (St.kp hS (by decide) (by decide) (by decide)) (St.kp hS (by decide) (by decide) (by decide))))) ?_
          rintro M41 _ ⟨h41, r41, rfl, lr41, ur41, z41_0⟩
          have hS := St.tr hS h41 (by decide) (by decide)
          obtain ⟨s41_120_59, es41_120_59⟩ : ∃ v, rd M41 120 59 = v := ⟨_, rfl⟩
          have bs41_120_59 : (-1) ≤ s41_120_59 ∧ s41_120_59 ≤ 5 := by rw [← es41_120_59]; exact ir_120_59 hS.1.2.1
          refine Tr.sc [(0, r41)] rfl ?_
          refine Tr.istore_n (pc := 44) (i := 2) (ls2 := [(2, (0, r41)), (0, (2, 120)), (1, (0, a1))]) d_X12_run_44 rfl (by decide) rfl ?_
          refine Tr.aload_n (pc := 45) (i := 0) d_X12_run_45 rfl rfl ?_
          refine Tr.iconst (pc := 46) d_X12_run_46 (by decide) ?_
          refine Tr.putzS (pc := 47) (P := St Tru ws_X12_run_120 as_X12_run_120 M0) d_X12_run_47 f_12_225 (by decide) (ty_120 hS.1.1) (by omega) (st_120_70 hS (by decide) (by omega) trivial) (fun M47 hS w47 => ?_)
          refine Tr.aload_n (pc := 50) (i := 0) d_X12_run_50 rfl rfl ?_
          refine Tr.iconst (pc := 51) d_X12_run_51 (by decide) ?_
          refine Tr.putzS (pc := 52) (P := St Tru ws_X12_run_120 as_X12_run_120 M0) d_X12_run_52 f_12_270 (by decide) (ty_120 hS.1.1) (by omega) (st_120_85 hS (by decide) (by omega) trivial) (fun M52 hS w52 => ?_)
          refine Tr.aload_n (pc := 55) (i := 0) d_X12_run_55 rfl rfl ?_
          refine Tr.aload_n (pc := 56) (i := 0) d_X12_run_56 rfl rfl ?_
          refine Tr.getf (pc := 57) d_X12_run_57 f_12_201 (by decide) (by decide) (ty_120 hS.1.1) ?_
          refine Tr.gen (P := fun v => 0 ≤ v ∧ v ≤ 2060) (ir_120_62 hS.1.2.1) (fun r57 er57 br57 => ?_)
          refine Tr.putfS (pc := 60) (P := St Tru ws_X12_run_120 as_X12_run_120 M0) d_X12_run_60 f_12_273 (by decide) (by decide) (ty_120 hS.1.1) (st_120_86 hS (by decide) (by omega) trivial) (fun M60 hS w60 => ?_)
          refine Tr.aload_n (pc := 63) (i := 0) d_X12_run_63 rfl rfl ?_
          refine Tr.aload_n (pc := 64) (i := 0) d_X12_run_64 rfl rfl ?_
          refine Tr.getf (pc := 65) d_X12_run_65 f_12_204 (by decide) (by decide) (ty_120 hS.1.1) ?_
          refine Tr.gen (P := fun v => (-9223372036854775808) ≤ v ∧ v ≤ 9223372036854775807) (ir_120_63 hS.1.2.1) (fun r65 er65 br65 => ?_)
          refine Tr.putfS (pc := 68) (P := St Tru ws_X12_run_120 as_X12_run_120 M0) d_X12_run_68 f_12_276 (by decide) (by decide) (ty_120 hS.1.1) (st_120_87 hS (by decide) (by omega) trivial) (fun M68 hS w68 => ?_)
          refine Tr.aload_n (pc := 71) (i := 0) d_X12_run_71 rfl rfl ?_
          refine Tr.aload_n (pc := 72) (i := 0) d_X12_run_72 rfl rfl ?_
          refine Tr.getf (pc := 73) d_X12_run_73 f_12_210 (by decide) (by decide) (ty_120 hS.1.1) ?_
          refine Tr.gen (P := fun v => (-2147483648) ≤ v ∧ v ≤ 2147483647) (ir_120_65 hS.1.2.1) (fun r73 er73 br73 => ?_)
          refine Tr.putfS (pc := 76) (P := St Tru ws_X12_run_120 as_X12_run_120 M0) d_X12_run_76 f_12_279 (by decide) (by decide) (ty_120 hS.1.1) (st_120_88 hS (by decide) (by omega) trivial) (fun M76 hS w76 => ?_)
          refine Tr.aload_n (pc := 79) (i := 0) d_X12_run_79 rfl rfl ?_
          refine Tr.aload_n (pc := 80) (i := 0) d_X12_run_80 rfl rfl ?_
          refine Tr.getf (pc := 81) d_X12_run_81 f_12_213 (by decide) (by decide) (ty_120 hS.1.1) ?_
          refine Tr.gen (P := fun v => (-2147483648) ≤ v ∧ v ≤ 2147483647) (ir_120_66 hS.1.2.1) (fun r81 er81 br81 => ?_)
          refine Tr.putfS (pc := 84) (P := St Tru ws_X12_run_120 as_X12_run_120 M0) d_X12_run_84 f_12_282 (by decide) (by decide) (ty_120 hS.1.1) (st_120_89 hS (by decide) (by omega) trivial) (fun M84 hS w84 => ?_)
          refine Tr.aload_n (pc := 87) (i := 0) d_X12_run_87 rfl rfl ?_
          refine Tr.aload_n (pc := 88) (i := 0) d_X12_run_88 rfl rfl ?_
          refine Tr.getf (pc := 89) d_X12_run_89 f_12_216 (by decide) (by decide) (ty_120 hS.1.1) ?_
          refine Tr.gen (P := fun v => (-2147483648) ≤ v ∧ v ≤ 2147483647) (ir_120_67 hS.1.2.1) (fun r89 er89 br89 => ?_)
          refine Tr.putfS (pc := 92) (P := St Tru ws_X12_run_120 as_X12_run_120 M0) d_X12_run_92 f_12_285 (by decide) (by decide) (ty_120 hS.1.1) (st_120_90 hS (by decide) (by omega) trivial) (fun M92 hS w92 => ?_)
          refine Tr.aload_n (pc := 95) (i := 0) d_X12_run_95 rfl rfl ?_
          refine Tr.aload_n (pc := 96) (i := 0) d_X12_run_96 rfl rfl ?_
          refine Tr.getf (pc := 97) d_X12_run_97 f_12_267 (by decide) (by decide) (ty_120 hS.1.1) ?_
          refine Tr.gen (P := fun v => (-2147483648) ≤ v ∧ v ≤ 2147483647) (ir_120_84 hS.1.2.1) (fun r97 er97 br97 => ?_)
          refine Tr.putfS (pc := 100) (P := St Tru ws_X12_run_120 as_X12_run_120 M0) d_X12_run_100 f_12_288 (by decide) (by decide) (ty_120 hS.1.1) (st_120_91 hS (by decide) (by omega) trivial) (fun M100 hS w100 => ?_)
          refine Tr.aload_n (pc := 103) (i := 0) d_X12_run_103 rfl rfl ?_
          refine Tr.aload_n (pc := 104) (i := 0) d_X12_run_104 rfl rfl ?_
          refine Tr.getf (pc := 105) d_X12_run_105 f_12_240 (by decide) (by decide) (ty_120 hS.1.1) ?_
          refine Tr.gen (P := fun v => 0 ≤ v ∧ v ≤ 2100) (ir_120_75 hS.1.2.1) (fun r105 er105 br105 => ?_)
          refine Tr.putfS (pc := 108) (P := St Tru ws_X12_run_120 as_X12_run_120 M0) d_X12_run_108 f_12_300 (by decide) (by decide) (ty_120 hS.1.1) (st_120_95 hS (by decide) (by omega) trivial) (fun M108 hS w108 => ?_)
          refine Tr.aload_n (pc := 111) (i := 0) d_X12_run_111 rfl rfl ?_
          refine Tr.aload_n (pc := 112) (i := 0) d_X12_run_112 rfl rfl ?_
          refine Tr.getf (pc := 113) d_X12_run_113 f_12_252 (by decide) (by decide) (ty_120 hS.1.1) ?_
          refine Tr.gen (P := fun v => 0 ≤ v ∧ v ≤ 2100) (ir_120_79 hS.1.2.1) (fun r113 er113 br113 => ?_)
          refine Tr.putfS (pc := 116) (P := St Tru ws_X12_run_120 as_X12_run_120 M0) d_X12_run_116 f_12_303 (by decide) (by decide) (ty_120 hS.1.1) (st_120_96 hS (by decide) (by omega) trivial) (fun M116 hS w116 => ?_)
          refine Tr.iconst (pc := 119) d_X12_run_119 (by decide) ?_
          refine Tr.istore_n (pc := 120) (i := 3) (ls2 := [(3, (0, 0)), (2, (0, r41)), (0, (2, 120)), (1, (0, a1))]) d_X12_run_120 rfl (by decide) rfl ?_
          have J121 : ∀ (n121 : Nat) (M : Mem) (p121_3 : Int), St Tru ws_X12_run_120 as_X12_run_120 M0 M → (0 ≤ p121_3 ∧ p121_3 ≤ 6) → rd M 120 59 = s41_120_59 → rd M 120 62 = r57 → rd M 120 63 = r65 → rd M 120 65 = r73 → rd M 120 66 = r81 → rd M 120 67 = r89 → rd M 120 70 = 0 → rd M 120 75 = r105 → rd M 120 79 = r113 → rd M 120 84 = r97 → rd M 120 85 = 1 → rd M 120 86 = r57 → rd M 120 87 = r65 → rd M 120 88 = r73 → rd M 120 89 = r81 → rd M 120 90 = r89 → rd M 120 91 = r97 → rd M 120 95 = r105 → rd M 120 96 = r113 → (s41_120_59 = -1) → (6 - p121_3).toNat < n121 → Tr l K 8 mX12_run 121 [(0, (2, 120)), (2, (0, r41)), (3, (0, p121_3))] [] M (q_X12_run_120 a1 M0) := by
            intro n121
            induction n121 with
            | zero => intro M p121_3 hS bp121_3 k121_120_59 k121_120_62 k121_120_63 k121_120_65 k121_120_66 k121_120_67 k121_120_70 k121_120_75 k121_120_79 k121_120_84 k121_120_85 k121_120_86 k121_120_87 k121_120_88 k121_120_89 k121_120_90 k121_120_91 k121_120_95 k121_120_96 t121_0 hm121; exact absurd hm121 (Nat.not_lt_zero _)
            | succ n121 J121 =>
              intro M p121_3 hS bp121_3 k121_120_59 k121_120_62 k121_120_63 k121_120_65 k121_120_66 k121_120_67 k121_120_70 k121_120_75 k121_120_79 k121_120_84 k121_120_85 k121_120_86 k121_120_87 k121_120_88 k121_120_89 k121_120_90 k121_120_91 k121_120_95 k121_120_96 t121_0 hm121
              refine Tr.iload_n (pc := 121) (i := 3) d_X12_run_121 rfl rfl ?_
              refine Tr.bipush (pc := 122) d_X12_run_122 rfl (by decide) ?_
              refine Tr.icmp_ge (pc := 124) (tgt := 145) d_X12_run_124 rfl (fun c124 => ?_) (fun c124 => ?_)
              · refine Tr.iconst (pc := 145) d_X12_run_145 (by decide) ?_
                refine Tr.istore_n (pc := 146) (i := 3) (ls2 := [(3, (0, 0)), (0, (2, 120)), (2, (0, r41))]) d_X12_run_146 rfl (by decide) rfl ?_
                have J147 : ∀ (n147 : Nat) (M : Mem) (p147_3 : Int), St Tru ws_X12_run_120 as_X12_run_120 M0 M → (0 ≤ p147_3 ∧ p147_3 ≤ 24) → rd M 120 59 = s41_120_59 → rd M 120 62 = r57 → rd M 120 63 = r65 → rd M 120 65 = r73 → rd M 120 66 = r81 → rd M 120 67 = r89 → rd M 120 70 = 0 → rd M 120 75 = r105 → rd M 120 79 = r113 → rd M 120 84 = r97 → rd M 120 85 = 1 → rd M 120 86 = r57 → rd M 120 87 = r65 → rd M 120 88 = r73 → rd M 120 89 = r81 → rd M 120 90 = r89 → rd M 120 91 = r97 → rd M 120 95 = r105 → rd M 120 96 = r113 → (s41_120_59 = -1) → (24 - p147_3).toNat < n147 → Tr l K 8 mX12_run 147 [(0, (2, 120)), (2, (0, r41)), (3, (0, p147_3))] [] M (q_X12_run_120 a1 M0) := by
                  intro n147
                  induction n147 with
                  | zero => intro M p147_3 hS bp147_3 k147_120_59 k147_120_62 k147_120_63 k147_120_65 k147_120_66 k147_120_67 k147_120_70 k147_120_75 k147_120_79 k147_120_84 k147_120_85 k147_120_86 k147_120_87 k147_120_88 k147_120_89 k147_120_90 k147_120_91 k147_120_95 k147_120_96 t147_0 hm147; exact absurd hm147 (Nat.not_lt_zero _)
                  | succ n147 J147 =>
                    intro M p147_3 hS bp147_3 k147_120_59 k147_120_62 k147_120_63 k147_120_65 k147_120_66 k147_120_67 k147_120_70 k147_120_75 k147_120_79 k147_120_84 k147_120_85 k147_120_86 k147_120_87 k147_120_88 k147_120_89 k147_120_90 k147_120_91 k147_120_95 k147_120_96 t147_0 hm147
                    refine Tr.iload_n (pc := 147) (i := 3) d_X12_run_147 rfl rfl ?_
                    refine Tr.bipush (pc := 148) d_X12_run_148 rfl (by decide) ?_
                    refine Tr.icmp_ge (pc := 150) (tgt := 171) d_X12_run_150 rfl (fun c150 => ?_) (fun c150 => ?_)
                    · refine Tr.iconst (pc := 171) d_X12_run_171 (by decide) ?_
                      refine Tr.istore_n (pc := 172) (i := 3) (ls2 := [(3, (0, 0)), (0, (2, 120)), (2, (0, r41))]) d_X12_run_172 rfl (by decide) rfl ?_
                      have J173 : ∀ (n173 : Nat) (M : Mem) (p173_3 : Int), St Tru ws_X12_run_120 as_X12_run_120 M0 M → (0 ≤ p173_3 ∧ p173_3 ≤ 6) → rd M 120 59 = s41_120_59 → rd M 120 62 = r57 → rd M 120 63 = r65 → rd M 120 65 = r73 → rd M 120 66 = r81 → rd M 120 67 = r89 → rd M 120 70 = 0 → rd M 120 75 = r105 → rd M 120 79 = r113 → rd M 120 84 = r97 → rd M 120 85 = 1 → rd M 120 86 = r57 → rd M 120 87 = r65 → rd M 120 88 = r73 → rd M 120 89 = r81 → rd M 120 90 = r89 → rd M 120 91 = r97 → rd M 120 95 = r105 → rd M 120 96 = r113 → (s41_120_59 = -1) → (6 - p173_3).toNat < n173 → Tr l K 8 mX12_run 173 [(0, (2, 120)), (2, (0, r41)), (3, (0, p173_3))] [] M (q_X12_run_120 a1 M0) := by
                        intro n173
                        induction n173 with
                        | zero => intro M p173_3 hS bp173_3 k173_120_59 k173_120_62 k173_120_63 k173_120_65 k173_120_66 k173_120_67 k173_120_70 k173_120_75 k173_120_79 k173_120_84 k173_120_85 k173_120_86 k173_120_87 k173_120_88 k173_120_89 k173_120_90 k173_120_91 k173_120_95 k173_120_96 t173_0 hm173; exact absurd hm173 (Nat.not_lt_zero _)
                        | succ n173 J173 =>
                          intro M p173_3 hS bp173_3 k173_120_59 k173_120_62 k173_120_63 k173_120_65 k173_120_66 k173_120_67 k173_120_70 k173_120_75 k173_120_79 k173_120_84 k173_120_85 k173_120_86 k173_120_87 k173_120_88 k173_120_89 k173_120_90 k173_120_91 k173_120_95 k173_120_96 t173_0 hm173
                          refine Tr.iload_n (pc := 173) (i := 3) d_X12_run_173 rfl rfl ?_
                          refine Tr.bipush (pc := 174) d_X12_run_174 rfl (by decide) ?_
                          refine Tr.icmp_ge (pc := 176) (tgt := 222) d_X12_run_176 rfl (fun c176 => ?_) (fun c176 => ?_)
                          · refine Tr.iload_n (pc := 222) (i := 2) d_X12_run_222 rfl rfl ?_
                            have kr_120_59 : rd M 120 59 = s41_120_59 := k173_120_59
                            exact Tr.iret (pc := 223) d_X12_run_223 rfl ⟨hS, _, rfl, by omega, by omega, by omega⟩
                          · refine Tr.aload_n (pc := 179) (i := 0) d_X12_run_179 rfl rfl ?_
                            refine Tr.getf (pc := 180) d_X12_run_180 f_12_297 (by decide) (by decide) (ty_120 hS.1.1) ?_
                            refine Tr.tp 175 (fx_120_94 hS.1.1) ?_
                            refine Tr.iload_n (pc := 183) (i := 3) d_X12_run_183 rfl rfl ?_
                            refine Tr.aload_n (pc := 184) (i := 0) d_X12_run_184 rfl rfl ?_
                            refine Tr.getf (pc := 185) d_X12_run_185 f_12_177 (by decide) (by decide) (ty_120 hS.1.1) ?_
                            refine Tr.tp 156 (fx_120_54 hS.1.1) ?_
                            refine Tr.iload_n (pc := 188) (i := 3) d_X12_run_188 rfl rfl ?_
                            refine Tr.zald (pc := 189) d_X12_run_189 (ty_156 hS.1.1) (by omega) (by omega) ?_
                            refine Tr.gen (P := fun v => 0 ≤ v ∧ v ≤ 1) (ar_156 hS.1.2.1 _) (fun r189 er189 br189 => ?_)
                            have J215 : ∀ (M : Mem) (q215_2 : Int), St Tru ws_X12_run_120 as_X12_run_120 M0 M → (0 ≤ q215_2 ∧ q215_2 ≤ 1) → rd M 120 59 = s41_120_59 → rd M 120 62 = r57 → rd M 120 63 = r65 → rd M 120 65 = r73 → rd M 120 66 = r81 → rd M 120 67 = r89 → rd M 120 70 = 0 → rd M 120 75 = r105 → rd M 120 79 = r113 → rd M 120 84 = r97 → rd M 120 85 = 1 → rd M 120 86 = r57 → rd M 120 87 = r65 → rd M 120 88 = r73 → rd M 120 89 = r81 → rd M 120 90 = r89 → rd M 120 91 = r97 → rd M 120 95 = r105 → rd M 120 96 = r113 → rd M 156 p173_3 = r189 → (s41_120_59 = -1) → Tr l K 8 mX12_run 215 [(0, (2, 120)), (2, (0, r41)), (3, (0, p173_3))] [(0, q215_2), (0, p173_3), (2, 175)] M (q_X12_run_120 a1 M0) := by
                              intro M q215_2 hS bq215_2 k215_120_59 k215_120_62 k215_120_63 k215_120_65 k215_120_66 k215_120_67 k215_120_70 k215_120_75 k215_120_79 k215_120_84 k215_120_85 k215_120_86 k215_120_87 k215_120_88 k215_120_89 k215_120_90 k215_120_91 k215_120_95 k215_120_96 k215_156_p173_310 t215_0
                              refine Tr.zastS (pc := 215) (P := St Tru ws_X12_run_120 as_X12_run_120 M0) d_X12_run_215 (ty_175 hS.1.1) (by omega) (by omega) (by omega) (sa_175 hS (by decide) (by omega) trivial) (fun M215 hS w215 => ?_)
                              refine Tr.iincV (pc := 216) (n2 := (p173_3 + 1)) (ls2 := [(3, (0, (p173_3 + 1))), (0, (2, 120)), (2, (0, r41))]) d_X12_run_216 rfl (by decide) ((w32_id (by omega)).trans (by omega)) rfl ?_
                              refine Tr.goto (pc := 219) (tgt := 173) d_X12_run_219 rfl ?_
                              refine Tr.pick [1, 2, 0] (ls2 := [(0, (2, 120)), (2, (0, r41)), (3, (0, (p173_3 + 1)))]) rfl ?_
                              exact J173 _ _ hS (by omega) ((Wr.b w215 rfl).trans k215_120_59) ((Wr.b w215 rfl).trans k215_120_62) ((Wr.b w215 rfl).trans k215_120_63) ((Wr.b w215 rfl).trans k215_120_65) ((Wr.b w215 rfl).trans k215_120_66) ((Wr.b w215 rfl).trans k215_120_67) ((Wr.b w215 rfl).trans k215_120_70) ((Wr.b w215 rfl).trans k215_120_75) ((Wr.b w215 rfl).trans k215_120_79) ((Wr.b w215 rfl).trans k215_120_84) ((Wr.b w215 rfl).trans k215_120_85) ((Wr.b w215 rfl).trans k215_120_86) ((Wr.b w215 rfl).trans k215_120_87) ((Wr.b w215 rfl).trans k215_120_88) ((Wr.b w215 rfl).trans k215_120_89) ((Wr.b w215 rfl).trans k215_120_90) ((Wr.b w215 rfl).trans k215_120_91) ((Wr.b w215 rfl).trans k215_120_95) ((Wr.b w215 rfl).trans k215_120_96) (by omega) (by omega)
                            have J214 : ∀ (M : Mem), St Tru ws_X12_run_120 as_X12_run_120 M0 M → rd M 120 59 = s41_120_59 → rd M 120 62 = r57 → rd M 120 63 = r65 → rd M 120 65 = r73 → rd M 120 66 = r81 → rd M 120 67 = r89 → rd M 120 70 = 0 → rd M 120 75 = r105 → rd M 120 79 = r113 → rd M 120 84 = r97 → rd M 120 85 = 1 → rd M 120 86 = r57 → rd M 120 87 = r65 → rd M 120 88 = r73 → rd M 120 89 = r81 → rd M 120 90 = r89 → rd M 120 91 = r97 → rd M 120 95 = r105 → rd M 120 96 = r113 → rd M 156 p173_3 = r189 → (s41_120_59 = -1) → Tr l K 8 mX12_run 214 [(0, (2, 120)), (2, (0, r41)), (3, (0, p173_3))] [(0, p173_3), (2, 175)] M (q_X12_run_120 a1 M0) := by
                              intro M  hS  k214_120_59 k214_120_62 k214_120_63 k214_120_65 k214_120_66 k214_120_67 k214_120_70 k214_120_75 k214_120_79 k214_120_84 k214_120_85 k214_120_86 k214_120_87 k214_120_88 k214_120_89 k214_120_90 k214_120_91 k214_120_95 k214_120_96 k214_156_p173_310 t214_0
                              refine Tr.iconst (pc := 214) d_X12_run_214 (by decide) ?_
                              refine Tr.pick [0, 1, 2] (ls2 := [(0, (2, 120)), (2, (0, r41)), (3, (0, p173_3))]) rfl ?_
                              exact J215 _ _ hS (by omega) k214_120_59 k214_120_62 k214_120_63 k214_120_65 k214_120_66 k214_120_67 k214_120_70 k214_120_75 k214_120_79 k214_120_84 k214_120_85 k214_120_86 k214_120_87 k214_120_88 k214_120_89 k214_120_90 k214_120_91 k214_120_95 k214_120_96 k214_156_p173_310 (by omega)
                            refine Tr.if_ne (pc := 190) (tgt := 214) d_X12_run_190 rfl (fun c190 => ?_) (fun c190 => ?_)
                            · refine Tr.pick [0, 1, 2] (ls2 := [(0, (2, 120)), (2, (0, r41)), (3, (0, p173_3))]) rfl ?_
                              exact J214 _ hS k173_120_59 k173_120_62 k173_120_63 k173_120_65 k173_120_66 k173_120_67 k173_120_70 k173_120_75 k173_120_79 k173_120_84 k173_120_85 k173_120_86 k173_120_87 k173_120_88 k173_120_89 k173_120_90 k173_120_91 k173_120_95 k173_120_96 er189 (by omega)
                            · refine Tr.aload_n (pc := 193) (i := 0) d_X12_run_193 rfl rfl ?_
                              refine Tr.getf (pc := 194) d_X12_run_194 f_12_183 (by decide) (by decide) (ty_120 hS.1.1) ?_
                              refine Tr.tp 158 (fx_120_56 hS.1.1) ?_
                              refine Tr.iload_n (pc := 197) (i := 3) d_X12_run_197 rfl rfl ?_
                              refine Tr.iald (pc := 198) d_X12_run_198 (ty_158 hS.1.1) (by omega) (by omega) ?_
                              refine Tr.gen (P := fun v => (-2147483648) ≤ v ∧ v ≤ 2147483647) (ar_158 hS.1.2.1 _) (fun r198 er198 br198 => ?_)
                              refine Tr.if_ne (pc := 199) (tgt := 214) d_X12_run_199 rfl (fun c199 => ?_) (fun c199 => ?_)
                              · refine Tr.pick [0, 1, 2] (ls2 := [(0, (2, 120)), (2, (0, r41)), (3, (0, p173_3))]) rfl ?_
                                exact J214 _ hS k173_120_59 k173_120_62 k173_120_63 k173_120_65 k173_120_66 k173_120_67 k173_120_70 k173_120_75 k173_120_79 k173_120_84 k173_120_85 k173_120_86 k173_120_87 k173_120_88 k173_120_89 k173_120_90 k173_120_91 k173_120_95 k173_120_96 er189 (by omega)
                              · refine Tr.iload_n (pc := 202) (i := 3) d_X12_run_202 rfl rfl ?_
                                refine Tr.aload_n (pc := 203) (i := 0) d_X12_run_203 rfl rfl ?_
                                refine Tr.getf (pc := 204) d_X12_run_204 f_12_195 (by decide) (by decide) (ty_120 hS.1.1) ?_
                                refine Tr.gen (P := fun v => (-2147483648) ≤ v ∧ v ≤ 2147483647) (ir_120_60 hS.1.2.1) (fun r204 er204 br204 => ?_)
                                refine Tr.icmp_eq (pc := 207) (tgt := 214) d_X12_run_207 rfl (fun c207 => ?_) (fun c207 => ?_)
                                · refine Tr.pick [0, 1, 2] (ls2 := [(0, (2, 120)), (2, (0, r41)), (3, (0, p173_3))]) rfl ?_
                                  exact J214 _ hS k173_120_59 k173_120_62 k173_120_63 k173_120_65 k173_120_66 k173_120_67 k173_120_70 k173_120_75 k173_120_79 k173_120_84 k173_120_85 k173_120_86 k173_120_87 k173_120_88 k173_120_89 k173_120_90 k173_120_91 k173_120_95 k173_120_96 er189 (by omega)
                                · refine Tr.iconst (pc := 210) d_X12_run_210 (by decide) ?_
                                  refine Tr.goto (pc := 211) (tgt := 215) d_X12_run_211 rfl ?_
                                  refine Tr.pick [0, 1, 2] (ls2 := [(0, (2, 120)), (2, (0, r41)), (3, (0, p173_3))]) rfl ?_
                                  exact J215 _ _ hS (by omega) k173_120_59 k173_120_62 k173_120_63 k173_120_65 k173_120_66 k173_120_67 k173_120_70 k173_120_75 k173_120_79 k173_120_84 k173_120_85 k173_120_86 k173_120_87 k173_120_88 k173_120_89 k173_120_90 k173_120_91 k173_120_95 k173_120_96 er189 (by omega)
                      refine Tr.pick [1, 2, 0] (ls2 := [(0, (2, 120)), (2, (0, r41)), (3, (0, 0))]) rfl ?_
                      exact J173 _ _ _ hS (by omega) k147_120_59 k147_120_62 k147_120_63 k147_120_65 k147_120_66 k147_120_67 k147_120_70 k147_120_75 k147_120_79 k147_120_84 k147_120_85 k147_120_86 k147_120_87 k147_120_88 k147_120_89 k147_120_90 k147_120_91 k147_120_95 k147_120_96 (by omega) (Nat.lt_succ_self _)
                    · refine Tr.aload_n (pc := 153) (i := 0) d_X12_run_153 rfl rfl ?_
                      refine Tr.getf (pc := 154) d_X12_run_154 f_12_294 (by decide) (by decide) (ty_120 hS.1.1) ?_
                      refine Tr.tp 174 (fx_120_93 hS.1.1) ?_
                      refine Tr.iload_n (pc := 157) (i := 3) d_X12_run_157 rfl rfl ?_
                      refine Tr.aload_n (pc := 158) (i := 0) d_X12_run_158 rfl rfl ?_
                      refine Tr.getf (pc := 159) d_X12_run_159 f_12_222 (by decide) (by decide) (ty_120 hS.1.1) ?_
                      refine Tr.tp 161 (fx_120_69 hS.1.1) ?_
                      refine Tr.iload_n (pc := 162) (i := 3) d_X12_run_162 rfl rfl ?_
                      refine Tr.iald (pc := 163) d_X12_run_163 (ty_161 hS.1.1) (by omega) (by omega) ?_
                      refine Tr.gen (P := fun v => (-2147483648) ≤ v ∧ v ≤ 2147483647) (ar_161 hS.1.2.1 _) (fun r163 er163 br163 => ?_)
                      refine Tr.iastS (pc := 164) (P := St Tru ws_X12_run_120 as_X12_run_120 M0) d_X12_run_164 (ty_174 hS.1.1) (by omega) (by omega) (sa_174 hS (by decide) (by omega) trivial) (fun M164 hS w164 => ?_)
                      refine Tr.iincV (pc := 165) (n2 := (p147_3 + 1)) (ls2 := [(3, (0, (p147_3 + 1))), (0, (2, 120)), (2, (0, r41))]) d_X12_run_165 rfl (by decide) ((w32_id (by omega)).trans (by omega)) rfl ?_
                      refine Tr.goto (pc := 168) (tgt := 147) d_X12_run_168 rfl ?_
                      refine Tr.pick [1, 2, 0] (ls2 := [(0, (2, 120)), (2, (0, r41)), (3, (0, (p147_3 + 1)))]) rfl ?_
                      exact J147 _ _ hS (by omega) ((Wr.b w164 rfl).trans k147_120_59) ((Wr.b w164 rfl).trans k147_120_62) ((Wr.b w164 rfl).trans k147_120_63) ((Wr.b w164 rfl).trans k147_120_65) ((Wr.b w164 rfl).trans k147_120_66) ((Wr.b w164 rfl).trans k147_120_67) ((Wr.b w164 rfl).trans k147_120_70) ((Wr.b w164 rfl).trans k147_120_75) ((Wr.b w164 rfl).trans k147_120_79) ((Wr.b w164 rfl).trans k147_120_84) ((Wr.b w164 rfl).trans k147_120_85) ((Wr.b w164 rfl).trans k147_120_86) ((Wr.b w164 rfl).trans k147_120_87) ((Wr.b w164 rfl).trans k147_120_88) ((Wr.b w164 rfl).trans k147_120_89) ((Wr.b w164 rfl).trans k147_120_90) ((Wr.b w164 rfl).trans k147_120_91) ((Wr.b w164 rfl).trans k147_120_95) ((Wr.b w164 rfl).trans k147_120_96) (by omega) (by omega)
                refine Tr.pick [1, 2, 0] (ls2 := [(0, (2, 120)), (2, (0, r41)), (3, (0, 0))]) rfl ?_
                exact J147 _ _ _ hS (by omega) k121_120_59 k121_120_62 k121_120_63 k121_120_65 k121_120_66 k121_120_67 k121_120_70 k121_120_75 k121_120_79 k121_120_84 k121_120_85 k121_120_86 k121_120_87 k121_120_88 k121_120_89 k121_120_90 k121_120_91 k121_120_95 k121_120_96 (by omega) (Nat.lt_succ_self _)
              · refine Tr.aload_n (pc := 127) (i := 0) d_X12_run_127 rfl rfl ?_
                refine Tr.getf (pc := 128) d_X12_run_128 f_12_291 (by decide) (by decide) (ty_120 hS.1.1) ?_
                refine Tr.tp 173 (fx_120_92 hS.1.1) ?_
                refine Tr.iload_n (pc := 131) (i := 3) d_X12_run_131 rfl rfl ?_
                refine Tr.aload_n (pc := 132) (i := 0) d_X12_run_132 rfl rfl ?_
                refine Tr.getf (pc := 133) d_X12_run_133 f_12_174 (by decide) (by decide) (ty_120 hS.1.1) ?_
                refine Tr.tp 155 (fx_120_53 hS.1.1) ?_
                refine Tr.iload_n (pc := 136) (i := 3) d_X12_run_136 rfl rfl ?_
                refine Tr.iald (pc := 137) d_X12_run_137 (ty_155 hS.1.1) (by omega) (by omega) ?_
                refine Tr.gen (P := fun v => (-2147483648) ≤ v ∧ v ≤ 2147483647) (ar_155 hS.1.2.1 _) (fun r137 er137 br137 => ?_)
                refine Tr.iastS (pc := 138) (P := St Tru ws_X12_run_120 as_X12_run_120 M0) d_X12_run_138 (ty_173 hS.1.1) (by omega) (by omega) (sa_173 hS (by decide) (by omega) trivial) (fun M138 hS w138 => ?_)
                refine Tr.iincV (pc := 139) (n2 := (p121_3 + 1)) (ls2 := [(3, (0, (p121_3 + 1))), (0, (2, 120)), (2, (0, r41))]) d_X12_run_139 rfl (by decide) ((w32_id (by omega)).trans (by omega)) rfl ?_
                refine Tr.goto (pc := 142) (tgt := 121) d_X12_run_142 rfl ?_
                refine Tr.pick [1, 2, 0] (ls2 := [(0, (2, 120)), (2, (0, r41)), (3, (0, (p121_3 + 1)))]) rfl ?_
                exact J121 _ _ hS (by omega) ((Wr.b w138 rfl).trans k121_120_59) ((Wr.b w138 rfl).trans k121_120_62) ((Wr.b w138 rfl).trans k121_120_63) ((Wr.b w138 rfl).trans k121_120_65) ((Wr.b w138 rfl).trans k121_120_66) ((Wr.b w138 rfl).trans k121_120_67) ((Wr.b w138 rfl).trans k121_120_70) ((Wr.b w138 rfl).trans k121_120_75) ((Wr.b w138 rfl).trans k121_120_79) ((Wr.b w138 rfl).trans k121_120_84) ((Wr.b w138 rfl).trans k121_120_85) ((Wr.b w138 rfl).trans k121_120_86) ((Wr.b w138 rfl).trans k121_120_87) ((Wr.b w138 rfl).trans k121_120_88) ((Wr.b w138 rfl).trans k121_120_89) ((Wr.b w138 rfl).trans k121_120_90) ((Wr.b w138 rfl).trans k121_120_91) ((Wr.b w138 rfl).trans k121_120_95) ((Wr.b w138 rfl).trans k121_120_96) (by omega) (by omega)
          refine Tr.pick [2, 1, 0] (ls2 := [(0, (2, 120)), (2, (0, r41)), (3, (0, 0))]) rfl ?_
          exact J121 _ _ _ hS (by omega) ((Wr.b w116 rfl).trans ((Wr.b w108 rfl).trans ((Wr.b w100 rfl).trans ((Wr.b w92 rfl).trans ((Wr.b w84 rfl).trans ((Wr.b w76 rfl).trans ((Wr.b w68 rfl).trans ((Wr.b w60 rfl).trans ((Wr.b w52 rfl).trans ((Wr.b w47 rfl).trans es41_120_59)))))))))) ((Wr.b w116 rfl).trans ((Wr.b w108 rfl).trans ((Wr.b w100 rfl).trans ((Wr.b w92 rfl).trans ((Wr.b w84 rfl).trans ((Wr.b w76 rfl).trans ((Wr.b w68 rfl).trans ((Wr.b w60 rfl).trans er57)))))))) ((Wr.b w116 rfl).trans ((Wr.b w108 rfl).trans ((Wr.b w100 rfl).trans ((Wr.b w92 rfl).trans ((Wr.b w84 rfl).trans ((Wr.b w76 rfl).trans ((Wr.b w68 rfl).trans er65))))))) ((Wr.b w116 rfl).trans ((Wr.b w108 rfl).trans ((Wr.b w100 rfl).trans ((Wr.b w92 rfl).trans ((Wr.b w84 rfl).trans ((Wr.b w76 rfl).trans er73)))))) ((Wr.b w116 rfl).trans ((Wr.b w108 rfl).trans ((Wr.b w100 rfl).trans ((Wr.b w92 rfl).trans ((Wr.b w84 rfl).trans er81))))) ((Wr.b w116 rfl).trans ((Wr.b w108 rfl).trans ((Wr.b w100 rfl).trans ((Wr.b w92 rfl).trans er89)))) ((Wr.b w116 rfl).trans ((Wr.b w108 rfl).trans ((Wr.b w100 rfl).trans ((Wr.b w92 rfl).trans ((Wr.b w84 rfl).trans ((Wr.b w76 rfl).trans ((Wr.b w68 rfl).trans ((Wr.b w60 rfl).trans ((Wr.b w52 rfl).trans w47.1))))))))) ((Wr.b w116 rfl).trans ((Wr.b w108 rfl).trans er105)) ((Wr.b w116 rfl).trans er113) ((Wr.b w116 rfl).trans ((Wr.b w108 rfl).trans ((Wr.b w100 rfl).trans er97))) ((Wr.b w116 rfl).trans ((Wr.b w108 rfl).trans ((Wr.b w100 rfl).trans ((Wr.b w92 rfl).trans ((Wr.b w84 rfl).trans ((Wr.b w76 rfl).trans ((Wr.b w68 rfl).trans ((Wr.b w60 rfl).trans w52.1)))))))) ((Wr.b w116 rfl).trans ((Wr.b w108 rfl).trans ((Wr.b w100 rfl).trans ((Wr.b w92 rfl).trans ((Wr.b w84 rfl).trans ((Wr.b w76 rfl).trans ((Wr.b w68 rfl).trans w60.1))))))) ((Wr.b w116 rfl).trans ((Wr.b w108 rfl).trans ((Wr.b w100 rfl).trans ((Wr.b w92 rfl).trans ((Wr.b w84 rfl).trans ((Wr.b w76 rfl).trans w68.1)))))) ((Wr.b w116 rfl).trans ((Wr.b w108 rfl).trans ((Wr.b w100 rfl).trans ((Wr.b w92 rfl).trans ((Wr.b w84 rfl).trans w76.1))))) ((Wr.b w116 rfl).trans ((Wr.b w108 rfl).trans ((Wr.b w100 rfl).trans ((Wr.b w92 rfl).trans w84.1)))) ((Wr.b w116 rfl).trans ((Wr.b w108 rfl).trans ((Wr.b w100 rfl).trans w92.1))) ((Wr.b w116 rfl).trans ((Wr.b w108 rfl).trans w100.1)) ((Wr.b w116 rfl).trans w108.1) w116.1 (by omega) (Nat.lt_succ_self _)
        · refine Tr.aload_n (pc := 15) (i := 0) d_X12_run_15 rfl rfl ?_
          refine Tr.getf (pc := 16) d_X12_run_16 f_12_171 (by decide) (by decide) (ty_120 hS.1.1) ?_
          refine Tr.tp 154 (fx_120_52 hS.1.1) ?_
          refine Tr.iload_n (pc := 19) (i := 2) d_X12_run_19 rfl rfl ?_
          refine Tr.aload_n (pc := 20) (i := 0) d_X12_run_20 rfl rfl ?_
          refine Tr.getf (pc := 21) d_X12_run_21 f_12_168 (by decide) (by decide) (ty_120 hS.1.1) ?_
          refine Tr.tp 153 (fx_120_51 hS.1.1) ?_
          refine Tr.iload_n (pc := 24) (i := 2) d_X12_run_24 rfl rfl ?_
          refine Tr.iald (pc := 25) d_X12_run_25 (ty_153 hS.1.1) (by omega) (by omega) ?_
          refine Tr.gen (P := fun v => (-2147483648) ≤ v ∧ v ≤ 2147483647) (ar_153 hS.1.2.1 _) (fun r25 er25 br25 => ?_)
          refine Tr.iastS (pc := 26) (P := St Tru ws_X12_run_120 as_X12_run_120 M0) d_X12_run_26 (ty_154 hS.1.1) (by omega) (by omega) (sa_154 hS (by decide) (by omega) trivial) (fun M26 hS w26 => ?_)
          refine Tr.iincV (pc := 27) (n2 := (p10_2 + 1)) (ls2 := [(2, (0, (p10_2 + 1))), (0, (2, 120)), (1, (0, a1))]) d_X12_run_27 rfl (by decide) ((w32_id (by omega)).trans (by omega)) rfl ?_
          refine Tr.goto (pc := 30) (tgt := 10) d_X12_run_30 rfl ?_
          refine Tr.pick [1, 2, 0] (ls2 := [(0, (2, 120)), (1, (0, a1)), (2, (0, (p10_2 + 1)))]) rfl ?_
          exact J10 _ _ hS (by omega) ((Wr.b w26 rfl).trans k10_120_59) (by omega) (by omega)
    refine Tr.pick [1, 2, 0] (ls2 := [(0, (2, 120)), (1, (0, a1)), (2, (0, 0))]) rfl ?_
    exact J10 _ _ _ hS (by omega) eg120_59 (by omega) (Nat.lt_succ_self _)
  · refine Tr.bipush (pc := 5) d_X12_run_5 rfl (by decide) ?_
    have kr_120_59 : rd M0 120 59 = g120_59 := eg120_59
    exact Tr.iret (pc := 7) d_X12_run_7 rfl ⟨hS, _, rfl, by omega, by omega, by omega⟩

def ws_X12_isLetter : List (Int × Int) := []
def as_X12_isLetter : List Int := []
def q_X12_isLetter (a0 : Int) (M0 M' : Mem) (r : Option PV) : Prop := St Tru ws_X12_isLetter as_X12_isLetter M0 M' ∧ ∃ v : Int, r = some (0, v) ∧ 0 ≤ v ∧ v ≤ 1 ∧ ((v = 1 ∧ 97 ≤ a0 ∧ a0 ≤ 122) ∨ (v = 0 ∧ (a0 < 97 ∨ 122 < a0)))
set_option maxRecDepth 100000 in
set_option maxHeartbeats 4000000 in
theorem sp_X12_isLetter {l : Launch} {K : EC} {M0 : Mem} (hI : In Tru M0)  (a0 : Int) (ha0 : (-2147483648) ≤ a0 ∧ a0 ≤ 2147483647)  : Tr l K 0 mX12_isLetter 0 [(0, (0, a0))] [] M0 (q_X12_isLetter a0 M0) := by
  have hS : St Tru ws_X12_isLetter as_X12_isLetter M0 M0 := St.rf hI
  refine Tr.iload_n (pc := 0) (i := 0) d_X12_isLetter_0 rfl rfl ?_
  refine Tr.bipush (pc := 1) d_X12_isLetter_1 rfl (by decide) ?_
  refine Tr.icmp_lt (pc := 3) (tgt := 16) d_X12_isLetter_3 rfl (fun c3 => ?_) (fun c3 => ?_)
  · refine Tr.iconst (pc := 16) d_X12_isLetter_16 (by decide) ?_
    exact Tr.zret (pc := 17) d_X12_isLetter_17 rfl (by omega) ⟨hS, _, rfl, by omega, by omega, by omega⟩
  · refine Tr.iload_n (pc := 6) (i := 0) d_X12_isLetter_6 rfl rfl ?_
    refine Tr.bipush (pc := 7) d_X12_isLetter_7 rfl (by decide) ?_
    refine Tr.icmp_gt (pc := 9) (tgt := 16) d_X12_isLetter_9 rfl (fun c9 => ?_) (fun c9 => ?_)
    · refine Tr.iconst (pc := 16) d_X12_isLetter_16 (by decide) ?_
      exact Tr.zret (pc := 17) d_X12_isLetter_17 rfl (by omega) ⟨hS, _, rfl, by omega, by omega, by omega⟩
    · refine Tr.iconst (pc := 12) d_X12_isLetter_12 (by decide) ?_
      refine Tr.goto (pc := 13) (tgt := 17) d_X12_isLetter_13 rfl ?_
      exact Tr.zret (pc := 17) d_X12_isLetter_17 rfl (by omega) ⟨hS, _, rfl, by omega, by omega, by omega⟩

def ws_X12_isDigit : List (Int × Int) := []
def as_X12_isDigit : List Int := []
def q_X12_isDigit (a0 : Int) (M0 M' : Mem) (r : Option PV) : Prop := St Tru ws_X12_isDigit as_X12_isDigit M0 M' ∧ ∃ v : Int, r = some (0, v) ∧ 0 ≤ v ∧ v ≤ 1 ∧ ((v = 1 ∧ 48 ≤ a0 ∧ a0 ≤ 57) ∨ (v = 0 ∧ (a0 < 48 ∨ 57 < a0)))
set_option maxRecDepth 100000 in
set_option maxHeartbeats 4000000 in
theorem sp_X12_isDigit {l : Launch} {K : EC} {M0 : Mem} (hI : In Tru M0)  (a0 : Int) (ha0 : (-2147483648) ≤ a0 ∧ a0 ≤ 2147483647)  : Tr l K 0 mX12_isDigit 0 [(0, (0, a0))] [] M0 (q_X12_isDigit a0 M0) := by
  have hS : St Tru ws_X12_isDigit as_X12_isDigit M0 M0 := St.rf hI
  refine Tr.iload_n (pc := 0) (i := 0) d_X12_isDigit_0 rfl rfl ?_
  refine Tr.bipush (pc := 1) d_X12_isDigit_1 rfl (by decide) ?_
  refine Tr.icmp_lt (pc := 3) (tgt := 16) d_X12_isDigit_3 rfl (fun c3 => ?_) (fun c3 => ?_)
  · refine Tr.iconst (pc := 16) d_X12_isDigit_16 (by decide) ?_
    exact Tr.zret (pc := 17) d_X12_isDigit_17 rfl (by omega) ⟨hS, _, rfl, by omega, by omega, by omega⟩
  · refine Tr.iload_n (pc := 6) (i := 0) d_X12_isDigit_6 rfl rfl ?_
    refine Tr.bipush (pc := 7) d_X12_isDigit_7 rfl (by decide) ?_
    refine Tr.icmp_gt (pc := 9) (tgt := 16) d_X12_isDigit_9 rfl (fun c9 => ?_) (fun c9 => ?_)
    · refine Tr.iconst (pc := 16) d_X12_isDigit_16 (by decide) ?_
      exact Tr.zret (pc := 17) d_X12_isDigit_17 rfl (by omega) ⟨hS, _, rfl, by omega, by omega, by omega⟩
    · refine Tr.iconst (pc := 12) d_X12_isDigit_12 (by decide) ?_
      refine Tr.goto (pc := 13) (tgt := 17) d_X12_isDigit_13 rfl ?_
      exact Tr.zret (pc := 17) d_X12_isDigit_17 rfl (by omega) ⟨hS, _, rfl, by omega, by omega, by omega⟩

def ws_X12_blame_120 : List (Int × Int) := [(120, 8), (120, 9)]
def as_X12_blame_120 : List Int := []
def q_X12_blame_120 (a1 : Int) (a2 : Int) (M0 M' : Mem) (r : Option PV) : Prop := St Pm1 ws_X12_blame_120 as_X12_blame_120 M0 M' ∧ r = none ∧ ((rd M0 120 8 = 0 ∧ rd M' 120 8 = a1) ∨ (1 ≤ rd M0 120 8 ∧ rd M' 120 8 = rd M0 120 8))
set_option maxRecDepth 100000 in
set_option maxHeartbeats 4000000 in
theorem sp_X12_blame_120 {l : Launch} {K : EC} {M0 : Mem} (hI : In Pm1 M0)  (a1 : Int) (ha1 : 1 ≤ a1 ∧ a1 ≤ 5) (a2 : Int) (ha2 : 0 ≤ a2 ∧ a2 ≤ 900)  : Tr l K 0 mX12_blame 0 [(0, (2, 120)), (1, (0, a1)), (2, (0, a2))] [] M0 (q_X12_blame_120 a1 a2 M0) := by
  have hS : St Pm1 ws_X12_blame_120 as_X12_blame_120 M0 M0 := St.rf hI
  obtain ⟨g120_8, eg120_8⟩ : ∃ v, rd M0 120 8 = v := ⟨_, rfl⟩
  have bg120_8 : 0 ≤ g120_8 ∧ g120_8 ≤ 5 := by rw [← eg120_8]; exact ir_120_8 hI.2.1
  refine Tr.aload_n (pc := 0) (i := 0) d_X12_blame_0 rfl rfl ?_
  refine Tr.getf (pc := 1) d_X12_blame_1 f_12_36 (by decide) (by decide) (ty_120 hS.1.1) ?_
  refine Tr.tp g120_8 eg120_8 ?_
  refine Tr.if_le (pc := 4) (tgt := 8) d_X12_blame_4 rfl (fun c4 => ?_) (fun c4 => ?_)
  · refine Tr.aload_n (pc := 8) (i := 0) d_X12_blame_8 rfl rfl ?_
    refine Tr.iload_n (pc := 9) (i := 1) d_X12_blame_9 rfl rfl ?_
    refine Tr.putfS (pc := 10) (P := St Pm1 ws_X12_blame_120 as_X12_blame_120 M0) d_X12_blame_10 f_12_36 (by decide) (by decide) (ty_120 hS.1.1) (st_120_8 hS (by decide) (by and_intros <;> omega) (Pm1_fk hS.1.2.2.2.2 hS.1.2.1 (by and_intros <;> omega))) (fun M10 hS w10 => ?_)
    refine Tr.aload_n (pc := 13) (i := 0) d_X12_blame_13 rfl rfl ?_
    refine Tr.iload_n (pc := 14) (i := 2) d_X12_blame_14 rfl rfl ?_
    refine Tr.putfS (pc := 15) (P := St Pm1 ws_X12_blame_120 as_X12_blame_120 M0) d_X12_blame_15 f_12_39 (by decide) (by decide) (ty_120 hS.1.1) (st_120_9 hS (by decide) (by and_intros <;> omega) (Pm1.of hS.1.2.2.2.2 (fun _ => rd_wb _ rfl) (fun _ => rd_wb _ rfl) (fun _ => rd_wb _ rfl) (fun _ => rd_wb _ rfl) (fun _ => rd_wb _ rfl) (fun _ => rd_wb _ rfl) (fun _ => rd_wb _ rfl) (fun _ => rd_wb _ rfl) (fun _ => rd_wb _ rfl) (fun _ => rd_wb _ rfl) (rd_wb _ rfl) (rd_wb _ rfl) (rd_wb _ rfl) (rd_wb _ rfl) (rd_wb _ rfl) (rd_wb _ rfl) (rd_wb _ rfl) (rd_wb _ rfl) (rd_wb _ rfl) (rd_wb _ rfl) (rd_wb _ rfl))) (fun M15 hS w15 => ?_)
    have kr_120_8 : rd M15 120 8 = a1 := ((Wr.b w15 rfl).trans w10.1)
    exact Tr.vret (pc := 18) d_X12_blame_18 rfl ⟨hS, rfl, by omega⟩
  · have kr_120_8 : rd M0 120 8 = g120_8 := eg120_8
    exact Tr.vret (pc := 7) d_X12_blame_7 rfl ⟨hS, rfl, by omega⟩

def ws_X12_next_120 : List (Int × Int) := [(120, 3), (120, 4), (120, 5), (120, 6), (120, 7), (120, 8), (120, 9)]
def as_X12_next_120 : List Int := []
def q_X12_next_120 (M0 M' : Mem) (r : Option PV) : Prop := St Pm1 ws_X12_next_120 as_X12_next_120 M0 M' ∧ r = none ∧ (rd M' 120 3 = 0 ∨ rd M' 120 4 + 1 ≤ rd M' 120 5) ∧ (rd M' 120 4 ≤ rd M' 120 5) ∧ (rd M' 120 3 ≠ 1 ∨ rd M' 120 4 + 2 ≤ rd M' 120 5 ∨ rd M' 120 7 < 256) ∧ (rd M0 120 5 ≤ rd M' 120 4) ∧ (rd M0 120 5 ≤ rd M' 120 5 ∧ 2 * rd M0 120 5 - min (rd M0 120 3) 1 ≤ 2 * rd M' 120 5 - min (rd M' 120 3) 1) ∧ (rd M0 120 8 = 0 ∨ rd M' 120 8 = rd M0 120 8)
set_option maxRecDepth 100000 in
set_option maxHeartbeats 4000000 in
theorem sp_X12_next_120 {l : Launch} {K : EC} {M0 : Mem} (hI : In Pm1 M0)    : Tr l K 1 mX12_next 0 [(0, (2, 120))] [] M0 (q_X12_next_120 M0) := by
  have hS : St Pm1 ws_X12_next_120 as_X12_next_120 M0 M0 := St.rf hI
  obtain ⟨g120_8, eg120_8⟩ : ∃ v, rd M0 120 8 = v := ⟨_, rfl⟩
  have bg120_8 : 0 ≤ g120_8 ∧ g120_8 ≤ 5 := by rw [← eg120_8]; exact ir_120_8 hI.2.1
  obtain ⟨g120_3, eg120_3⟩ : ∃ v, rd M0 120 3 = v := ⟨_, rfl⟩
  have bg120_3 : 0 ≤ g120_3 ∧ g120_3 ≤ 3 := by rw [← eg120_3]; exact ir_120_3 hI.2.1
  obtain ⟨g120_4, eg120_4⟩ : ∃ v, rd M0 120 4 = v := ⟨_, rfl⟩
  have bg120_4 : 0 ≤ g120_4 ∧ g120_4 ≤ 900 := by rw [← eg120_4]; exact ir_120_4 hI.2.1
  obtain ⟨g120_5, eg120_5⟩ : ∃ v, rd M0 120 5 = v := ⟨_, rfl⟩
  have bg120_5 : 0 ≤ g120_5 ∧ g120_5 ≤ 900 := by rw [← eg120_5]; exact ir_120_5 hI.2.1
  obtain ⟨g120_7, eg120_7⟩ : ∃ v, rd M0 120 7 = v := ⟨_, rfl⟩
  have bg120_7 : (-9223372036854775808) ≤ g120_7 ∧ g120_7 ≤ 9223372036854775807 := by rw [← eg120_7]; exact ir_120_7 hI.2.1
  refine Tr.aload_n (pc := 0) (i := 0) d_X12_next_0 rfl rfl ?_
  refine Tr.getf (pc := 1) d_X12_next_1 f_12_26 (by decide) (by decide) (ty_120 hS.1.1) ?_
  refine Tr.tp g120_5 eg120_5 ?_
  refine Tr.istore_n (pc := 4) (i := 1) (ls2 := [(1, (0, g120_5)), (0, (2, 120))]) d_X12_next_4 rfl (by decide) rfl ?_
  have J5 : ∀ (n5 : Nat) (M : Mem) (p5_1 : Int), St Pm1 ws_X12_next_120 as_X12_next_120 M0 M → (0 ≤ p5_1 ∧ p5_1 ≤ 900) → rd M 120 3 = g120_3 → rd M 120 4 = g120_4 → rd M 120 5 = g120_5 → rd M 120 7 = g120_7 → rd M 120 8 = g120_8 → (g120_5 ≤ p5_1 ∧ g120_8 = g120_8) → (900 - p5_1).toNat < n5 → Tr l K 1 mX12_next 5 [(0, (2, 120)), (1, (0, p5_1))] [] M (q_X12_next_120 M0) := by
    intro n5
    induction n5 with
    | zero => intro M p5_1 hS bp5_1 k5_120_3 k5_120_4 k5_120_5 k5_120_7 k5_120_8 t5_0 hm5; exact absurd hm5 (Nat.not_lt_zero _)
    | succ n5 J5 =>
      intro M p5_1 hS bp5_1 k5_120_3 k5_120_4 k5_120_5 k5_120_7 k5_120_8 t5_0 hm5
      refine Tr.iload_n (pc := 5) (i := 1) d_X12_next_5 rfl rfl ?_
      refine Tr.aload_n (pc := 6) (i := 0) d_X12_next_6 rfl rfl ?_
      refine Tr.getf (pc := 7) d_X12_next_7 f_12_17 (by decide) (by decide) (ty_120 hS.1.1) ?_
      refine Tr.gen (P := fun v => 0 ≤ v ∧ v ≤ 900) (ir_120_2 hS.1.2.1) (fun r7 er7 br7 => ?_)
      have J41 : ∀ (M : Mem), St Pm1 ws_X12_next_120 as_X12_next_120 M0 M → rd M 120 2 = r7 → rd M 120 3 = g120_3 → rd M 120 4 = g120_4 → rd M 120 5 = g120_5 → rd M 120 7 = g120_7 → rd M 120 8 = g120_8 → (g120_5 ≤ p5_1 ∧ g120_8 = g120_8) → Tr l K 1 mX12_next 41 [(0, (2, 120)), (1, (0, p5_1))] [] M (q_X12_next_120 M0) := by
        intro M  hS  k41_120_2 k41_120_3 k41_120_4 k41_120_5 k41_120_7 k41_120_8 t41_0
        refine Tr.aload_n (pc := 41) (i := 0) d_X12_next_41 rfl rfl ?_
        refine Tr.iload_n (pc := 42) (i := 1) d_X12_next_42 rfl rfl ?_
        refine Tr.putfS (pc := 43) (P := St Pm1 ws_X12_next_120 as_X12_next_120 M0) d_X12_next_43 f_12_23 (by decide) (by decide) (ty_120 hS.1.1) (st_120_4 hS (by decide) (by and_intros <;> omega) (Pm1.of hS.1.2.2.2.2 (fun _ => rd_wb _ rfl) (fun _ => rd_wb _ rfl) (fun _ => rd_wb _ rfl) (fun _ => rd_wb _ rfl) (fun _ => rd_wb _ rfl) (fun _ => rd_wb _ rfl) (fun _ => rd_wb _ rfl) (fun _ => rd_wb _ rfl) (fun _ => rd_wb _ rfl) (fun _ => rd_wb _ rfl) (rd_wb _ rfl) (rd_wb _ rfl) (rd_wb _ rfl) (rd_wb _ rfl) (rd_wb _ rfl) (rd_wb _ rfl) (rd_wb _ rfl) (rd_wb _ rfl) (rd_wb _ rfl) (rd_wb _ rfl) (rd_wb _ rfl))) (fun M43 hS w43 => ?_)
        refine Tr.aload_n (pc := 46) (i := 0) d_X12_next_46 rfl rfl ?_
        refine Tr.iload_n (pc := 47) (i := 1) d_X12_next_47 rfl rfl ?_
        refine Tr.putfS (pc := 48) (P := St Pm1 ws_X12_next_120 as_X12_next_120 M0) d_X12_next_48 f_12_26 (by decide) (by decide) (ty_120 hS.1.1) (st_120_5 hS (by decide) (by and_intros <;> omega) (Pm1.of hS.1.2.2.2.2 (fun _ => rd_wb _ rfl) (fun _ => rd_wb _ rfl) (fun _ => rd_wb _ rfl) (fun _ => rd_wb _ rfl) (fun _ => rd_wb _ rfl) (fun _ => rd_wb _ rfl) (fun _ => rd_wb _ rfl) (fun _ => rd_wb _ rfl) (fun _ => rd_wb _ rfl) (fun _ => rd_wb _ rfl) (rd_wb _ rfl) (rd_wb _ rfl) (rd_wb _ rfl) (rd_wb _ rfl) (rd_wb _ rfl) (rd_wb _ rfl) (rd_wb _ rfl) (rd_wb _ rfl) (rd_wb _ rfl) (rd_wb _ rfl) (rd_wb _ rfl))) (fun M48 hS w48 => ?_)
        refine Tr.aload_n (pc := 51) (i := 0) d_X12_next_51 rfl rfl ?_
        refine Tr.iconst (pc := 52) d_X12_next_52 (by decide) ?_
        refine Tr.putfS (pc := 53) (P := St Pm1 ws_X12_next_120 as_X12_next_120 M0) d_X12_next_53 f_12_20 (by decide) (by decide) (ty_120 hS.1.1) (st_120_3 hS (by decide) (by and_intros <;> omega) (Pm1.of hS.1.2.2.2.2 (fun _ => rd_wb _ rfl) (fun _ => rd_wb _ rfl) (fun _ => rd_wb _ rfl) (fun _ => rd_wb _ rfl) (fun _ => rd_wb _ rfl) (fun _ => rd_wb _ rfl) (fun _ => rd_wb _ rfl) (fun _ => rd_wb _ rfl) (fun _ => rd_wb _ rfl) (fun _ => rd_wb _ rfl) (rd_wb _ rfl) (rd_wb _ rfl) (rd_wb _ rfl) (rd_wb _ rfl) (rd_wb _ rfl) (rd_wb _ rfl) (rd_wb _ rfl) (rd_wb _ rfl) (rd_wb _ rfl) (rd_wb _ rfl) (rd_wb _ rfl))) (fun M53 hS w53 => ?_)
        refine Tr.iload_n (pc := 56) (i := 1) d_X12_next_56 rfl rfl ?_
        refine Tr.aload_n (pc := 57) (i := 0) d_X12_next_57 rfl rfl ?_
        refine Tr.getf (pc := 58) d_X12_next_58 f_12_17 (by decide) (by decide) (ty_120 hS.1.1) ?_
        refine Tr.tp r7 ((Wr.b w53 rfl).trans ((Wr.b w48 rfl).trans ((Wr.b w43 rfl).trans k41_120_2))) ?_
        refine Tr.icmp_lt (pc := 61) (tgt := 65) d_X12_next_61 rfl (fun c61 => ?_) (fun c61 => ?_)
        · refine Tr.aload_n (pc := 65) (i := 0) d_X12_next_65 rfl rfl ?_
          refine Tr.getf (pc := 66) d_X12_next_66 f_12_7 (by decide) (by decide) (ty_120 hS.1.1) ?_
          refine Tr.tp 121 (fx_120_0 hS.1.1) ?_
          refine Tr.iload_n (pc := 69) (i := 1) d_X12_next_69 rfl rfl ?_
          refine Tr.iald (pc := 70) d_X12_next_70 (ty_121 hS.1.1) (by and_intros <;> omega) (by and_intros <;> omega) ?_
          refine Tr.gen (P := fun v => (-2147483648) ≤ v ∧ v ≤ 2147483647) (ar_121 hS.1.2.1 _) (fun r70 er70 br70 => ?_)
          refine Tr.callS (pc := 71) (as := [_]) d_X12_next_71 s_12_382 ok_X12_isLetter rfl rfl (Nat.le_of_ble_eq_true rfl) (Nat.le_of_ble_eq_true rfl) ?_
          refine Tr.imp (Tr.deep (by decide) (sp_X12_isLetter hS.1.wk r70 (by and_intros <;> omega))) ?_
          rintro M71 _ ⟨h71, r71, rfl, lr71, ur71, wr71⟩
          have h71 := St.rn h71 (Pm1.of hS.1.2.2.2.2 (fun _ => St.ka h71 (by decide) (by decide) (by decide)) (fun _ => St.ka h71 (by decide) (by decide) (by decide)) (fun _ => St.ka h71 (by decide) (by decide) (by decide)) (fun _ => St.ka h71 (by decide) (by decide) (by decide)) (fun _ => St.ka h71 (by decide) (by decide) (by decide)) (fun _ => St.ka h71 (by decide) (by decide) (by decide)) (fun _ => St.ka h71 (by decide) (by decide) (by decide)) (fun _ => St.ka h71 (by decide) (by decide) (by decide)) (fun _ => St.ka h71 (by decide) (by decide) (by decide)) (fun _ => St.ka h71 (by decide) (by decide) (by decide)) (St.kp h71 (by decide) (by decide) (by decide)) (St.kp h71 (by decide) (by decide) (by decide)) (St.kp h71 (by decide) (by decide) (by decide)) (St.kp h71 (by decide) (by decide) (by decide)) (St.kp h71 (by decide) (by decide) (by decide)) (St.kp h71 (by decide) (by decide) (by decide)) (St.kp h71 (by decide) (by decide) (by decide)) (St.kp h71 (by decide) (by decide) (by decide)) (St.kp h71 (by decide) (by decide) (by decide)) (St.kp h71 (by decide) (by decide) (by decide)) (St.kp h71 (by decide) (by decide) (by decide)))
          have hS := St.tr hS h71 (by decide) (by decide)
          refine Tr.sc [(0, r71)] rfl ?_
          refine Tr.istore_n (pc := 74) (i := 2) (ls2 := [(2, (0, r71)), (0, (2, 120)), (1, (0, p5_1))]) d_X12_next_74 rfl (by decide) rfl ?_
          refine Tr.aload_n (pc := 75) (i := 0) d_X12_next_75 rfl rfl ?_
          refine Tr.getf (pc := 76) d_X12_next_76 f_12_7 (by decide) (by decide) (ty_120 hS.1.1) ?_
          refine Tr.tp 121 (fx_120_0 hS.1.1) ?_
          refine Tr.iload_n (pc := 79) (i := 1) d_X12_next_79 rfl rfl ?_
          refine Tr.iald (pc := 80) d_X12_next_80 (ty_121 hS.1.1) (by and_intros <;> omega) (by and_intros <;> omega) ?_
          refine Tr.tp r70 ((St.ka h71 (by decide) (by decide) (by decide)).trans er70) ?_
          refine Tr.callS (pc := 81) (as := [_]) d_X12_next_81 s_12_386 ok_X12_isDigit rfl rfl (Nat.le_of_ble_eq_true rfl) (Nat.le_of_ble_eq_true rfl) ?_
          refine Tr.imp (Tr.deep (by decide) (sp_X12_isDigit hS.1.wk r70 (by and_intros <;> omega))) ?_
          rintro M81 _ ⟨h81, r81, rfl, lr81, ur81, wr81⟩
          have h81 := St.rn h81 (Pm1.of hS.1.2.2.2.2 (fun _ => St.ka h81 (by decide) (by decide) (by decide)) (fun _ => St.ka h81 (by decide) (by decide) (by decide)) (fun _ => St.ka h81 (by decide) (by decide) (by decide)) (fun _ => St.ka h81 (by decide) (by decide) (by decide)) (fun _ => St.ka h81 (by decide) (by decide) (by decide)) (fun _ => St.ka h81 (by decide) (by decide) (by decide)) (fun _ => St.ka h81 (by decide) (by decide) (by decide)) (fun _ => St.ka h81 (by decide) (by decide) (by decide)) (fun _ => St.ka h81 (by decide) (by decide) (by decide)) (fun _ => St.ka h81 (by decide) (by decide) (by decide)) (St.kp h81 (by decide) (by decide) (by decide)) (St.kp h81 (by decide) (by decide) (by decide)) (St.kp h81 (by decide) (by decide) (by decide)) (St.kp h81 (by decide) (by decide) (by decide)) (St.kp h81 (by decide) (by decide) (by decide)) (St.kp h81 (by decide) (by decide) (by decide)) (St.kp h81 (by decide) (by decide) (by decide)) (St.kp h81 (by decide) (by decide) (by decide)) (St.kp h81 (by decide) (by decide) (by decide)) (St.kp h81 (by decide) (by decide) (by decide)) (St.kp h81 (by decide) (by decide) (by decide)))
          have hS := St.tr hS h81 (by decide) (by decide)
          refine Tr.sc [(0, r81)] rfl ?_
          refine Tr.istore_n (pc := 84) (i := 3) (ls2 := [(3, (0, r81)), (2, (0, r71)), (0, (2, 120)), (1, (0, p5_1))]) d_X12_next_84 rfl (by decide) rfl ?_
          refine Tr.iload_n (pc := 85) (i := 2) d_X12_next_85 rfl rfl ?_
          have J131 : ∀ (M : Mem) (u131_120_8 : Int), St Pm1 ws_X12_next_120 as_X12_next_120 M0 M → (0 ≤ u131_120_8 ∧ u131_120_8 ≤ 5) → rd M 120 2 = r7 → rd M 120 3 = 0 → rd M 120 4 = p5_1 → rd M 120 5 = p5_1 → rd M 120 7 = g120_7 → rd M 120 8 = u131_120_8 → rd M 121 p5_1 = r70 → (g120_5 ≤ p5_1) → (p5_1 = p5_1) → (g120_8 = 0 ∨ u131_120_8 = g120_8) → ((r71 = 1 ∧ 97 ≤ rd M 121 p5_1 ∧ rd M 121 p5_1 ≤ 122) ∨ (r71 = 0 ∧ (rd M 121 p5_1 < 97 ∨ 122 < rd M 121 p5_1))) → ((r81 = 1 ∧ 48 ≤ rd M 121 p5_1 ∧ rd M 121 p5_1 ≤ 57) ∨ (r81 = 0 ∧ (rd M 121 p5_1 < 48 ∨ 57 < rd M 121 p5_1))) → Tr l K 1 mX12_next 131 [(0, (2, 120)), (1, (0, p5_1)), (2, (0, r71)), (3, (0, r81))] [] M (q_X12_next_120 M0) := by
            intro M u131_120_8 hS bu131_120_8 k131_120_2 k131_120_3 k131_120_4 k131_120_5 k131_120_7 k131_120_8 k131_121_p5_110 t131_0 t131_1 t131_2 t131_3 t131_4
            refine Tr.aload_n (pc := 131) (i := 0) d_X12_next_131 rfl rfl ?_
            refine Tr.iconst (pc := 132) d_X12_next_132 (by decide) ?_
            refine Tr.putfS (pc := 133) (P := St Pm1 ws_X12_next_120 as_X12_next_120 M0) d_X12_next_133 f_12_29 (by decide) (by decide) (ty_120 hS.1.1) (st_120_6 hS (by decide) (by and_intros <;> omega) (Pm1.of hS.1.2.2.2.2 (fun _ => rd_wb _ rfl) (fun _ => rd_wb _ rfl) (fun _ => rd_wb _ rfl) (fun _ => rd_wb _ rfl) (fun _ => rd_wb _ rfl) (fun _ => rd_wb _ rfl) (fun _ => rd_wb _ rfl) (fun _ => rd_wb _ rfl) (fun _ => rd_wb _ rfl) (fun _ => rd_wb _ rfl) (rd_wb _ rfl) (rd_wb _ rfl) (rd_wb _ rfl) (rd_wb _ rfl) (rd_wb _ rfl) (rd_wb _ rfl) (rd_wb _ rfl) (rd_wb _ rfl) (rd_wb _ rfl) (rd_wb _ rfl) (rd_wb _ rfl))) (fun M133 hS w133 => ?_)
            refine Tr.aload_n (pc := 136) (i := 0) d_X12_next_136 rfl rfl ?_
            refine Tr.lconst (pc := 137) (v := 0) d_X12_next_137 rfl (by decide) ?_
            refine Tr.putfS (pc := 138) (P := St Pm1 ws_X12_next_120 as_X12_next_120 M0) d_X12_next_138 f_12_32 (by decide) (by decide) (ty_120 hS.1.1) (st_120_7 hS (by decide) (by and_intros <;> omega) (Pm1.of hS.1.2.2.2.2 (fun _ => rd_wb _ rfl) (fun _ => rd_wb _ rfl) (fun _ => rd_wb _ rfl) (fun _ => rd_wb _ rfl) (fun _ => rd_wb _ rfl) (fun _ => rd_wb _ rfl) (fun _ => rd_wb _ rfl) (fun _ => rd_wb _ rfl) (fun _ => rd_wb _ rfl) (fun _ => rd_wb _ rfl) (rd_wb _ rfl) (rd_wb _ rfl) (rd_wb _ rfl) (rd_wb _ rfl) (rd_wb _ rfl) (rd_wb _ rfl) (rd_wb _ rfl) (rd_wb _ rfl) (rd_wb _ rfl) (rd_wb _ rfl) (rd_wb _ rfl))) (fun M138 hS w138 => ?_)
            refine Tr.aload_n (pc := 141) (i := 0) d_X12_next_141 rfl rfl ?_
            refine Tr.iconst (pc := 142) d_X12_next_142 (by decide) ?_
            refine Tr.putfS (pc := 143) (P := St Pm1 ws_X12_next_120 as_X12_next_120 M0) d_X12_next_143 f_12_20 (by decide) (by decide) (ty_120 hS.1.1) (st_120_3 hS (by decide) (by and_intros <;> omega) (Pm1.of hS.1.2.2.2.2 (fun _ => rd_wb _ rfl) (fun _ => rd_wb _ rfl) (fun _ => rd_wb _ rfl) (fun _ => rd_wb _ rfl) (fun _ => rd_wb _ rfl) (fun _ => rd_wb _ rfl) (fun _ => rd_wb _ rfl) (fun _ => rd_wb _ rfl) (fun _ => rd_wb _ rfl) (fun _ => rd_wb _ rfl) (rd_wb _ rfl) (rd_wb _ rfl) (rd_wb _ rfl) (rd_wb _ rfl) (rd_wb _ rfl) (rd_wb _ rfl) (rd_wb _ rfl) (rd_wb _ rfl) (rd_wb _ rfl) (rd_wb _ rfl) (rd_wb _ rfl))) (fun M143 hS w143 => ?_)
            refine Tr.aload_n (pc := 146) (i := 0) d_X12_next_146 rfl rfl ?_
            refine Tr.iload_n (pc := 147) (i := 1) d_X12_next_147 rfl rfl ?_
            refine Tr.iconst (pc := 148) d_X12_next_148 (by decide) ?_
            refine Tr.iadd (pc := 149) d_X12_next_149 ?_
            refine Tr.tp (p5_1 + 1) ((w32_id (by and_intros <;> omega)).trans (by first | rfl | (apply Int.le_antisymm <;> omega))) ?_
            refine Tr.putfS (pc := 150) (P := St Pm1 ws_X12_next_120 as_X12_next_120 M0) d_X12_next_150 f_12_26 (by decide) (by decide) (ty_120 hS.1.1) (st_120_5 hS (by decide) (by and_intros <;> omega) (Pm1.of hS.1.2.2.2.2 (fun _ => rd_wb _ rfl) (fun _ => rd_wb _ rfl) (fun _ => rd_wb _ rfl) (fun _ => rd_wb _ rfl) (fun _ => rd_wb _ rfl) (fun _ => rd_wb _ rfl) (fun _ => rd_wb _ rfl) (fun _ => rd_wb _ rfl) (fun _ => rd_wb _ rfl) (fun _ => rd_wb _ rfl) (rd_wb _ rfl) (rd_wb _ rfl) (rd_wb _ rfl) (rd_wb _ rfl) (rd_wb _ rfl) (rd_wb _ rfl) (rd_wb _ rfl) (rd_wb _ rfl) (rd_wb _ rfl) (rd_wb _ rfl) (rd_wb _ rfl))) (fun M150 hS w150 => ?_)
            refine Tr.iload_n (pc := 153) (i := 2) d_X12_next_153 rfl rfl ?_
            have J172 : ∀ (M : Mem), St Pm1 ws_X12_next_120 as_X12_next_120 M0 M → rd M 120 2 = r7 → rd M 120 3 = 3 → rd M 120 4 = p5_1 → rd M 120 5 = (p5_1 + 1) → rd M 120 6 = 0 → rd M 120 7 = 0 → rd M 120 8 = u131_120_8 → rd M 121 p5_1 = r70 → (g120_5 ≤ p5_1) → (p5_1 = p5_1) → (g120_8 = 0 ∨ u131_120_8 = g120_8) → ((r71 = 1 ∧ 97 ≤ rd M 121 p5_1 ∧ rd M 121 p5_1 ≤ 122) ∨ (r71 = 0 ∧ (rd M 121 p5_1 < 97 ∨ 122 < rd M 121 p5_1))) → ((r81 = 1 ∧ 48 ≤ rd M 121 p5_1 ∧ rd M 121 p5_1 ≤ 57) ∨ (r81 = 0 ∧ (rd M 121 p5_1 < 48 ∨ 57 < rd M 121 p5_1))) → Tr l K 1 mX12_next 172 [(0, (2, 120)), (1, (0, p5_1)), (2, (0, r71)), (3, (0, r81))] [] M (q_X12_next_120 M0) := by
              intro M  hS  k172_120_2 k172_120_3 k172_120_4 k172_120_5 k172_120_6 k172_120_7 k172_120_8 k172_121_p5_110 t172_0 t172_1 t172_2 t172_3 t172_4
              clear t131_2 t131_3 t131_4
              refine Tr.aload_n (pc := 172) (i := 0) d_X12_next_172 rfl rfl ?_
              refine Tr.iload_n (pc := 173) (i := 2) d_X12_next_173 rfl rfl ?_
              have J182 : ∀ (M : Mem) (q182_1 : Int), St Pm1 ws_X12_next_120 as_X12_next_120 M0 M → (1 ≤ q182_1 ∧ q182_1 ≤ 2) → rd M 120 2 = r7 → rd M 120 3 = 3 → rd M 120 4 = p5_1 → rd M 120 5 = (p5_1 + 1) → rd M 120 6 = 0 → rd M 120 7 = 0 → rd M 120 8 = u131_120_8 → rd M 121 p5_1 = r70 → (g120_5 ≤ p5_1) → (p5_1 = p5_1) → (g120_8 = 0 ∨ u131_120_8 = g120_8) → ((r71 = 1 ∧ 97 ≤ rd M 121 p5_1 ∧ rd M 121 p5_1 ≤ 122) ∨ (r71 = 0 ∧ (rd M 121 p5_1 < 97 ∨ 122 < rd M 121 p5_1))) → ((r81 = 1 ∧ 48 ≤ rd M 121 p5_1 ∧ rd M 121 p5_1 ≤ 57) ∨ (r81 = 0 ∧ (rd M 121 p5_1 < 48 ∨ 57 < rd M 121 p5_1))) → Tr l K 1 mX12_next 182 [(0, (2, 120)), (1, (0, p5_1)), (2, (0, r71)), (3, (0, r81))] [(0, q182_1), (2, 120)] M (q_X12_next_120 M0) := by
                intro M q182_1 hS bq182_1 k182_120_2 k182_120_3 k182_120_4 k182_120_5 k182_120_6 k182_120_7 k182_120_8 k182_121_p5_110 t182_0 t182_1 t182_2 t182_3 t182_4
                clear t172_2 t172_3 t172_4
                refine Tr.putfS (pc := 182) (P := St Pm1 ws_X12_next_120 as_X12_next_120 M0) d_X12_next_182 f_12_20 (by decide) (by decide) (ty_120 hS.1.1) (st_120_3 hS (by decide) (by and_intros <;> omega) (Pm1.of hS.1.2.2.2.2 (fun _ => rd_wb _ rfl) (fun _ => rd_wb _ rfl) (fun _ => rd_wb _ rfl) (fun _ => rd_wb _ rfl) (fun _ => rd_wb _ rfl) (fun _ => rd_wb _ rfl) (fun _ => rd_wb _ rfl) (fun _ => rd_wb _ rfl) (fun _ => rd_wb _ rfl) (fun _ => rd_wb _ rfl) (rd_wb _ rfl) (rd_wb _ rfl) (rd_wb _ rfl) (rd_wb _ rfl) (rd_wb _ rfl) (rd_wb _ rfl) (rd_wb _ rfl) (rd_wb _ rfl) (rd_wb _ rfl) (rd_wb _ rfl) (rd_wb _ rfl))) (fun M182 hS w182 => ?_)
                refine Tr.iload_n (pc := 185) (i := 2) d_X12_next_185 rfl rfl ?_
                have J195 : ∀ (M : Mem) (q195_0 : Int), St Pm1 ws_X12_next_120 as_X12_next_120 M0 M → (4 ≤ q195_0 ∧ q195_0 ≤ 6) → rd M 120 2 = r7 → rd M 120 3 = q182_1 → rd M 120 4 = p5_1 → rd M 120 5 = (p5_1 + 1) → rd M 120 6 = 0 → rd M 120 7 = 0 → rd M 120 8 = u131_120_8 → rd M 121 p5_1 = r70 → (g120_5 ≤ p5_1) → (p5_1 = p5_1) → (g120_8 = 0 ∨ u131_120_8 = g120_8) → ((r71 = 1 ∧ 97 ≤ rd M 121 p5_1 ∧ rd M 121 p5_1 ≤ 122) ∨ (r71 = 0 ∧ (rd M 121 p5_1 < 97 ∨ 122 < rd M 121 p5_1))) → ((r81 = 1 ∧ 48 ≤ rd M 121 p5_1 ∧ rd M 121 p5_1 ≤ 57) ∨ (r81 = 0 ∧ (rd M 121 p5_1 < 48 ∨ 57 < rd M 121 p5_1))) → Tr l K 1 mX12_next 195 [(0, (2, 120)), (1, (0, p5_1)), (2, (0, r71)), (3, (0, r81))] [(0, q195_0)] M (q_X12_next_120 M0) := by
                  intro M q195_0 hS bq195_0 k195_120_2 k195_120_3 k195_120_4 k195_120_5 k195_120_6 k195_120_7 k195_120_8 k195_121_p5_110 t195_0 t195_1 t195_2 t195_3 t195_4
                  clear t182_2 t182_3 t182_4
                  refine Tr.istore (pc := 195) (i := 4) (ls2 := [(4, (0, q195_0)), (0, (2, 120)), (1, (0, p5_1)), (2, (0, r71)), (3, (0, r81))]) d_X12_next_195 (by decide) rfl ?_
                  refine Tr.iconst (pc := 197) d_X12_next_197 (by decide) ?_
                  refine Tr.istore (pc := 198) (i := 5) (ls2 := [(5, (0, 0)), (4, (0, q195_0)), (0, (2, 120)), (1, (0, p5_1)), (2, (0, r71)), (3, (0, r81))]) d_X12_next_198 (by decide) rfl ?_
                  have J200 : ∀ (n200 : Nat) (M : Mem) (p200_1 p200_5 u200_120_7 u200_120_8 : Int), St Pm1 ws_X12_next_120 as_X12_next_120 M0 M → (0 ≤ p200_1 ∧ p200_1 ≤ 900) → ((-2147483648) ≤ p200_5 ∧ p200_5 ≤ 2147483647) → ((-9223372036854775808) ≤ u200_120_7 ∧ u200_120_7 ≤ 9223372036854775807) → (0 ≤ u200_120_8 ∧ u200_120_8 ≤ 5) → rd M 120 2 = r7 → rd M 120 3 = q182_1 → rd M 120 4 = p5_1 → rd M 120 5 = (p5_1 + 1) → rd M 120 7 = u200_120_7 → rd M 120 8 = u200_120_8 → rd M 121 p5_1 = r70 → (g120_5 ≤ p5_1) → (p200_1 = p5_1 + p200_5 ∧ 0 ≤ p200_5) → (g120_8 = 0 ∨ u200_120_8 = g120_8) → (q182_1 = 1 ∨ q182_1 = 2) → ((r71 = 1 ∧ q195_0 = 6 ∧ q182_1 = 1) ∨ (r71 = 0 ∧ q195_0 = 4 ∧ q182_1 = 2)) → (q182_1 ≠ 1 ∨ p200_5 ≥ 2 ∨ (p200_5 = 1 ∧ 0 ≤ u200_120_7 ∧ u200_120_7 < 256) ∨ (p200_5 = 0 ∧ u200_120_7 = 0)) → (p200_5 ≠ 0 ∨ (r71 = 1 ∧ 97 ≤ rd M 121 p200_1 ∧ rd M 121 p200_1 ≤ 122) ∨ (r71 = 0 ∧ 48 ≤ rd M 121 p200_1 ∧ rd M 121 p200_1 ≤ 57)) → (900 - p200_1).toNat < n200 → Tr l K 1 mX12_next 200 [(0, (2, 120)), (1, (0, p200_1)), (2, (0, r71)), (3, (0, r81)), (4, (0, q195_0)), (5, (0, p200_5))] [] M (q_X12_next_120 M0) := by
                    intro n200
                    induction n200 with
                    | zero => intro M p200_1 p200_5 u200_120_7 u200_120_8 hS bp200_1 bp200_5 bu200_120_7 bu200_120_8 k200_120_2 k200_120_3 k200_120_4 k200_120_5 k200_120_7 k200_120_8 k200_121_p5_110 t200_0 t200_1 t200_2 t200_3 t200_4 t200_5 t200_6 hm200; exact absurd hm200 (Nat.not_lt_zero _)
                    | succ n200 J200 =>
                      intro M p200_1 p200_5 u200_120_7 u200_120_8 hS bp200_1 bp200_5 bu200_120_7 bu200_120_8 k200_120_2 k200_120_3 k200_120_4 k200_120_5 k200_120_7 k200_120_8 k200_121_p5_110 t200_0 t200_1 t200_2 t200_3 t200_4 t200_5 t200_6 hm200
                      clear t195_2 t195_3 t195_4
                      refine Tr.iload_n (pc := 200) (i := 1) d_X12_next_200 rfl rfl ?_
                      refine Tr.aload_n (pc := 201) (i := 0) d_X12_next_201 rfl rfl ?_
                      refine Tr.getf (pc := 202) d_X12_next_202 f_12_17 (by decide) (by decide) (ty_120 hS.1.1) ?_
                      refine Tr.tp r7 k200_120_2 ?_
                      refine Tr.icmp_ge (pc := 205) (tgt := 323) d_X12_next_205 rfl (fun c205 => ?_) (fun c205 => ?_)
                      · refine Tr.aload_n (pc := 323) (i := 0) d_X12_next_323 rfl rfl ?_
                        refine Tr.iload_n (pc := 324) (i := 1) d_X12_next_324 rfl rfl ?_
                        refine Tr.putfS (pc := 325) (P := St Pm1 ws_X12_next_120 as_X12_next_120 M0) d_X12_next_325 f_12_26 (by decide) (by decide) (ty_120 hS.1.1) (st_120_5 hS (by decide) (by and_intros <;> omega) (Pm1.of hS.1.2.2.2.2 (fun _ => rd_wb _ rfl) (fun _ => rd_wb _ rfl) (fun _ => rd_wb _ rfl) (fun _ => rd_wb _ rfl) (fun _ => rd_wb _ rfl) (fun _ => rd_wb _ rfl) (fun _ => rd_wb _ rfl) (fun _ => rd_wb _ rfl) (fun _ => rd_wb _ rfl) (fun _ => rd_wb _ rfl) (rd_wb _ rfl) (rd_wb _ rfl) (rd_wb _ rfl) (rd_wb _ rfl) (rd_wb _ rfl) (rd_wb _ rfl) (rd_wb _ rfl) (rd_wb _ rfl) (rd_wb _ rfl) (rd_wb _ rfl) (rd_wb _ rfl))) (fun M325 hS w325 => ?_)
                        have kr_120_3 : rd M325 120 3 = q182_1 := ((Wr.b w325 rfl).trans k200_120_3)
                        have kr_120_4 : rd M325 120 4 = p5_1 := ((Wr.b w325 rfl).trans k200_120_4)
                        have kr_120_5 : rd M325 120 5 = p200_1 := w325.1
                        have kr_120_7 : rd M325 120 7 = u200_120_7 := ((Wr.b w325 rfl).trans k200_120_7)
                        have kr_120_8 : rd M325 120 8 = u200_120_8 := ((Wr.b w325 rfl).trans k200_120_8)
                        have mnr : min (rd M325 120 3) 1 = min (q182_1 : Int) 1 := by rw [kr_120_3]
                        have mn0 : min (rd M0 120 3) 1 = min (g120_3) 1 := by rw [eg120_3]
                        have mnb : 0 ≤ min (q182_1 : Int) 1 ∧ min (q182_1 : Int) 1 ≤ 1 := by have h9 : (0 : Int) ≤ q182_1 := (by and_intros <;> omega); exact ⟨Int.le_min.2 ⟨h9, by decide⟩, Int.min_le_right _ _⟩
                        have mnd : 0 ≤ min (g120_3 : Int) 1 ∧ min (g120_3 : Int) 1 ≤ 1 := by have h9 : (0 : Int) ≤ g120_3 := (by and_intros <;> omega); exact ⟨Int.le_min.2 ⟨h9, by decide⟩, Int.min_le_right _ _⟩
                        exact Tr.vret (pc := 328) d_X12_next_328 rfl ⟨hS, rfl, by omega, by omega, (by rcases t200_5 with h9 | h9 | h9 | h9 <;> omega), by omega, by omega, (by rcases t200_2 with h9 | h9 <;> omega)⟩
                      · refine Tr.iload_n (pc := 208) (i := 2) d_X12_next_208 rfl rfl ?_
                        have J239 : ∀ (M : Mem), St Pm1 ws_X12_next_120 as_X12_next_120 M0 M → rd M 120 2 = r7 → rd M 120 3 = q182_1 → rd M 120 4 = p5_1 → rd M 120 5 = (p5_1 + 1) → rd M 120 7 = u200_120_7 → rd M 120 8 = u200_120_8 → rd M 121 p5_1 = r70 → (g120_5 ≤ p5_1) → (p200_1 = p5_1 + p200_5 ∧ 0 ≤ p200_5) → (g120_8 = 0 ∨ u200_120_8 = g120_8) → (q182_1 = 1 ∨ q182_1 = 2) → ((r71 = 1 ∧ q195_0 = 6 ∧ q182_1 = 1) ∨ (r71 = 0 ∧ q195_0 = 4 ∧ q182_1 = 2)) → (q182_1 ≠ 1 ∨ p200_5 ≥ 2 ∨ (p200_5 = 1 ∧ 0 ≤ u200_120_7 ∧ u200_120_7 < 256) ∨ (p200_5 = 0 ∧ u200_120_7 = 0)) → Tr l K 1 mX12_next 239 [(0, (2, 120)), (1, (0, p200_1)), (2, (0, r71)), (3, (0, r81)), (4, (0, q195_0)), (5, (0, p200_5))] [] M (q_X12_next_120 M0) := by
                          intro M  hS  k239_120_2 k239_120_3 k239_120_4 k239_120_5 k239_120_7 k239_120_8 k239_121_p5_110 t239_0 t239_1 t239_2 t239_3 t239_4 t239_5
                          clear t200_2 t200_3 t200_4 t200_5 t200_6
                          refine Tr.iload (pc := 239) (i := 5) d_X12_next_239 rfl ?_
                          refine Tr.iload (pc := 241) (i := 4) d_X12_next_241 rfl ?_
                          have J252 : ∀ (M : Mem) (u252_120_8 : Int), St Pm1 ws_X12_next_120 as_X12_next_120 M0 M → (0 ≤ u252_120_8 ∧ u252_120_8 ≤ 5) → rd M 120 2 = r7 → rd M 120 3 = q182_1 → rd M 120 4 = p5_1 → rd M 120 5 = (p5_1 + 1) → rd M 120 7 = u200_120_7 → rd M 120 8 = u252_120_8 → rd M 121 p5_1 = r70 → (g120_5 ≤ p5_1) → (p200_1 = p5_1 + p200_5 ∧ 0 ≤ p200_5) → (g120_8 = 0 ∨ u252_120_8 = g120_8) → (q182_1 = 1 ∨ q182_1 = 2) → ((r71 = 1 ∧ q195_0 = 6 ∧ q182_1 = 1) ∨ (r71 = 0 ∧ q195_0 = 4 ∧ q182_1 = 2)) → (q182_1 ≠ 1 ∨ p200_5 ≥ 2 ∨ (p200_5 = 1 ∧ 0 ≤ u200_120_7 ∧ u200_120_7 < 256) ∨ (p200_5 = 0 ∧ u200_120_7 = 0)) → Tr l K 1 mX12_next 252 [(0, (2, 120)), (1, (0, p200_1)), (2, (0, r71)), (3, (0, r81)), (4, (0, q195_0)), (5, (0, p200_5))] [] M (q_X12_next_120 M0) := by
                            intro M u252_120_8 hS bu252_120_8 k252_120_2 k252_120_3 k252_120_4 k252_120_5 k252_120_7 k252_120_8 k252_121_p5_110 t252_0 t252_1 t252_2 t252_3 t252_4 t252_5
                            clear t239_2 t239_3 t239_4 t239_5
                            refine Tr.iload (pc := 252) (i := 5) d_X12_next_252 rfl ?_
                            refine Tr.iload (pc := 254) (i := 4) d_X12_next_254 rfl ?_
                            have J282 : ∀ (M : Mem) (u282_120_7 : Int), St Pm1 ws_X12_next_120 as_X12_next_120 M0 M → ((-9223372036854775808) ≤ u282_120_7 ∧ u282_120_7 ≤ 9223372036854775807) → rd M 120 2 = r7 → rd M 120 3 = q182_1 → rd M 120 4 = p5_1 → rd M 120 5 = (p5_1 + 1) → rd M 120 7 = u282_120_7 → rd M 120 8 = u252_120_8 → rd M 121 p5_1 = r70 → (g120_5 ≤ p5_1) → (p200_1 = p5_1 + p200_5 ∧ 0 ≤ p200_5) → (g120_8 = 0 ∨ u252_120_8 = g120_8) → (q182_1 = 1 ∨ q182_1 = 2) → ((r71 = 1 ∧ q195_0 = 6 ∧ q182_1 = 1) ∨ (r71 = 0 ∧ q195_0 = 4 ∧ q182_1 = 2)) → (q182_1 ≠ 1 ∨ p200_5 ≥ 1 ∨ (0 ≤ u282_120_7 ∧ u282_120_7 < 256)) → Tr l K 1 mX12_next 282 [(0, (2, 120)), (1, (0, p200_1)), (2, (0, r71)), (3, (0, r81)), (4, (0, q195_0)), (5, (0, p200_5))] [] M (q_X12_next_120 M0) := by
                              intro M u282_120_7 hS bu282_120_7 k282_120_2 k282_120_3 k282_120_4 k282_120_5 k282_120_7 k282_120_8 k282_121_p5_110 t282_0 t282_1 t282_2 t282_3 t282_4 t282_5
                              clear t252_2 t252_3 t252_4 t252_5
                              refine Tr.iload (pc := 282) (i := 5) d_X12_next_282 rfl ?_
                              refine Tr.iload (pc := 284) (i := 4) d_X12_next_284 rfl ?_
                              have J314 : ∀ (M : Mem), St Pm1 ws_X12_next_120 as_X12_next_120 M0 M → rd M 120 2 = r7 → rd M 120 3 = q182_1 → rd M 120 4 = p5_1 → rd M 120 5 = (p5_1 + 1) → rd M 120 7 = u282_120_7 → rd M 120 8 = u252_120_8 → rd M 121 p5_1 = r70 → (g120_5 ≤ p5_1) → (p200_1 = p5_1 + p200_5 ∧ 0 ≤ p200_5) → (g120_8 = 0 ∨ u252_120_8 = g120_8) → (q182_1 = 1 ∨ q182_1 = 2) → ((r71 = 1 ∧ q195_0 = 6 ∧ q182_1 = 1) ∨ (r71 = 0 ∧ q195_0 = 4 ∧ q182_1 = 2)) → (q182_1 ≠ 1 ∨ p200_5 ≥ 1 ∨ (0 ≤ u282_120_7 ∧ u282_120_7 < 256)) → Tr l K 1 mX12_next 314 [(0, (2, 120)), (1, (0, p200_1)), (2, (0, r71)), (3, (0, r81)), (4, (0, q195_0)), (5, (0, p200_5))] [] M (q_X12_next_120 M0) := by
                                intro M  hS  k314_120_2 k314_120_3 k314_120_4 k314_120_5 k314_120_7 k314_120_8 k314_121_p5_110 t314_0 t314_1 t314_2 t314_3 t314_4 t314_5
                                clear t282_2 t282_3 t282_4 t282_5
                                refine Tr.iincG (pc := 314) d_X12_next_314 rfl (by decide) (fun r314 br314 => ?_)
                                refine Tr.lc [(5, (0, r314)), (0, (2, 120)), (1, (0, p200_1)), (2, (0, r71)), (3, (0, r81)), (4, (0, q195_0))] rfl ?_
                                refine Tr.iincV (pc := 317) (n2 := (p200_1 + 1)) (ls2 := [(1, (0, (p200_1 + 1))), (5, (0, r314)), (0, (2, 120)), (2, (0, r71)), (3, (0, r81)), (4, (0, q195_0))]) d_X12_next_317 rfl (by decide) ((w32_id (by and_intros <;> omega)).trans (by first | rfl | (apply Int.le_antisymm <;> omega))) rfl ?_
                                refine Tr.goto (pc := 320) (tgt := 200) d_X12_next_320 rfl ?_
                                refine Tr.pick [2, 0, 3, 4, 5, 1] (ls2 := [(0, (2, 120)), (1, (0, (p200_1 + 1))), (2, (0, r71)), (3, (0, r81)), (4, (0, q195_0)), (5, (0, r314))]) rfl ?_
                                exact J200 _ _ _ _ _ hS (by and_intros <;> omega) (by and_intros <;> omega) (by and_intros <;> omega) (by and_intros <;> omega) k314_120_2 k314_120_3 k314_120_4 k314_120_5 k314_120_7 k314_120_8 k314_121_p5_110 (by and_intros <;> omega) (by and_intros <;> omega) (by first | assumption | (rcases t314_5 with h9 | h9 | h9 | h9 <;> omega) | (rcases t314_5 with h9 | h9 | h9 <;> omega) | omega) (by first | assumption | (rcases t314_5 with h9 | h9 | h9 | h9 <;> omega) | (rcases t314_5 with h9 | h9 | h9 <;> omega) | omega) (by first | assumption | (rcases t314_5 with h9 | h9 | h9 | h9 <;> omega) | (rcases t314_5 with h9 | h9 | h9 <;> omega) | omega) (by first | assumption | (rcases t314_5 with h9 | h9 | h9 | h9 <;> omega) | (rcases t314_5 with h9 | h9 | h9 <;> omega) | omega) (by first | assumption | (rcases t314_5 with h9 | h9 | h9 | h9 <;> omega) | (rcases t314_5 with h9 | h9 | h9 <;> omega) | omega) (by and_intros <;> omega)
                              refine Tr.icmp_ge (pc := 286) (tgt := 314) d_X12_next_286 rfl (fun c286 => ?_) (fun c286 => ?_)
                              · refine Tr.pick [0, 1, 2, 3, 4, 5] (ls2 := [(0, (2, 120)), (1, (0, p200_1)), (2, (0, r71)), (3, (0, r81)), (4, (0, q195_0)), (5, (0, p200_5))]) rfl ?_
                                exact J314 _ hS k282_120_2 k282_120_3 k282_120_4 k282_120_5 k282_120_7 k282_120_8 k282_121_p5_110 (by and_intros <;> omega) (by and_intros <;> omega) (by first | assumption | (rcases t282_5 with h9 | h9 | h9 | h9 <;> omega) | (rcases t282_5 with h9 | h9 | h9 <;> omega) | omega) (by first | assumption | (rcases t282_5 with h9 | h9 | h9 | h9 <;> omega) | (rcases t282_5 with h9 | h9 | h9 <;> omega) | omega) (by first | assumption | (rcases t282_5 with h9 | h9 | h9 | h9 <;> omega) | (rcases t282_5 with h9 | h9 | h9 <;> omega) | omega) (by first | assumption | (rcases t282_5 with h9 | h9 | h9 | h9 <;> omega) | (rcases t282_5 with h9 | h9 | h9 <;> omega) | omega)
                              · refine Tr.iload_n (pc := 289) (i := 3) d_X12_next_289 rfl rfl ?_
                                refine Tr.if_eq (pc := 290) (tgt := 314) d_X12_next_290 rfl (fun c290 => ?_) (fun c290 => ?_)
                                · refine Tr.pick [0, 1, 2, 3, 4, 5] (ls2 := [(0, (2, 120)), (1, (0, p200_1)), (2, (0, r71)), (3, (0, r81)), (4, (0, q195_0)), (5, (0, p200_5))]) rfl ?_
                                  exact J314 _ hS k282_120_2 k282_120_3 k282_120_4 k282_120_5 k282_120_7 k282_120_8 k282_121_p5_110 (by and_intros <;> omega) (by and_intros <;> omega) (by first | assumption | (rcases t282_5 with h9 | h9 | h9 | h9 <;> omega) | (rcases t282_5 with h9 | h9 | h9 <;> omega) | omega) (by first | assumption | (rcases t282_5 with h9 | h9 | h9 | h9 <;> omega) | (rcases t282_5 with h9 | h9 | h9 <;> omega) | omega) (by first | assumption | (rcases t282_5 with h9 | h9 | h9 | h9 <;> omega) | (rcases t282_5 with h9 | h9 | h9 <;> omega) | omega) (by first | assumption | (rcases t282_5 with h9 | h9 | h9 | h9 <;> omega) | (rcases t282_5 with h9 | h9 | h9 <;> omega) | omega)
                                · refine Tr.aload_n (pc := 293) (i := 0) d_X12_next_293 rfl rfl ?_
                                  refine Tr.bipush (pc := 294) d_X12_next_294 rfl (by decide) ?_
                                  refine Tr.aload_n (pc := 296) (i := 0) d_X12_next_296 rfl rfl ?_
                                  refine Tr.getf (pc := 297) d_X12_next_297 f_12_29 (by decide) (by decide) (ty_120 hS.1.1) ?_
                                  refine Tr.gen (P := fun v => (-2147483648) ≤ v ∧ v ≤ 2147483647) (ir_120_6 hS.1.2.1) (fun r297 er297 br297 => ?_)
                                  refine Tr.imul (pc := 300) d_X12_next_300 ?_
                                  refine Tr.gen (P := fun v => (-2147483648) ≤ v ∧ v ≤ 2147483647) (w32_b _) (fun r300 er300 br300 => ?_)
                                  refine Tr.aload_n (pc := 301) (i := 0) d_X12_next_301 rfl rfl ?_
                                  refine Tr.getf (pc := 302) d_X12_next_302 f_12_7 (by decide) (by decide) (ty_120 hS.1.1) ?_
                                  refine Tr.tp 121 (fx_120_0 hS.1.1) ?_
                                  refine Tr.iload_n (pc := 305) (i := 1) d_X12_next_305 rfl rfl ?_
                                  refine Tr.iald (pc := 306) d_X12_next_306 (ty_121 hS.1.1) (by and_intros <;> omega) (by and_intros <;> omega) ?_
                                  refine Tr.gen (P := fun v => (-2147483648) ≤ v ∧ v ≤ 2147483647) (ar_121 hS.1.2.1 _) (fun r306 er306 br306 => ?_)
                                  refine Tr.iadd (pc := 307) d_X12_next_307 ?_
                                  refine Tr.gen (P := fun v => (-2147483648) ≤ v ∧ v ≤ 2147483647) (w32_b _) (fun r307 er307 br307 => ?_)
                                  refine Tr.bipush (pc := 308) d_X12_next_308 rfl (by decide) ?_
                                  refine Tr.isub (pc := 310) d_X12_next_310 ?_
                                  refine Tr.gen (P := fun v => (-2147483648) ≤ v ∧ v ≤ 2147483647) (w32_b _) (fun r310 er310 br310 => ?_)
                                  refine Tr.putfS (pc := 311) (P := St Pm1 ws_X12_next_120 as_X12_next_120 M0) d_X12_next_311 f_12_29 (by decide) (by decide) (ty_120 hS.1.1) (st_120_6 hS (by decide) (by and_intros <;> omega) (Pm1.of hS.1.2.2.2.2 (fun _ => rd_wb _ rfl) (fun _ => rd_wb _ rfl) (fun _ => rd_wb _ rfl) (fun _ => rd_wb _ rfl) (fun _ => rd_wb _ rfl) (fun _ => rd_wb _ rfl) (fun _ => rd_wb _ rfl) (fun _ => rd_wb _ rfl) (fun _ => rd_wb _ rfl) (fun _ => rd_wb _ rfl) (rd_wb _ rfl) (rd_wb _ rfl) (rd_wb _ rfl) (rd_wb _ rfl) (rd_wb _ rfl) (rd_wb _ rfl) (rd_wb _ rfl) (rd_wb _ rfl) (rd_wb _ rfl) (rd_wb _ rfl) (rd_wb _ rfl))) (fun M311 hS w311 => ?_)
                                  refine Tr.pick [0, 1, 2, 3, 4, 5] (ls2 := [(0, (2, 120)), (1, (0, p200_1)), (2, (0, r71)), (3, (0, r81)), (4, (0, q195_0)), (5, (0, p200_5))]) rfl ?_
                                  exact J314 _ hS ((Wr.b w311 rfl).trans k282_120_2) ((Wr.b w311 rfl).trans k282_120_3) ((Wr.b w311 rfl).trans k282_120_4) ((Wr.b w311 rfl).trans k282_120_5) ((Wr.b w311 rfl).trans k282_120_7) ((Wr.b w311 rfl).trans k282_120_8) ((Wr.b w311 rfl).trans k282_121_p5_110) (by and_intros <;> omega) (by and_intros <;> omega) (by first | assumption | (rcases t282_5 with h9 | h9 | h9 | h9 <;> omega) | (rcases t282_5 with h9 | h9 | h9 <;> omega) | omega) (by first | assumption | (rcases t282_5 with h9 | h9 | h9 | h9 <;> omega) | (rcases t282_5 with h9 | h9 | h9 <;> omega) | omega) (by first | assumption | (rcases t282_5 with h9 | h9 | h9 | h9 <;> omega) | (rcases t282_5 with h9 | h9 | h9 <;> omega) | omega) (by first | assumption | (rcases t282_5 with h9 | h9 | h9 | h9 <;> omega) | (rcases t282_5 with h9 | h9 | h9 <;> omega) | omega)
                            refine Tr.icmp_ge (pc := 256) (tgt := 282) d_X12_next_256 rfl (fun c256 => ?_) (fun c256 => ?_)
                            · refine Tr.pick [0, 1, 2, 3, 4, 5] (ls2 := [(0, (2, 120)), (1, (0, p200_1)), (2, (0, r71)), (3, (0, r81)), (4, (0, q195_0)), (5, (0, p200_5))]) rfl ?_
                              exact J282 _ _ hS (by and_intros <;> omega) k252_120_2 k252_120_3 k252_120_4 k252_120_5 k252_120_7 k252_120_8 k252_121_p5_110 (by and_intros <;> omega) (by and_intros <;> omega) (by first | assumption | (rcases t252_5 with h9 | h9 | h9 | h9 <;> omega) | (rcases t252_5 with h9 | h9 | h9 <;> omega) | omega) (by first | assumption | (rcases t252_5 with h9 | h9 | h9 | h9 <;> omega) | (rcases t252_5 with h9 | h9 | h9 <;> omega) | omega) (by first | assumption | (rcases t252_5 with h9 | h9 | h9 | h9 <;> omega) | (rcases t252_5 with h9 | h9 | h9 <;> omega) | omega) (by first | assumption | (rcases t252_5 with h9 | h9 | h9 | h9 <;> omega) | (rcases t252_5 with h9 | h9 | h9 <;> omega) | omega)
                            · refine Tr.iload_n (pc := 259) (i := 2) d_X12_next_259 rfl rfl ?_
                              refine Tr.if_eq (pc := 260) (tgt := 282) d_X12_next_260 rfl (fun c260 => ?_) (fun c260 => ?_)
                              · refine Tr.pick [0, 1, 2, 3, 4, 5] (ls2 := [(0, (2, 120)), (1, (0, p200_1)), (2, (0, r71)), (3, (0, r81)), (4, (0, q195_0)), (5, (0, p200_5))]) rfl ?_
                                exact J282 _ _ hS (by and_intros <;> omega) k252_120_2 k252_120_3 k252_120_4 k252_120_5 k252_120_7 k252_120_8 k252_121_p5_110 (by and_intros <;> omega) (by and_intros <;> omega) (by first | assumption | (rcases t252_5 with h9 | h9 | h9 | h9 <;> omega) | (rcases t252_5 with h9 | h9 | h9 <;> omega) | omega) (by first | assumption | (rcases t252_5 with h9 | h9 | h9 | h9 <;> omega) | (rcases t252_5 with h9 | h9 | h9 <;> omega) | omega) (by first | assumption | (rcases t252_5 with h9 | h9 | h9 | h9 <;> omega) | (rcases t252_5 with h9 | h9 | h9 <;> omega) | omega) (by first | assumption | (rcases t252_5 with h9 | h9 | h9 | h9 <;> omega) | (rcases t252_5 with h9 | h9 | h9 <;> omega) | omega)
                              · refine Tr.aload_n (pc := 263) (i := 0) d_X12_next_263 rfl rfl ?_
                                refine Tr.aload_n (pc := 264) (i := 0) d_X12_next_264 rfl rfl ?_
                                refine Tr.getf (pc := 265) d_X12_next_265 f_12_32 (by decide) (by decide) (ty_120 hS.1.1) ?_
                                refine Tr.tp u200_120_7 k252_120_7 ?_
                                refine Tr.bipush (pc := 268) d_X12_next_268 rfl (by decide) ?_
                                refine Tr.lshl (pc := 270) d_X12_next_270 ?_
                                refine Tr.gen (P := fun v => ((-9223372036854775808) ≤ v ∧ v ≤ 9223372036854775807) ∧ (u200_120_7 ≠ 0 ∨ v = 0)) (lshl_z _ _) (fun r270 er270 br270 => ?_)
                                refine Tr.aload_n (pc := 271) (i := 0) d_X12_next_271 rfl rfl ?_
                                refine Tr.getf (pc := 272) d_X12_next_272 f_12_7 (by decide) (by decide) (ty_120 hS.1.1) ?_
                                refine Tr.tp 121 (fx_120_0 hS.1.1) ?_
                                refine Tr.iload_n (pc := 275) (i := 1) d_X12_next_275 rfl rfl ?_
                                refine Tr.iald (pc := 276) d_X12_next_276 (ty_121 hS.1.1) (by and_intros <;> omega) (by and_intros <;> omega) ?_
                                refine Tr.gen (P := fun v => (-2147483648) ≤ v ∧ v ≤ 2147483647) (ar_121 hS.1.2.1 _) (fun r276 er276 br276 => ?_)
                                refine Tr.i2l (pc := 277) d_X12_next_277 ?_
                                refine Tr.lor (pc := 278) d_X12_next_278 ?_
                                refine Tr.gen (P := fun v => ((-9223372036854775808) ≤ v ∧ v ≤ 9223372036854775807) ∧ (r270 ≠ 0 ∨ v = r276)) (lor_z _ (by and_intros <;> omega)) (fun r278 er278 br278 => ?_)
                                refine Tr.putfS (pc := 279) (P := St Pm1 ws_X12_next_120 as_X12_next_120 M0) d_X12_next_279 f_12_32 (by decide) (by decide) (ty_120 hS.1.1) (st_120_7 hS (by decide) (by and_intros <;> omega) (Pm1.of hS.1.2.2.2.2 (fun _ => rd_wb _ rfl) (fun _ => rd_wb _ rfl) (fun _ => rd_wb _ rfl) (fun _ => rd_wb _ rfl) (fun _ => rd_wb _ rfl) (fun _ => rd_wb _ rfl) (fun _ => rd_wb _ rfl) (fun _ => rd_wb _ rfl) (fun _ => rd_wb _ rfl) (fun _ => rd_wb _ rfl) (rd_wb _ rfl) (rd_wb _ rfl) (rd_wb _ rfl) (rd_wb _ rfl) (rd_wb _ rfl) (rd_wb _ rfl) (rd_wb _ rfl) (rd_wb _ rfl) (rd_wb _ rfl) (rd_wb _ rfl) (rd_wb _ rfl))) (fun M279 hS w279 => ?_)
                                refine Tr.pick [0, 1, 2, 3, 4, 5] (ls2 := [(0, (2, 120)), (1, (0, p200_1)), (2, (0, r71)), (3, (0, r81)), (4, (0, q195_0)), (5, (0, p200_5))]) rfl ?_
                                exact J282 _ _ hS (by and_intros <;> omega) ((Wr.b w279 rfl).trans k252_120_2) ((Wr.b w279 rfl).trans k252_120_3) ((Wr.b w279 rfl).trans k252_120_4) ((Wr.b w279 rfl).trans k252_120_5) w279.1 ((Wr.b w279 rfl).trans k252_120_8) ((Wr.b w279 rfl).trans k252_121_p5_110) (by and_intros <;> omega) (by and_intros <;> omega) (by first | assumption | (rcases t252_5 with h9 | h9 | h9 | h9 <;> omega) | (rcases t252_5 with h9 | h9 | h9 <;> omega) | omega) (by first | assumption | (rcases t252_5 with h9 | h9 | h9 | h9 <;> omega) | (rcases t252_5 with h9 | h9 | h9 <;> omega) | omega) (by first | assumption | (rcases t252_5 with h9 | h9 | h9 | h9 <;> omega) | (rcases t252_5 with h9 | h9 | h9 <;> omega) | omega) (by first | assumption | (rcases t252_5 with h9 | h9 | h9 | h9 <;> omega) | (rcases t252_5 with h9 | h9 | h9 <;> omega) | omega)
                          refine Tr.icmp_ne (pc := 243) (tgt := 252) d_X12_next_243 rfl (fun c243 => ?_) (fun c243 => ?_)
                          · refine Tr.pick [0, 1, 2, 3, 4, 5] (ls2 := [(0, (2, 120)), (1, (0, p200_1)), (2, (0, r71)), (3, (0, r81)), (4, (0, q195_0)), (5, (0, p200_5))]) rfl ?_
                            exact J252 _ _ hS (by and_intros <;> omega) k239_120_2 k239_120_3 k239_120_4 k239_120_5 k239_120_7 k239_120_8 k239_121_p5_110 (by and_intros <;> omega) (by and_intros <;> omega) (by first | assumption | (rcases t239_5 with h9 | h9 | h9 | h9 <;> omega) | (rcases t239_5 with h9 | h9 | h9 <;> omega) | omega) (by first | assumption | (rcases t239_5 with h9 | h9 | h9 | h9 <;> omega) | (rcases t239_5 with h9 | h9 | h9 <;> omega) | omega) (by first | assumption | (rcases t239_5 with h9 | h9 | h9 | h9 <;> omega) | (rcases t239_5 with h9 | h9 | h9 <;> omega) | omega) (by first | assumption | (rcases t239_5 with h9 | h9 | h9 | h9 <;> omega) | (rcases t239_5 with h9 | h9 | h9 <;> omega) | omega)
                          · refine Tr.aload_n (pc := 246) (i := 0) d_X12_next_246 rfl rfl ?_
                            refine Tr.iconst (pc := 247) d_X12_next_247 (by decide) ?_
                            refine Tr.iload_n (pc := 248) (i := 1) d_X12_next_248 rfl rfl ?_
                            refine Tr.callV (pc := 249) (as := [_, _]) d_X12_next_249 s_12_389 ok_X12_blame rfl rfl (Nat.le_of_ble_eq_true rfl) (Nat.le_of_ble_eq_true rfl) (by decide) (ty_120 hS.1.1) ?_
                            have kb249_120_8 : rd M 120 8 = u200_120_8 := k239_120_8
                            refine Tr.imp (Tr.deep (by decide) (sp_X12_blame_120 hS.1 1 (by and_intros <;> omega) p200_1 (by and_intros <;> omega))) ?_
                            rintro M249 _ ⟨h249, rfl, z249_0⟩
                            have hS := St.tr hS h249 (by decide) (by decide)
                            obtain ⟨s249_120_8, es249_120_8⟩ : ∃ v, rd M249 120 8 = v := ⟨_, rfl⟩
                            have bs249_120_8 : 0 ≤ s249_120_8 ∧ s249_120_8 ≤ 5 := by rw [← es249_120_8]; exact ir_120_8 hS.1.2.1
                            refine Tr.sc [] rfl ?_
                            refine Tr.pick [0, 1, 2, 3, 4, 5] (ls2 := [(0, (2, 120)), (1, (0, p200_1)), (2, (0, r71)), (3, (0, r81)), (4, (0, q195_0)), (5, (0, p200_5))]) rfl ?_
                            exact J252 _ _ hS (by and_intros <;> omega) ((St.kp h249 (by decide) (by decide) (by decide)).trans k239_120_2) ((St.kp h249 (by decide) (by decide) (by decide)).trans k239_120_3) ((St.kp h249 (by decide) (by decide) (by decide)).trans k239_120_4) ((St.kp h249 (by decide) (by decide) (by decide)).trans k239_120_5) ((St.kp h249 (by decide) (by decide) (by decide)).trans k239_120_7) es249_120_8 ((St.ka h249 (by decide) (by decide) (by decide)).trans k239_121_p5_110) (by and_intros <;> omega) (by and_intros <;> omega) (by first | assumption | (rcases t239_5 with h9 | h9 | h9 | h9 <;> omega) | (rcases t239_5 with h9 | h9 | h9 <;> omega) | omega) (by first | assumption | (rcases t239_5 with h9 | h9 | h9 | h9 <;> omega) | (rcases t239_5 with h9 | h9 | h9 <;> omega) | omega) (by first | assumption | (rcases t239_5 with h9 | h9 | h9 | h9 <;> omega) | (rcases t239_5 with h9 | h9 | h9 <;> omega) | omega) (by first | assumption | (rcases t239_5 with h9 | h9 | h9 | h9 <;> omega) | (rcases t239_5 with h9 | h9 | h9 <;> omega) | omega)
                        refine Tr.if_eq (pc := 209) (tgt := 227) d_X12_next_209 rfl (fun c209 => ?_) (fun c209 => ?_)
                        · refine Tr.aload_n (pc := 227) (i := 0) d_X12_next_227 rfl rfl ?_
                          refine Tr.getf (pc := 228) d_X12_next_228 f_12_7 (by decide) (by decide) (ty_120 hS.1.1) ?_
                          refine Tr.tp 121 (fx_120_0 hS.1.1) ?_
                          refine Tr.iload_n (pc := 231) (i := 1) d_X12_next_231 rfl rfl ?_
                          refine Tr.iald (pc := 232) d_X12_next_232 (ty_121 hS.1.1) (by and_intros <;> omega) (by and_intros <;> omega) ?_
                          refine Tr.gen (P := fun v => (-2147483648) ≤ v ∧ v ≤ 2147483647) (ar_121 hS.1.2.1 _) (fun r232 er232 br232 => ?_)
                          refine Tr.callS (pc := 233) (as := [_]) d_X12_next_233 s_12_386 ok_X12_isDigit rfl rfl (Nat.le_of_ble_eq_true rfl) (Nat.le_of_ble_eq_true rfl) ?_
                          refine Tr.imp (Tr.deep (by decide) (sp_X12_isDigit hS.1.wk r232 (by and_intros <;> omega))) ?_
                          rintro M233 _ ⟨h233, r233, rfl, lr233, ur233, wr233⟩
                          have h233 := St.rn h233 (Pm1.of hS.1.2.2.2.2 (fun _ => St.ka h233 (by decide) (by decide) (by decide)) (fun _ => St.ka h233 (by decide) (by decide) (by decide)) (fun _ => St.ka h233 (by decide) (by decide) (by decide)) (fun _ => St.ka h233 (by decide) (by decide) (by decide)) (fun _ => St.ka h233 (by decide) (by decide) (by decide)) (fun _ => St.ka h233 (by decide) (by decide) (by decide)) (fun _ => St.ka h233 (by decide) (by decide) (by decide)) (fun _ => St.ka h233 (by decide) (by decide) (by decide)) (fun _ => St.ka h233 (by decide) (by decide) (by decide)) (fun _ => St.ka h233 (by decide) (by decide) (by decide)) (St.kp h233 (by decide) (by decide) (by decide)) (St.kp h233 (by decide) (by decide) (by decide)) (St.kp h233 (by decide) (by decide) (by decide)) (St.kp h233 (by decide) (by decide) (by decide)) (St.kp h233 (by decide) (by decide) (by decide)) (St.kp h233 (by decide) (by decide) (by decide)) (St.kp h233 (by decide) (by decide) (by decide)) (St.kp h233 (by decide) (by decide) (by decide)) (St.kp h233 (by decide) (by decide) (by decide)) (St.kp h233 (by decide) (by decide) (by decide)) (St.kp h233 (by decide) (by decide) (by decide)))
                          have hS := St.tr hS h233 (by decide) (by decide)
                          refine Tr.sc [(0, r233)] rfl ?_
                          refine Tr.if_eq (pc := 236) (tgt := 323) d_X12_next_236 rfl (fun c236 => ?_) (fun c236 => ?_)
                          · refine Tr.aload_n (pc := 323) (i := 0) d_X12_next_323 rfl rfl ?_
                            refine Tr.iload_n (pc := 324) (i := 1) d_X12_next_324 rfl rfl ?_
                            refine Tr.putfS (pc := 325) (P := St Pm1 ws_X12_next_120 as_X12_next_120 M0) d_X12_next_325 f_12_26 (by decide) (by decide) (ty_120 hS.1.1) (st_120_5 hS (by decide) (by and_intros <;> omega) (Pm1.of hS.1.2.2.2.2 (fun _ => rd_wb _ rfl) (fun _ => rd_wb _ rfl) (fun _ => rd_wb _ rfl) (fun _ => rd_wb _ rfl) (fun _ => rd_wb _ rfl) (fun _ => rd_wb _ rfl) (fun _ => rd_wb _ rfl) (fun _ => rd_wb _ rfl) (fun _ => rd_wb _ rfl) (fun _ => rd_wb _ rfl) (rd_wb _ rfl) (rd_wb _ rfl) (rd_wb _ rfl) (rd_wb _ rfl) (rd_wb _ rfl) (rd_wb _ rfl) (rd_wb _ rfl) (rd_wb _ rfl) (rd_wb _ rfl) (rd_wb _ rfl) (rd_wb _ rfl))) (fun M325 hS w325 => ?_)
                            have kr_120_3 : rd M325 120 3 = q182_1 := ((Wr.b w325 rfl).trans ((St.kp h233 (by decide) (by decide) (by decide)).trans k200_120_3))
                            have kr_120_4 : rd M325 120 4 = p5_1 := ((Wr.b w325 rfl).trans ((St.kp h233 (by decide) (by decide) (by decide)).trans k200_120_4))
                            have kr_120_5 : rd M325 120 5 = p200_1 := w325.1
                            have kr_120_7 : rd M325 120 7 = u200_120_7 := ((Wr.b w325 rfl).trans ((St.kp h233 (by decide) (by decide) (by decide)).trans k200_120_7))
                            have kr_120_8 : rd M325 120 8 = u200_120_8 := ((Wr.b w325 rfl).trans ((St.kp h233 (by decide) (by decide) (by decide)).trans k200_120_8))
                            have mnr : min (rd M325 120 3) 1 = min (q182_1 : Int) 1 := by rw [kr_120_3]
                            have mn0 : min (rd M0 120 3) 1 = min (g120_3) 1 := by rw [eg120_3]
                            have mnb : 0 ≤ min (q182_1 : Int) 1 ∧ min (q182_1 : Int) 1 ≤ 1 := by have h9 : (0 : Int) ≤ q182_1 := (by and_intros <;> omega); exact ⟨Int.le_min.2 ⟨h9, by decide⟩, Int.min_le_right _ _⟩
                            have mnd : 0 ≤ min (g120_3 : Int) 1 ∧ min (g120_3 : Int) 1 ≤ 1 := by have h9 : (0 : Int) ≤ g120_3 := (by and_intros <;> omega); exact ⟨Int.le_min.2 ⟨h9, by decide⟩, Int.min_le_right _ _⟩
                            exact Tr.vret (pc := 328) d_X12_next_328 rfl ⟨hS, rfl, by omega, by omega, (by rcases t200_5 with h9 | h9 | h9 | h9 <;> omega), by omega, by omega, (by rcases t200_2 with h9 | h9 <;> omega)⟩
                          · refine Tr.pick [0, 1, 2, 3, 4, 5] (ls2 := [(0, (2, 120)), (1, (0, p200_1)), (2, (0, r71)), (3, (0, r81)), (4, (0, q195_0)), (5, (0, p200_5))]) rfl ?_
                            exact J239 _ hS ((St.kp h233 (by decide) (by decide) (by decide)).trans k200_120_2) ((St.kp h233 (by decide) (by decide) (by decide)).trans k200_120_3) ((St.kp h233 (by decide) (by decide) (by decide)).trans k200_120_4) ((St.kp h233 (by decide) (by decide) (by decide)).trans k200_120_5) ((St.kp h233 (by decide) (by decide) (by decide)).trans k200_120_7) ((St.kp h233 (by decide) (by decide) (by decide)).trans k200_120_8) ((St.ka h233 (by decide) (by decide) (by decide)).trans k200_121_p5_110) (by and_intros <;> omega) (by and_intros <;> omega) (by first | assumption | (rcases t200_5 with h9 | h9 | h9 | h9 <;> omega) | (rcases t200_5 with h9 | h9 | h9 <;> omega) | omega) (by first | assumption | (rcases t200_5 with h9 | h9 | h9 | h9 <;> omega) | (rcases t200_5 with h9 | h9 | h9 <;> omega) | omega) (by first | assumption | (rcases t200_5 with h9 | h9 | h9 | h9 <;> omega) | (rcases t200_5 with h9 | h9 | h9 <;> omega) | omega) (by first | assumption | (rcases t200_5 with h9 | h9 | h9 | h9 <;> omega) | (rcases t200_5 with h9 | h9 | h9 <;> omega) | omega)
                        · refine Tr.aload_n (pc := 212) (i := 0) d_X12_next_212 rfl rfl ?_
                          refine Tr.getf (pc := 213) d_X12_next_213 f_12_7 (by decide) (by decide) (ty_120 hS.1.1) ?_
                          refine Tr.tp 121 (fx_120_0 hS.1.1) ?_
                          refine Tr.iload_n (pc := 216) (i := 1) d_X12_next_216 rfl rfl ?_
                          refine Tr.iald (pc := 217) d_X12_next_217 (ty_121 hS.1.1) (by and_intros <;> omega) (by and_intros <;> omega) ?_
                          refine Tr.gen (P := fun v => (-2147483648) ≤ v ∧ v ≤ 2147483647) (ar_121 hS.1.2.1 _) (fun r217 er217 br217 => ?_)
                          refine Tr.callS (pc := 218) (as := [_]) d_X12_next_218 s_12_382 ok_X12_isLetter rfl rfl (Nat.le_of_ble_eq_true rfl) (Nat.le_of_ble_eq_true rfl) ?_
                          refine Tr.imp (Tr.deep (by decide) (sp_X12_isLetter hS.1.wk r217 (by and_intros <;> omega))) ?_
                          rintro M218 _ ⟨h218, r218, rfl, lr218, ur218, wr218⟩
                          have h218 := St.rn h218 (Pm1.of hS.1.2.2.2.2 (fun _ => St.ka h218 (by decide) (by decide) (by decide)) (fun _ => St.ka h218 (by decide) (by decide) (by decide)) (fun _ => St.ka h218 (by decide) (by decide) (by decide)) (fun _ => St.ka h218 (by decide) (by decide) (by decide)) (fun _ => St.ka h218 (by decide) (by decide) (by decide)) (fun _ => St.ka h218 (by decide) (by decide) (by decide)) (fun _ => St.ka h218 (by decide) (by decide) (by decide)) (fun _ => St.ka h218 (by decide) (by decide) (by decide)) (fun _ => St.ka h218 (by decide) (by decide) (by decide)) (fun _ => St.ka h218 (by decide) (by decide) (by decide)) (St.kp h218 (by decide) (by decide) (by decide)) (St.kp h218 (by decide) (by decide) (by decide)) (St.kp h218 (by decide) (by decide) (by decide)) (St.kp h218 (by decide) (by decide) (by decide)) (St.kp h218 (by decide) (by decide) (by decide)) (St.kp h218 (by decide) (by decide) (by decide)) (St.kp h218 (by decide) (by decide) (by decide)) (St.kp h218 (by decide) (by decide) (by decide)) (St.kp h218 (by decide) (by decide) (by decide)) (St.kp h218 (by decide) (by decide) (by decide)) (St.kp h218 (by decide) (by decide) (by decide)))
                          have hS := St.tr hS h218 (by decide) (by decide)
                          refine Tr.sc [(0, r218)] rfl ?_
                          refine Tr.if_eq (pc := 221) (tgt := 323) d_X12_next_221 rfl (fun c221 => ?_) (fun c221 => ?_)
                          · refine Tr.aload_n (pc := 323) (i := 0) d_X12_next_323 rfl rfl ?_
                            refine Tr.iload_n (pc := 324) (i := 1) d_X12_next_324 rfl rfl ?_
                            refine Tr.putfS (pc := 325) (P := St Pm1 ws_X12_next_120 as_X12_next_120 M0) d_X12_next_325 f_12_26 (by decide) (by decide) (ty_120 hS.1.1) (st_120_5 hS (by decide) (by and_intros <;> omega) (Pm1.of hS.1.2.2.2.2 (fun _ => rd_wb _ rfl) (fun _ => rd_wb _ rfl) (fun _ => rd_wb _ rfl) (fun _ => rd_wb _ rfl) (fun _ => rd_wb _ rfl) (fun _ => rd_wb _ rfl) (fun _ => rd_wb _ rfl) (fun _ => rd_wb _ rfl) (fun _ => rd_wb _ rfl) (fun _ => rd_wb _ rfl) (rd_wb _ rfl) (rd_wb _ rfl) (rd_wb _ rfl) (rd_wb _ rfl) (rd_wb _ rfl) (rd_wb _ rfl) (rd_wb _ rfl) (rd_wb _ rfl) (rd_wb _ rfl) (rd_wb _ rfl) (rd_wb _ rfl))) (fun M325 hS w325 => ?_)
                            have kr_120_3 : rd M325 120 3 = q182_1 := ((Wr.b w325 rfl).trans ((St.kp h218 (by decide) (by decide) (by decide)).trans k200_120_3))
                            have kr_120_4 : rd M325 120 4 = p5_1 := ((Wr.b w325 rfl).trans ((St.kp h218 (by decide) (by decide) (by decide)).trans k200_120_4))
                            have kr_120_5 : rd M325 120 5 = p200_1 := w325.1
                            have kr_120_7 : rd M325 120 7 = u200_120_7 := ((Wr.b w325 rfl).trans ((St.kp h218 (by decide) (by decide) (by decide)).trans k200_120_7))
                            have kr_120_8 : rd M325 120 8 = u200_120_8 := ((Wr.b w325 rfl).trans ((St.kp h218 (by decide) (by decide) (by decide)).trans k200_120_8))
                            have mnr : min (rd M325 120 3) 1 = min (q182_1 : Int) 1 := by rw [kr_120_3]
                            have mn0 : min (rd M0 120 3) 1 = min (g120_3) 1 := by rw [eg120_3]
                            have mnb : 0 ≤ min (q182_1 : Int) 1 ∧ min (q182_1 : Int) 1 ≤ 1 := by have h9 : (0 : Int) ≤ q182_1 := (by and_intros <;> omega); exact ⟨Int.le_min.2 ⟨h9, by decide⟩, Int.min_le_right _ _⟩
                            have mnd : 0 ≤ min (g120_3 : Int) 1 ∧ min (g120_3 : Int) 1 ≤ 1 := by have h9 : (0 : Int) ≤ g120_3 := (by and_intros <;> omega); exact ⟨Int.le_min.2 ⟨h9, by decide⟩, Int.min_le_right _ _⟩
                            exact Tr.vret (pc := 328) d_X12_next_328 rfl ⟨hS, rfl, by omega, by omega, (by rcases t200_5 with h9 | h9 | h9 | h9 <;> omega), by omega, by omega, (by rcases t200_2 with h9 | h9 <;> omega)⟩
                          · refine Tr.goto (pc := 224) (tgt := 239) d_X12_next_224 rfl ?_
                            refine Tr.pick [0, 1, 2, 3, 4, 5] (ls2 := [(0, (2, 120)), (1, (0, p200_1)), (2, (0, r71)), (3, (0, r81)), (4, (0, q195_0)), (5, (0, p200_5))]) rfl ?_
                            exact J239 _ hS ((St.kp h218 (by decide) (by decide) (by decide)).trans k200_120_2) ((St.kp h218 (by decide) (by decide) (by decide)).trans k200_120_3) ((St.kp h218 (by decide) (by decide) (by decide)).trans k200_120_4) ((St.kp h218 (by decide) (by decide) (by decide)).trans k200_120_5) ((St.kp h218 (by decide) (by decide) (by decide)).trans k200_120_7) ((St.kp h218 (by decide) (by decide) (by decide)).trans k200_120_8) ((St.ka h218 (by decide) (by decide) (by decide)).trans k200_121_p5_110) (by and_intros <;> omega) (by and_intros <;> omega) (by first | assumption | (rcases t200_5 with h9 | h9 | h9 | h9 <;> omega) | (rcases t200_5 with h9 | h9 | h9 <;> omega) | omega) (by first | assumption | (rcases t200_5 with h9 | h9 | h9 | h9 <;> omega) | (rcases t200_5 with h9 | h9 | h9 <;> omega) | omega) (by first | assumption | (rcases t200_5 with h9 | h9 | h9 | h9 <;> omega) | (rcases t200_5 with h9 | h9 | h9 <;> omega) | omega) (by first | assumption | (rcases t200_5 with h9 | h9 | h9 | h9 <;> omega) | (rcases t200_5 with h9 | h9 | h9 <;> omega) | omega)
                  refine Tr.pick [2, 3, 4, 5, 1, 0] (ls2 := [(0, (2, 120)), (1, (0, p5_1)), (2, (0, r71)), (3, (0, r81)), (4, (0, q195_0)), (5, (0, 0))]) rfl ?_
                  have jr200_0 : rd M 121 p5_1 = r70 := k195_121_p5_110
                  exact J200 _ _ _ _ _ _ hS (by and_intros <;> omega) (by and_intros <;> omega) (by and_intros <;> omega) (by and_intros <;> omega) k195_120_2 k195_120_3 k195_120_4 k195_120_5 k195_120_7 k195_120_8 k195_121_p5_110 (by and_intros <;> omega) (by and_intros <;> omega) (by first | assumption | omega) (by first | assumption | omega) (by first | assumption | omega) (by first | assumption | omega) (by first | assumption | omega) (Nat.lt_succ_self _)
                refine Tr.if_eq (pc := 186) (tgt := 194) d_X12_next_186 rfl (fun c186 => ?_) (fun c186 => ?_)
                · refine Tr.iconst (pc := 194) d_X12_next_194 (by decide) ?_
                  refine Tr.pick [0, 1, 2, 3] (ls2 := [(0, (2, 120)), (1, (0, p5_1)), (2, (0, r71)), (3, (0, r81))]) rfl ?_
                  have jr195_0 : rd M182 121 p5_1 = r70 := ((Wr.b w182 rfl).trans k182_121_p5_110)
                  have jr195_1 : rd M182 121 p5_1 = r70 := ((Wr.b w182 rfl).trans k182_121_p5_110)
                  exact J195 _ _ hS (by and_intros <;> omega) ((Wr.b w182 rfl).trans k182_120_2) w182.1 ((Wr.b w182 rfl).trans k182_120_4) ((Wr.b w182 rfl).trans k182_120_5) ((Wr.b w182 rfl).trans k182_120_6) ((Wr.b w182 rfl).trans k182_120_7) ((Wr.b w182 rfl).trans k182_120_8) ((Wr.b w182 rfl).trans k182_121_p5_110) (by and_intros <;> omega) (by and_intros <;> omega) (by first | assumption | omega) (by first | assumption | omega) (by first | assumption | omega)
                · refine Tr.bipush (pc := 189) d_X12_next_189 rfl (by decide) ?_
                  refine Tr.goto (pc := 191) (tgt := 195) d_X12_next_191 rfl ?_
                  refine Tr.pick [0, 1, 2, 3] (ls2 := [(0, (2, 120)), (1, (0, p5_1)), (2, (0, r71)), (3, (0, r81))]) rfl ?_
                  have jr195_0 : rd M182 121 p5_1 = r70 := ((Wr.b w182 rfl).trans k182_121_p5_110)
                  have jr195_1 : rd M182 121 p5_1 = r70 := ((Wr.b w182 rfl).trans k182_121_p5_110)
                  exact J195 _ _ hS (by and_intros <;> omega) ((Wr.b w182 rfl).trans k182_120_2) w182.1 ((Wr.b w182 rfl).trans k182_120_4) ((Wr.b w182 rfl).trans k182_120_5) ((Wr.b w182 rfl).trans k182_120_6) ((Wr.b w182 rfl).trans k182_120_7) ((Wr.b w182 rfl).trans k182_120_8) ((Wr.b w182 rfl).trans k182_121_p5_110) (by and_intros <;> omega) (by and_intros <;> omega) (by first | assumption | omega) (by first | assumption | omega) (by first | assumption | omega)
              refine Tr.if_eq (pc := 174) (tgt := 181) d_X12_next_174 rfl (fun c174 => ?_) (fun c174 => ?_)
              · refine Tr.iconst (pc := 181) d_X12_next_181 (by decide) ?_
                refine Tr.pick [0, 1, 2, 3] (ls2 := [(0, (2, 120)), (1, (0, p5_1)), (2, (0, r71)), (3, (0, r81))]) rfl ?_
                have jr182_0 : rd M 121 p5_1 = r70 := k172_121_p5_110
                have jr182_1 : rd M 121 p5_1 = r70 := k172_121_p5_110
                exact J182 _ _ hS (by and_intros <;> omega) k172_120_2 k172_120_3 k172_120_4 k172_120_5 k172_120_6 k172_120_7 k172_120_8 k172_121_p5_110 (by and_intros <;> omega) (by and_intros <;> omega) (by first | assumption | omega) (by first | assumption | omega) (by first | assumption | omega)
              · refine Tr.iconst (pc := 177) d_X12_next_177 (by decide) ?_
                refine Tr.goto (pc := 178) (tgt := 182) d_X12_next_178 rfl ?_
                refine Tr.pick [0, 1, 2, 3] (ls2 := [(0, (2, 120)), (1, (0, p5_1)), (2, (0, r71)), (3, (0, r81))]) rfl ?_
                have jr182_0 : rd M 121 p5_1 = r70 := k172_121_p5_110
                have jr182_1 : rd M 121 p5_1 = r70 := k172_121_p5_110
                exact J182 _ _ hS (by and_intros <;> omega) k172_120_2 k172_120_3 k172_120_4 k172_120_5 k172_120_6 k172_120_7 k172_120_8 k172_121_p5_110 (by and_intros <;> omega) (by and_intros <;> omega) (by first | assumption | omega) (by first | assumption | omega) (by first | assumption | omega)
            refine Tr.if_ne (pc := 154) (tgt := 172) d_X12_next_154 rfl (fun c154 => ?_) (fun c154 => ?_)
            · refine Tr.pick [0, 1, 2, 3] (ls2 := [(0, (2, 120)), (1, (0, p5_1)), (2, (0, r71)), (3, (0, r81))]) rfl ?_
              have jr172_0 : rd M150 121 p5_1 = r70 := ((Wr.b w150 rfl).trans ((Wr.b w143 rfl).trans ((Wr.b w138 rfl).trans ((Wr.b w133 rfl).trans k131_121_p5_110))))
              have jr172_1 : rd M150 121 p5_1 = r70 := ((Wr.b w150 rfl).trans ((Wr.b w143 rfl).trans ((Wr.b w138 rfl).trans ((Wr.b w133 rfl).trans k131_121_p5_110))))
              exact J172 _ hS ((Wr.b w150 rfl).trans ((Wr.b w143 rfl).trans ((Wr.b w138 rfl).trans ((Wr.b w133 rfl).trans k131_120_2)))) ((Wr.b w150 rfl).trans w143.1) ((Wr.b w150 rfl).trans ((Wr.b w143 rfl).trans ((Wr.b w138 rfl).trans ((Wr.b w133 rfl).trans k131_120_4)))) w150.1 ((Wr.b w150 rfl).trans ((Wr.b w143 rfl).trans ((Wr.b w138 rfl).trans w133.1))) ((Wr.b w150 rfl).trans ((Wr.b w143 rfl).trans w138.1)) ((Wr.b w150 rfl).trans ((Wr.b w143 rfl).trans ((Wr.b w138 rfl).trans ((Wr.b w133 rfl).trans k131_120_8)))) ((Wr.b w150 rfl).trans ((Wr.b w143 rfl).trans ((Wr.b w138 rfl).trans ((Wr.b w133 rfl).trans k131_121_p5_110)))) (by and_intros <;> omega) (by and_intros <;> omega) (by first | assumption | omega) (by first | assumption | omega) (by first | assumption | omega)
            · refine Tr.iload_n (pc := 157) (i := 3) d_X12_next_157 rfl rfl ?_
              refine Tr.if_ne (pc := 158) (tgt := 172) d_X12_next_158 rfl (fun c158 => ?_) (fun c158 => ?_)
              · refine Tr.pick [0, 1, 2, 3] (ls2 := [(0, (2, 120)), (1, (0, p5_1)), (2, (0, r71)), (3, (0, r81))]) rfl ?_
                have jr172_0 : rd M150 121 p5_1 = r70 := ((Wr.b w150 rfl).trans ((Wr.b w143 rfl).trans ((Wr.b w138 rfl).trans ((Wr.b w133 rfl).trans k131_121_p5_110))))
                have jr172_1 : rd M150 121 p5_1 = r70 := ((Wr.b w150 rfl).trans ((Wr.b w143 rfl).trans ((Wr.b w138 rfl).trans ((Wr.b w133 rfl).trans k131_121_p5_110))))
                exact J172 _ hS ((Wr.b w150 rfl).trans ((Wr.b w143 rfl).trans ((Wr.b w138 rfl).trans ((Wr.b w133 rfl).trans k131_120_2)))) ((Wr.b w150 rfl).trans w143.1) ((Wr.b w150 rfl).trans ((Wr.b w143 rfl).trans ((Wr.b w138 rfl).trans ((Wr.b w133 rfl).trans k131_120_4)))) w150.1 ((Wr.b w150 rfl).trans ((Wr.b w143 rfl).trans ((Wr.b w138 rfl).trans w133.1))) ((Wr.b w150 rfl).trans ((Wr.b w143 rfl).trans w138.1)) ((Wr.b w150 rfl).trans ((Wr.b w143 rfl).trans ((Wr.b w138 rfl).trans ((Wr.b w133 rfl).trans k131_120_8)))) ((Wr.b w150 rfl).trans ((Wr.b w143 rfl).trans ((Wr.b w138 rfl).trans ((Wr.b w133 rfl).trans k131_121_p5_110)))) (by and_intros <;> omega) (by and_intros <;> omega) (by first | assumption | omega) (by first | assumption | omega) (by first | assumption | omega)
              · refine Tr.aload_n (pc := 161) (i := 0) d_X12_next_161 rfl rfl ?_
                refine Tr.aload_n (pc := 162) (i := 0) d_X12_next_162 rfl rfl ?_
                refine Tr.getf (pc := 163) d_X12_next_163 f_12_7 (by decide) (by decide) (ty_120 hS.1.1) ?_
                refine Tr.tp 121 (fx_120_0 hS.1.1) ?_
                refine Tr.iload_n (pc := 166) (i := 1) d_X12_next_166 rfl rfl ?_
                refine Tr.iald (pc := 167) d_X12_next_167 (ty_121 hS.1.1) (by and_intros <;> omega) (by and_intros <;> omega) ?_
                refine Tr.tp r70 ((Wr.b w150 rfl).trans ((Wr.b w143 rfl).trans ((Wr.b w138 rfl).trans ((Wr.b w133 rfl).trans k131_121_p5_110)))) ?_
                refine Tr.putfS (pc := 168) (P := St Pm1 ws_X12_next_120 as_X12_next_120 M0) d_X12_next_168 f_12_29 (by decide) (by decide) (ty_120 hS.1.1) (st_120_6 hS (by decide) (by and_intros <;> omega) (Pm1.of hS.1.2.2.2.2 (fun _ => rd_wb _ rfl) (fun _ => rd_wb _ rfl) (fun _ => rd_wb _ rfl) (fun _ => rd_wb _ rfl) (fun _ => rd_wb _ rfl) (fun _ => rd_wb _ rfl) (fun _ => rd_wb _ rfl) (fun _ => rd_wb _ rfl) (fun _ => rd_wb _ rfl) (fun _ => rd_wb _ rfl) (rd_wb _ rfl) (rd_wb _ rfl) (rd_wb _ rfl) (rd_wb _ rfl) (rd_wb _ rfl) (rd_wb _ rfl) (rd_wb _ rfl) (rd_wb _ rfl) (rd_wb _ rfl) (rd_wb _ rfl) (rd_wb _ rfl))) (fun M168 hS w168 => ?_)
                have kr_120_3 : rd M168 120 3 = 3 := ((Wr.b w168 rfl).trans ((Wr.b w150 rfl).trans w143.1))
                have kr_120_4 : rd M168 120 4 = p5_1 := ((Wr.b w168 rfl).trans ((Wr.b w150 rfl).trans ((Wr.b w143 rfl).trans ((Wr.b w138 rfl).trans ((Wr.b w133 rfl).trans k131_120_4)))))
                have kr_120_5 : rd M168 120 5 = (p5_1 + 1) := ((Wr.b w168 rfl).trans w150.1)
                have kr_120_7 : rd M168 120 7 = 0 := ((Wr.b w168 rfl).trans ((Wr.b w150 rfl).trans ((Wr.b w143 rfl).trans w138.1)))
                have kr_120_8 : rd M168 120 8 = u131_120_8 := ((Wr.b w168 rfl).trans ((Wr.b w150 rfl).trans ((Wr.b w143 rfl).trans ((Wr.b w138 rfl).trans ((Wr.b w133 rfl).trans k131_120_8)))))
                have mnr : min (rd M168 120 3) 1 = min (3 : Int) 1 := by rw [kr_120_3]
                have mn0 : min (rd M0 120 3) 1 = min (g120_3) 1 := by rw [eg120_3]
                have mnb : 0 ≤ min (3 : Int) 1 ∧ min (3 : Int) 1 ≤ 1 := by have h9 : (0 : Int) ≤ 3 := (by and_intros <;> omega); exact ⟨Int.le_min.2 ⟨h9, by decide⟩, Int.min_le_right _ _⟩
                have mnd : 0 ≤ min (g120_3 : Int) 1 ∧ min (g120_3 : Int) 1 ≤ 1 := by have h9 : (0 : Int) ≤ g120_3 := (by and_intros <;> omega); exact ⟨Int.le_min.2 ⟨h9, by decide⟩, Int.min_le_right _ _⟩
                exact Tr.vret (pc := 171) d_X12_next_171 rfl ⟨hS, rfl, by omega, by omega, by omega, by omega, by omega, (by rcases t131_2 with h9 | h9 <;> omega)⟩
          have J93 : ∀ (M : Mem), St Pm1 ws_X12_next_120 as_X12_next_120 M0 M → rd M 120 2 = r7 → rd M 120 3 = 0 → rd M 120 4 = p5_1 → rd M 120 5 = p5_1 → rd M 120 7 = g120_7 → rd M 120 8 = g120_8 → rd M 121 p5_1 = r70 → (g120_5 ≤ p5_1) → (p5_1 = p5_1) → (g120_8 = 0 ∨ g120_8 = g120_8) → ((r71 = 1 ∧ 97 ≤ rd M 121 p5_1 ∧ rd M 121 p5_1 ≤ 122) ∨ (r71 = 0 ∧ (rd M 121 p5_1 < 97 ∨ 122 < rd M 121 p5_1))) → ((r81 = 1 ∧ 48 ≤ rd M 121 p5_1 ∧ rd M 121 p5_1 ≤ 57) ∨ (r81 = 0 ∧ (rd M 121 p5_1 < 48 ∨ 57 < rd M 121 p5_1))) → Tr l K 1 mX12_next 93 [(0, (2, 120)), (1, (0, p5_1)), (2, (0, r71)), (3, (0, r81))] [] M (q_X12_next_120 M0) := by
            intro M  hS  k93_120_2 k93_120_3 k93_120_4 k93_120_5 k93_120_7 k93_120_8 k93_121_p5_110 t93_0 t93_1 t93_2 t93_3 t93_4
            refine Tr.iload_n (pc := 93) (i := 1) d_X12_next_93 rfl rfl ?_
            refine Tr.if_le (pc := 94) (tgt := 131) d_X12_next_94 rfl (fun c94 => ?_) (fun c94 => ?_)
            · refine Tr.pick [0, 1, 2, 3] (ls2 := [(0, (2, 120)), (1, (0, p5_1)), (2, (0, r71)), (3, (0, r81))]) rfl ?_
              have jr131_0 : rd M 121 p5_1 = r70 := k93_121_p5_110
              have jr131_1 : rd M 121 p5_1 = r70 := k93_121_p5_110
              exact J131 _ _ hS (by and_intros <;> omega) k93_120_2 k93_120_3 k93_120_4 k93_120_5 k93_120_7 k93_120_8 k93_121_p5_110 (by and_intros <;> omega) (by and_intros <;> omega) (by first | assumption | omega) (by first | assumption | omega) (by first | assumption | omega)
            · refine Tr.aload_n (pc := 97) (i := 0) d_X12_next_97 rfl rfl ?_
              refine Tr.getf (pc := 98) d_X12_next_98 f_12_7 (by decide) (by decide) (ty_120 hS.1.1) ?_
              refine Tr.tp 121 (fx_120_0 hS.1.1) ?_
              refine Tr.iload_n (pc := 101) (i := 1) d_X12_next_101 rfl rfl ?_
              refine Tr.iconst (pc := 102) d_X12_next_102 (by decide) ?_
              refine Tr.isub (pc := 103) d_X12_next_103 ?_
              refine Tr.tp (p5_1 - 1) ((w32_id (by and_intros <;> omega)).trans (by first | rfl | (apply Int.le_antisymm <;> omega))) ?_
              refine Tr.iald (pc := 104) d_X12_next_104 (ty_121 hS.1.1) (by and_intros <;> omega) (by and_intros <;> omega) ?_
              refine Tr.gen (P := fun v => (-2147483648) ≤ v ∧ v ≤ 2147483647) (ar_121 hS.1.2.1 _) (fun r104 er104 br104 => ?_)
              refine Tr.callS (pc := 105) (as := [_]) d_X12_next_105 s_12_382 ok_X12_isLetter rfl rfl (Nat.le_of_ble_eq_true rfl) (Nat.le_of_ble_eq_true rfl) ?_
              refine Tr.imp (Tr.deep (by decide) (sp_X12_isLetter hS.1.wk r104 (by and_intros <;> omega))) ?_
              rintro M105 _ ⟨h105, r105, rfl, lr105, ur105, wr105⟩
              have h105 := St.rn h105 (Pm1.of hS.1.2.2.2.2 (fun _ => St.ka h105 (by decide) (by decide) (by decide)) (fun _ => St.ka h105 (by decide) (by decide) (by decide)) (fun _ => St.ka h105 (by decide) (by decide) (by decide)) (fun _ => St.ka h105 (by decide) (by decide) (by decide)) (fun _ => St.ka h105 (by decide) (by decide) (by decide)) (fun _ => St.ka h105 (by decide) (by decide) (by decide)) (fun _ => St.ka h105 (by decide) (by decide) (by decide)) (fun _ => St.ka h105 (by decide) (by decide) (by decide)) (fun _ => St.ka h105 (by decide) (by decide) (by decide)) (fun _ => St.ka h105 (by decide) (by decide) (by decide)) (St.kp h105 (by decide) (by decide) (by decide)) (St.kp h105 (by decide) (by decide) (by decide)) (St.kp h105 (by decide) (by decide) (by decide)) (St.kp h105 (by decide) (by decide) (by decide)) (St.kp h105 (by decide) (by decide) (by decide)) (St.kp h105 (by decide) (by decide) (by decide)) (St.kp h105 (by decide) (by decide) (by decide)) (St.kp h105 (by decide) (by decide) (by decide)) (St.kp h105 (by decide) (by decide) (by decide)) (St.kp h105 (by decide) (by decide) (by decide)) (St.kp h105 (by decide) (by decide) (by decide)))
              have hS := St.tr hS h105 (by decide) (by decide)
              refine Tr.sc [(0, r105)] rfl ?_
              have J125 : ∀ (M : Mem), St Pm1 ws_X12_next_120 as_X12_next_120 M0 M → rd M 120 2 = r7 → rd M 120 3 = 0 → rd M 120 4 = p5_1 → rd M 120 5 = p5_1 → rd M 120 7 = g120_7 → rd M 120 8 = g120_8 → rd M 121 (p5_1 - 1) = r104 → rd M 121 p5_1 = r70 → (g120_5 ≤ p5_1) → (p5_1 = p5_1) → (g120_8 = 0 ∨ g120_8 = g120_8) → ((r71 = 1 ∧ 97 ≤ rd M 121 p5_1 ∧ rd M 121 p5_1 ≤ 122) ∨ (r71 = 0 ∧ (rd M 121 p5_1 < 97 ∨ 122 < rd M 121 p5_1))) → ((r81 = 1 ∧ 48 ≤ rd M 121 p5_1 ∧ rd M 121 p5_1 ≤ 57) ∨ (r81 = 0 ∧ (rd M 121 p5_1 < 48 ∨ 57 < rd M 121 p5_1))) → Tr l K 1 mX12_next 125 [(0, (2, 120)), (1, (0, p5_1)), (2, (0, r71)), (3, (0, r81))] [] M (q_X12_next_120 M0) := by
                intro M  hS  k125_120_2 k125_120_3 k125_120_4 k125_120_5 k125_120_7 k125_120_8 k125_121_p5_11n1 k125_121_p5_110 t125_0 t125_1 t125_2 t125_3 t125_4
                clear t93_2 t93_3 t93_4
                refine Tr.aload_n (pc := 125) (i := 0) d_X12_next_125 rfl rfl ?_
                refine Tr.iconst (pc := 126) d_X12_next_126 (by decide) ?_
                refine Tr.iload_n (pc := 127) (i := 1) d_X12_next_127 rfl rfl ?_
                refine Tr.callV (pc := 128) (as := [_, _]) d_X12_next_128 s_12_389 ok_X12_blame rfl rfl (Nat.le_of_ble_eq_true rfl) (Nat.le_of_ble_eq_true rfl) (by decide) (ty_120 hS.1.1) ?_
                have kb128_120_8 : rd M 120 8 = g120_8 := k125_120_8
                refine Tr.imp (Tr.deep (by decide) (sp_X12_blame_120 hS.1 1 (by and_intros <;> omega) p5_1 (by and_intros <;> omega))) ?_
                rintro M128 _ ⟨h128, rfl, z128_0⟩
                have hS := St.tr hS h128 (by decide) (by decide)
                obtain ⟨s128_120_8, es128_120_8⟩ : ∃ v, rd M128 120 8 = v := ⟨_, rfl⟩
                have bs128_120_8 : 0 ≤ s128_120_8 ∧ s128_120_8 ≤ 5 := by rw [← es128_120_8]; exact ir_120_8 hS.1.2.1
                refine Tr.sc [] rfl ?_
                refine Tr.pick [0, 1, 2, 3] (ls2 := [(0, (2, 120)), (1, (0, p5_1)), (2, (0, r71)), (3, (0, r81))]) rfl ?_
                have jr131_0 : rd M128 121 p5_1 = r70 := ((St.ka h128 (by decide) (by decide) (by decide)).trans k125_121_p5_110)
                have jr131_1 : rd M128 121 p5_1 = r70 := ((St.ka h128 (by decide) (by decide) (by decide)).trans k125_121_p5_110)
                exact J131 _ _ hS (by and_intros <;> omega) ((St.kp h128 (by decide) (by decide) (by decide)).trans k125_120_2) ((St.kp h128 (by decide) (by decide) (by decide)).trans k125_120_3) ((St.kp h128 (by decide) (by decide) (by decide)).trans k125_120_4) ((St.kp h128 (by decide) (by decide) (by decide)).trans k125_120_5) ((St.kp h128 (by decide) (by decide) (by decide)).trans k125_120_7) es128_120_8 ((St.ka h128 (by decide) (by decide) (by decide)).trans k125_121_p5_110) (by and_intros <;> omega) (by and_intros <;> omega) (by first | assumption | omega) (by first | assumption | omega) (by first | assumption | omega)
              refine Tr.if_ne (pc := 108) (tgt := 125) d_X12_next_108 rfl (fun c108 => ?_) (fun c108 => ?_)
              · refine Tr.pick [0, 1, 2, 3] (ls2 := [(0, (2, 120)), (1, (0, p5_1)), (2, (0, r71)), (3, (0, r81))]) rfl ?_
                have jr125_0 : rd M105 121 p5_1 = r70 := ((St.ka h105 (by decide) (by decide) (by decide)).trans k93_121_p5_110)
                have jr125_1 : rd M105 121 p5_1 = r70 := ((St.ka h105 (by decide) (by decide) (by decide)).trans k93_121_p5_110)
                exact J125 _ hS ((St.kp h105 (by decide) (by decide) (by decide)).trans k93_120_2) ((St.kp h105 (by decide) (by decide) (by decide)).trans k93_120_3) ((St.kp h105 (by decide) (by decide) (by decide)).trans k93_120_4) ((St.kp h105 (by decide) (by decide) (by decide)).trans k93_120_5) ((St.kp h105 (by decide) (by decide) (by decide)).trans k93_120_7) ((St.kp h105 (by decide) (by decide) (by decide)).trans k93_120_8) ((St.ka h105 (by decide) (by decide) (by decide)).trans er104) ((St.ka h105 (by decide) (by decide) (by decide)).trans k93_121_p5_110) (by and_intros <;> omega) (by and_intros <;> omega) (by first | assumption | omega) (by first | assumption | omega) (by first | assumption | omega)
              · refine Tr.aload_n (pc := 111) (i := 0) d_X12_next_111 rfl rfl ?_
                refine Tr.getf (pc := 112) d_X12_next_112 f_12_7 (by decide) (by decide) (ty_120 hS.1.1) ?_
                refine Tr.tp 121 (fx_120_0 hS.1.1) ?_
                refine Tr.iload_n (pc := 115) (i := 1) d_X12_next_115 rfl rfl ?_
                refine Tr.iconst (pc := 116) d_X12_next_116 (by decide) ?_
                refine Tr.isub (pc := 117) d_X12_next_117 ?_
                refine Tr.tp (p5_1 - 1) ((w32_id (by and_intros <;> omega)).trans (by first | rfl | (apply Int.le_antisymm <;> omega))) ?_
                refine Tr.iald (pc := 118) d_X12_next_118 (ty_121 hS.1.1) (by and_intros <;> omega) (by and_intros <;> omega) ?_
                refine Tr.tp r104 ((St.ka h105 (by decide) (by decide) (by decide)).trans er104) ?_
                refine Tr.callS (pc := 119) (as := [_]) d_X12_next_119 s_12_386 ok_X12_isDigit rfl rfl (Nat.le_of_ble_eq_true rfl) (Nat.le_of_ble_eq_true rfl) ?_
                refine Tr.imp (Tr.deep (by decide) (sp_X12_isDigit hS.1.wk r104 (by and_intros <;> omega))) ?_
                rintro M119 _ ⟨h119, r119, rfl, lr119, ur119, wr119⟩
                have h119 := St.rn h119 (Pm1.of hS.1.2.2.2.2 (fun _ => St.ka h119 (by decide) (by decide) (by decide)) (fun _ => St.ka h119 (by decide) (by decide) (by decide)) (fun _ => St.ka h119 (by decide) (by decide) (by decide)) (fun _ => St.ka h119 (by decide) (by decide) (by decide)) (fun _ => St.ka h119 (by decide) (by decide) (by decide)) (fun _ => St.ka h119 (by decide) (by decide) (by decide)) (fun _ => St.ka h119 (by decide) (by decide) (by decide)) (fun _ => St.ka h119 (by decide) (by decide) (by decide)) (fun _ => St.ka h119 (by decide) (by decide) (by decide)) (fun _ => St.ka h119 (by decide) (by decide) (by decide)) (St.kp h119 (by decide) (by decide) (by decide)) (St.kp h119 (by decide) (by decide) (by decide)) (St.kp h119 (by decide) (by decide) (by decide)) (St.kp h119 (by decide) (by decide) (by decide)) (St.kp h119 (by decide) (by decide) (by decide)) (St.kp h119 (by decide) (by decide) (by decide)) (St.kp h119 (by decide) (by decide) (by decide)) (St.kp h119 (by decide) (by decide) (by decide)) (St.kp h119 (by decide) (by decide) (by decide)) (St.kp h119 (by decide) (by decide) (by decide)) (St.kp h119 (by decide) (by decide) (by decide)))
                have hS := St.tr hS h119 (by decide) (by decide)
                refine Tr.sc [(0, r119)] rfl ?_
                refine Tr.if_eq (pc := 122) (tgt := 131) d_X12_next_122 rfl (fun c122 => ?_) (fun c122 => ?_)
                · refine Tr.pick [0, 1, 2, 3] (ls2 := [(0, (2, 120)), (1, (0, p5_1)), (2, (0, r71)), (3, (0, r81))]) rfl ?_
                  have jr131_0 : rd M119 121 p5_1 = r70 := ((St.ka h119 (by decide) (by decide) (by decide)).trans ((St.ka h105 (by decide) (by decide) (by decide)).trans k93_121_p5_110))
                  have jr131_1 : rd M119 121 p5_1 = r70 := ((St.ka h119 (by decide) (by decide) (by decide)).trans ((St.ka h105 (by decide) (by decide) (by decide)).trans k93_121_p5_110))
                  exact J131 _ _ hS (by and_intros <;> omega) ((St.kp h119 (by decide) (by decide) (by decide)).trans ((St.kp h105 (by decide) (by decide) (by decide)).trans k93_120_2)) ((St.kp h119 (by decide) (by decide) (by decide)).trans ((St.kp h105 (by decide) (by decide) (by decide)).trans k93_120_3)) ((St.kp h119 (by decide) (by decide) (by decide)).trans ((St.kp h105 (by decide) (by decide) (by decide)).trans k93_120_4)) ((St.kp h119 (by decide) (by decide) (by decide)).trans ((St.kp h105 (by decide) (by decide) (by decide)).trans k93_120_5)) ((St.kp h119 (by decide) (by decide) (by decide)).trans ((St.kp h105 (by decide) (by decide) (by decide)).trans k93_120_7)) ((St.kp h119 (by decide) (by decide) (by decide)).trans ((St.kp h105 (by decide) (by decide) (by decide)).trans k93_120_8)) ((St.ka h119 (by decide) (by decide) (by decide)).trans ((St.ka h105 (by decide) (by decide) (by decide)).trans k93_121_p5_110)) (by and_intros <;> omega) (by and_intros <;> omega) (by first | assumption | omega) (by first | assumption | omega) (by first | assumption | omega)
                · refine Tr.pick [0, 1, 2, 3] (ls2 := [(0, (2, 120)), (1, (0, p5_1)), (2, (0, r71)), (3, (0, r81))]) rfl ?_
                  have jr125_0 : rd M119 121 p5_1 = r70 := ((St.ka h119 (by decide) (by decide) (by decide)).trans ((St.ka h105 (by decide) (by decide) (by decide)).trans k93_121_p5_110))
                  have jr125_1 : rd M119 121 p5_1 = r70 := ((St.ka h119 (by decide) (by decide) (by decide)).trans ((St.ka h105 (by decide) (by decide) (by decide)).trans k93_121_p5_110))
                  exact J125 _ hS ((St.kp h119 (by decide) (by decide) (by decide)).trans ((St.kp h105 (by decide) (by decide) (by decide)).trans k93_120_2)) ((St.kp h119 (by decide) (by decide) (by decide)).trans ((St.kp h105 (by decide) (by decide) (by decide)).trans k93_120_3)) ((St.kp h119 (by decide) (by decide) (by decide)).trans ((St.kp h105 (by decide) (by decide) (by decide)).trans k93_120_4)) ((St.kp h119 (by decide) (by decide) (by decide)).trans ((St.kp h105 (by decide) (by decide) (by decide)).trans k93_120_5)) ((St.kp h119 (by decide) (by decide) (by decide)).trans ((St.kp h105 (by decide) (by decide) (by decide)).trans k93_120_7)) ((St.kp h119 (by decide) (by decide) (by decide)).trans ((St.kp h105 (by decide) (by decide) (by decide)).trans k93_120_8)) ((St.ka h119 (by decide) (by decide) (by decide)).trans ((St.ka h105 (by decide) (by decide) (by decide)).trans er104)) ((St.ka h119 (by decide) (by decide) (by decide)).trans ((St.ka h105 (by decide) (by decide) (by decide)).trans k93_121_p5_110)) (by and_intros <;> omega) (by and_intros <;> omega) (by first | assumption | omega) (by first | assumption | omega) (by first | assumption | omega)
          refine Tr.if_ne (pc := 86) (tgt := 93) d_X12_next_86 rfl (fun c86 => ?_) (fun c86 => ?_)
          · refine Tr.pick [2, 3, 1, 0] (ls2 := [(0, (2, 120)), (1, (0, p5_1)), (2, (0, r71)), (3, (0, r81))]) rfl ?_
            have jr93_0 : rd M81 121 p5_1 = r70 := ((St.ka h81 (by decide) (by decide) (by decide)).trans ((St.ka h71 (by decide) (by decide) (by decide)).trans er70))
            have jr93_1 : rd M81 121 p5_1 = r70 := ((St.ka h81 (by decide) (by decide) (by decide)).trans ((St.ka h71 (by decide) (by decide) (by decide)).trans er70))
            exact J93 _ hS ((St.kp h81 (by decide) (by decide) (by decide)).trans ((St.kp h71 (by decide) (by decide) (by decide)).trans ((Wr.b w53 rfl).trans ((Wr.b w48 rfl).trans ((Wr.b w43 rfl).trans k41_120_2))))) ((St.kp h81 (by decide) (by decide) (by decide)).trans ((St.kp h71 (by decide) (by decide) (by decide)).trans w53.1)) ((St.kp h81 (by decide) (by decide) (by decide)).trans ((St.kp h71 (by decide) (by decide) (by decide)).trans ((Wr.b w53 rfl).trans ((Wr.b w48 rfl).trans w43.1)))) ((St.kp h81 (by decide) (by decide) (by decide)).trans ((St.kp h71 (by decide) (by decide) (by decide)).trans ((Wr.b w53 rfl).trans w48.1))) ((St.kp h81 (by decide) (by decide) (by decide)).trans ((St.kp h71 (by decide) (by decide) (by decide)).trans ((Wr.b w53 rfl).trans ((Wr.b w48 rfl).trans ((Wr.b w43 rfl).trans k41_120_7))))) ((St.kp h81 (by decide) (by decide) (by decide)).trans ((St.kp h71 (by decide) (by decide) (by decide)).trans ((Wr.b w53 rfl).trans ((Wr.b w48 rfl).trans ((Wr.b w43 rfl).trans k41_120_8))))) ((St.ka h81 (by decide) (by decide) (by decide)).trans ((St.ka h71 (by decide) (by decide) (by decide)).trans er70)) (by and_intros <;> omega) (by and_intros <;> omega) (by first | assumption | omega) (by first | assumption | omega) (by first | assumption | omega)
          · refine Tr.iload_n (pc := 89) (i := 3) d_X12_next_89 rfl rfl ?_
            refine Tr.if_eq (pc := 90) (tgt := 131) d_X12_next_90 rfl (fun c90 => ?_) (fun c90 => ?_)
            · refine Tr.pick [2, 3, 1, 0] (ls2 := [(0, (2, 120)), (1, (0, p5_1)), (2, (0, r71)), (3, (0, r81))]) rfl ?_
              have jr131_0 : rd M81 121 p5_1 = r70 := ((St.ka h81 (by decide) (by decide) (by decide)).trans ((St.ka h71 (by decide) (by decide) (by decide)).trans er70))
              have jr131_1 : rd M81 121 p5_1 = r70 := ((St.ka h81 (by decide) (by decide) (by decide)).trans ((St.ka h71 (by decide) (by decide) (by decide)).trans er70))
              exact J131 _ _ hS (by and_intros <;> omega) ((St.kp h81 (by decide) (by decide) (by decide)).trans ((St.kp h71 (by decide) (by decide) (by decide)).trans ((Wr.b w53 rfl).trans ((Wr.b w48 rfl).trans ((Wr.b w43 rfl).trans k41_120_2))))) ((St.kp h81 (by decide) (by decide) (by decide)).trans ((St.kp h71 (by decide) (by decide) (by decide)).trans w53.1)) ((St.kp h81 (by decide) (by decide) (by decide)).trans ((St.kp h71 (by decide) (by decide) (by decide)).trans ((Wr.b w53 rfl).trans ((Wr.b w48 rfl).trans w43.1)))) ((St.kp h81 (by decide) (by decide) (by decide)).trans ((St.kp h71 (by decide) (by decide) (by decide)).trans ((Wr.b w53 rfl).trans w48.1))) ((St.kp h81 (by decide) (by decide) (by decide)).trans ((St.kp h71 (by decide) (by decide) (by decide)).trans ((Wr.b w53 rfl).trans ((Wr.b w48 rfl).trans ((Wr.b w43 rfl).trans k41_120_7))))) ((St.kp h81 (by decide) (by decide) (by decide)).trans ((St.kp h71 (by decide) (by decide) (by decide)).trans ((Wr.b w53 rfl).trans ((Wr.b w48 rfl).trans ((Wr.b w43 rfl).trans k41_120_8))))) ((St.ka h81 (by decide) (by decide) (by decide)).trans ((St.ka h71 (by decide) (by decide) (by decide)).trans er70)) (by and_intros <;> omega) (by and_intros <;> omega) (by first | assumption | omega) (by first | assumption | omega) (by first | assumption | omega)
            · refine Tr.pick [2, 3, 1, 0] (ls2 := [(0, (2, 120)), (1, (0, p5_1)), (2, (0, r71)), (3, (0, r81))]) rfl ?_
              have jr93_0 : rd M81 121 p5_1 = r70 := ((St.ka h81 (by decide) (by decide) (by decide)).trans ((St.ka h71 (by decide) (by decide) (by decide)).trans er70))
              have jr93_1 : rd M81 121 p5_1 = r70 := ((St.ka h81 (by decide) (by decide) (by decide)).trans ((St.ka h71 (by decide) (by decide) (by decide)).trans er70))
              exact J93 _ hS ((St.kp h81 (by decide) (by decide) (by decide)).trans ((St.kp h71 (by decide) (by decide) (by decide)).trans ((Wr.b w53 rfl).trans ((Wr.b w48 rfl).trans ((Wr.b w43 rfl).trans k41_120_2))))) ((St.kp h81 (by decide) (by decide) (by decide)).trans ((St.kp h71 (by decide) (by decide) (by decide)).trans w53.1)) ((St.kp h81 (by decide) (by decide) (by decide)).trans ((St.kp h71 (by decide) (by decide) (by decide)).trans ((Wr.b w53 rfl).trans ((Wr.b w48 rfl).trans w43.1)))) ((St.kp h81 (by decide) (by decide) (by decide)).trans ((St.kp h71 (by decide) (by decide) (by decide)).trans ((Wr.b w53 rfl).trans w48.1))) ((St.kp h81 (by decide) (by decide) (by decide)).trans ((St.kp h71 (by decide) (by decide) (by decide)).trans ((Wr.b w53 rfl).trans ((Wr.b w48 rfl).trans ((Wr.b w43 rfl).trans k41_120_7))))) ((St.kp h81 (by decide) (by decide) (by decide)).trans ((St.kp h71 (by decide) (by decide) (by decide)).trans ((Wr.b w53 rfl).trans ((Wr.b w48 rfl).trans ((Wr.b w43 rfl).trans k41_120_8))))) ((St.ka h81 (by decide) (by decide) (by decide)).trans ((St.ka h71 (by decide) (by decide) (by decide)).trans er70)) (by and_intros <;> omega) (by and_intros <;> omega) (by first | assumption | omega) (by first | assumption | omega) (by first | assumption | omega)
        · have kr_120_3 : rd M53 120 3 = 0 := w53.1
          have kr_120_4 : rd M53 120 4 = p5_1 := ((Wr.b w53 rfl).trans ((Wr.b w48 rfl).trans w43.1))
          have kr_120_5 : rd M53 120 5 = p5_1 := ((Wr.b w53 rfl).trans w48.1)
          have kr_120_7 : rd M53 120 7 = g120_7 := ((Wr.b w53 rfl).trans ((Wr.b w48 rfl).trans ((Wr.b w43 rfl).trans k41_120_7)))
          have kr_120_8 : rd M53 120 8 = g120_8 := ((Wr.b w53 rfl).trans ((Wr.b w48 rfl).trans ((Wr.b w43 rfl).trans k41_120_8)))
          have mnr : min (rd M53 120 3) 1 = min (0 : Int) 1 := by rw [kr_120_3]
          have mn0 : min (rd M0 120 3) 1 = min (g120_3) 1 := by rw [eg120_3]
          have mnb : 0 ≤ min (0 : Int) 1 ∧ min (0 : Int) 1 ≤ 1 := by have h9 : (0 : Int) ≤ 0 := (by and_intros <;> omega); exact ⟨Int.le_min.2 ⟨h9, by decide⟩, Int.min_le_right _ _⟩
          have mnd : 0 ≤ min (g120_3 : Int) 1 ∧ min (g120_3 : Int) 1 ≤ 1 := by have h9 : (0 : Int) ≤ g120_3 := (by and_intros <;> omega); exact ⟨Int.le_min.2 ⟨h9, by decide⟩, Int.min_le_right _ _⟩
          exact Tr.vret (pc := 64) d_X12_next_64 rfl ⟨hS, rfl, by omega, by omega, by omega, by omega, by omega, by omega⟩
      refine Tr.icmp_ge (pc := 10) (tgt := 41) d_X12_next_10 rfl (fun c10 => ?_) (fun c10 => ?_)
      · refine Tr.pick [0, 1] (ls2 := [(0, (2, 120)), (1, (0, p5_1))]) rfl ?_
        exact J41 _ hS er7 k5_120_3 k5_120_4 k5_120_5 k5_120_7 k5_120_8 (by and_intros <;> omega)
      · refine Tr.aload_n (pc := 13) (i := 0) d_X12_next_13 rfl rfl ?_
        refine Tr.getf (pc := 14) d_X12_next_14 f_12_7 (by decide) (by decide) (ty_120 hS.1.1) ?_
        refine Tr.tp 121 (fx_120_0 hS.1.1) ?_
        refine Tr.iload_n (pc := 17) (i := 1) d_X12_next_17 rfl rfl ?_
        refine Tr.iald (pc := 18) d_X12_next_18 (ty_121 hS.1.1) (by and_intros <;> omega) (by and_intros <;> omega) ?_
        refine Tr.gen (P := fun v => (-2147483648) ≤ v ∧ v ≤ 2147483647) (ar_121 hS.1.2.1 _) (fun r18 er18 br18 => ?_)
        refine Tr.bipush (pc := 19) d_X12_next_19 rfl (by decide) ?_
        have J35 : ∀ (M : Mem), St Pm1 ws_X12_next_120 as_X12_next_120 M0 M → (10 ≤ r18 ∧ r18 ≤ 32) → rd M 120 2 = r7 → rd M 120 3 = g120_3 → rd M 120 4 = g120_4 → rd M 120 5 = g120_5 → rd M 120 7 = g120_7 → rd M 120 8 = g120_8 → rd M 121 p5_1 = r18 → (g120_5 ≤ p5_1 ∧ g120_8 = g120_8) → Tr l K 1 mX12_next 35 [(0, (2, 120)), (1, (0, p5_1))] [] M (q_X12_next_120 M0) := by
          intro M  hS z35r18 k35_120_2 k35_120_3 k35_120_4 k35_120_5 k35_120_7 k35_120_8 k35_121_p5_110 t35_0
          refine Tr.iincV (pc := 35) (n2 := (p5_1 + 1)) (ls2 := [(1, (0, (p5_1 + 1))), (0, (2, 120))]) d_X12_next_35 rfl (by decide) ((w32_id (by and_intros <;> omega)).trans (by first | rfl | (apply Int.le_antisymm <;> omega))) rfl ?_
          refine Tr.goto (pc := 38) (tgt := 5) d_X12_next_38 rfl ?_
          refine Tr.pick [1, 0] (ls2 := [(0, (2, 120)), (1, (0, (p5_1 + 1)))]) rfl ?_
          exact J5 _ _ hS (by and_intros <;> omega) k35_120_3 k35_120_4 k35_120_5 k35_120_7 k35_120_8 (by and_intros <;> omega) (by and_intros <;> omega)
        refine Tr.icmp_eq (pc := 21) (tgt := 35) d_X12_next_21 rfl (fun c21 => ?_) (fun c21 => ?_)
        · refine Tr.pick [0, 1] (ls2 := [(0, (2, 120)), (1, (0, p5_1))]) rfl ?_
          exact J35 _ hS (by and_intros <;> omega) er7 k5_120_3 k5_120_4 k5_120_5 k5_120_7 k5_120_8 er18 (by and_intros <;> omega)
        · refine Tr.aload_n (pc := 24) (i := 0) d_X12_next_24 rfl rfl ?_
          refine Tr.getf (pc := 25) d_X12_next_25 f_12_7 (by decide) (by decide) (ty_120 hS.1.1) ?_
          refine Tr.tp 121 (fx_120_0 hS.1.1) ?_
          refine Tr.iload_n (pc := 28) (i := 1) d_X12_next_28 rfl rfl ?_
          refine Tr.iald (pc := 29) d_X12_next_29 (ty_121 hS.1.1) (by and_intros <;> omega) (by and_intros <;> omega) ?_
          refine Tr.tp r18 er18 ?_
          refine Tr.bipush (pc := 30) d_X12_next_30 rfl (by decide) ?_
          refine Tr.icmp_ne (pc := 32) (tgt := 41) d_X12_next_32 rfl (fun c32 => ?_) (fun c32 => ?_)
          · refine Tr.pick [0, 1] (ls2 := [(0, (2, 120)), (1, (0, p5_1))]) rfl ?_
            exact J41 _ hS er7 k5_120_3 k5_120_4 k5_120_5 k5_120_7 k5_120_8 (by and_intros <;> omega)
          · refine Tr.pick [0, 1] (ls2 := [(0, (2, 120)), (1, (0, p5_1))]) rfl ?_
            exact J35 _ hS (by and_intros <;> omega) er7 k5_120_3 k5_120_4 k5_120_5 k5_120_7 k5_120_8 er18 (by and_intros <;> omega)
  refine Tr.pick [1, 0] (ls2 := [(0, (2, 120)), (1, (0, g120_5))]) rfl ?_
  exact J5 _ _ _ hS (by and_intros <;> omega) eg120_3 eg120_4 eg120_5 eg120_7 eg120_8 (by and_intros <;> omega) (Nat.lt_succ_self _)
