def ws_X12_run_120 : List (Int × Int) := [(120, 59), (120, 60), (120, 61), (120, 62), (120, 63), (120, 64), (120, 65), (120, 66), (120, 67), (120, 68), (120, 70), (120, 75), (120, 79), (120, 84), (120, 85), (120, 86), (120, 87), (120, 88), (120, 89), (120, 90), (120, 91), (120, 95), (120, 96)]
def as_X12_run_120 : List Int := [154, 155, 156, 157, 158, 159, 160, 161, 162, 163, 164, 165, 166, 167, 168, 169, 170, 171, 172, 173, 174, 175]
def q_X12_run_120 (a1 : Int) (M0 M' : Mem) (r : Option PV) : Prop := St Tru ws_X12_run_120 as_X12_run_120 M0 M' ∧ ∃ v : Int, r = some (0, v) ∧ (-2) ≤ v ∧ v ≤ 2 ∧ (rd M' 120 59 = -1)
set_option maxRecDepth 100000 in
set_option maxHeartbeats 4000000 in
theorem sp_X12_run_120 {l : Launch} {K : EC} {M0 : Mem} (hI : In Tru M0) (en_120_12 : rd M0 120 12 = 0) (a1 : Int) (ha1 : (-2147483648) ≤ a1 ∧ a1 ≤ 2147483647)  (hq0 : rd M0 120 59 = -1) (hF_Bk0 : Bk0 M0) : Tr l K 8 mX12_run 0 [(0, (2, 120)), (1, (0, a1))] [] M0 (q_X12_run_120 a1 M0) := by
  have hS : St Tru ws_X12_run_120 as_X12_run_120 M0 M0 := St.rf hI
  obtain ⟨g120_59, eg120_59⟩ : ∃ v, rd M0 120 59 = v := ⟨_, rfl⟩
  have bg120_59 : (-1) ≤ g120_59 ∧ g120_59 ≤ 5 := by rw [← eg120_59]; exact ir_120_59 hI.2.1
  refine Tr.iload_n (pc := 0) (i := 1) d_X12_run_0 rfl rfl ?_
  refine Tr.iconst (pc := 1) d_X12_run_1 (by decide) ?_
  refine Tr.icmp_ge (pc := 2) (tgt := 8) d_X12_run_2 rfl (fun c2 => ?_) (fun c2 => ?_)
  · refine Tr.iconst (pc := 8) d_X12_run_8 (by decide) ?_
    refine Tr.istore_n (pc := 9) (i := 2) (ls2 := [(2, (0, 0)), (0, (2, 120)), (1, (0, a1))]) d_X12_run_9 rfl (by decide) rfl ?_
    have J10 : ∀ (n10 : Nat) (M : Mem) (p10_2 : Int), St Tru ws_X12_run_120 as_X12_run_120 M0 M → (0 ≤ p10_2 ∧ p10_2 ≤ 3) → rd M 120 59 = g120_59 → (g120_59 = -1) → (3 - p10_2).toNat < n10 → Tr l K 8 mX12_run 10 [(0, (2, 120)), (1, (0, a1)), (2, (0, p10_2))] [] M (q_X12_run_120 a1 M0) := by
      intro n10
      induction n10 with
      | zero => intro M p10_2 hS bp10_2 k10_120_59 t10_0 hm10; exact absurd hm10 (Nat.not_lt_zero _)
      | succ n10 J10 =>
        intro M p10_2 hS bp10_2 k10_120_59 t10_0 hm10
        refine Tr.iload_n (pc := 10) (i := 2) d_X12_run_10 rfl rfl ?_
        refine Tr.iconst (pc := 11) d_X12_run_11 (by decide) ?_
        refine Tr.icmp_ge (pc := 12) (tgt := 33) d_X12_run_12 rfl (fun c12 => ?_) (fun c12 => ?_)
        · refine Tr.aload_n (pc := 33) (i := 0) d_X12_run_33 rfl rfl ?_
          refine Tr.iconst (pc := 34) d_X12_run_34 (by decide) ?_
          refine Tr.putzS (pc := 35) (P := St Tru ws_X12_run_120 as_X12_run_120 M0) d_X12_run_35 f_12_225 (by decide) (ty_120 hS.1.1) (by omega) (st_120_70 hS (by decide) (by omega) trivial) (fun M35 hS w35 => ?_)
          refine Tr.aload_n (pc := 38) (i := 0) d_X12_run_38 rfl rfl ?_
          refine Tr.iload_n (pc := 39) (i := 1) d_X12_run_39 rfl rfl ?_
          refine Tr.i2l (pc := 40) d_X12_run_40 ?_
          refine Tr.callV (pc := 41) (as := [_]) d_X12_run_41 s_12_637 ok_X12_runs rfl rfl (Nat.le_of_ble_eq_true rfl) (Nat.le_of_ble_eq_true rfl) (by decide) (ty_120 hS.1.1) ?_
          have kb41_120_59 : rd M35 120 59 = g120_59 := ((Wr.b w35 rfl).trans k10_120_59)
          refine Tr.imp (Tr.deep (by decide) (sp_X12_runs_120_w1 hS.1 ((St.kp hS (by decide) (by decide) (by decide)).trans en_120_12) a1 (by omega) (by omega) (Bk0.of hF_Bk0 (fun j => (St.ka hS (by decide) (by decide) (by decide))) (fun j => (St.ka hS (by decide) (by decide) (by decide))) (fun j => (St.ka hS (by decide) (by decide) (by decide))) (fun j => (St.ka hS (by decide) (by decide) (by decide))) (fun j => (St.ka hS (by decide) (by decide) (by decide))) (fun j => (St.ka hS (by decide) (by decide) (by decide))) (fun j => (St.ka hS (by decide) (by decide) (by decide))) (fun j => (St.ka hS (by decide) (by decide) (by decide))) (St.kp hS (by decide) (by decide) (by decide)) (St.kp hS (by decide) (by decide) (by decide)) (St.kp hS (by decide) (by decide) (by decide)) (St.kp hS (by decide) (by decide) (by decide))))) ?_
          rintro M41 _ ⟨h41, r41, rfl, lr41, ur41, z41_0⟩
          have hS := St.tr hS h41 (by decide) (by decide)
          obtain ⟨s41_120_59, es41_120_59⟩ : ∃ v, rd M41 120 59 = v := ⟨_, rfl⟩
          have bs41_120_59 : (-1) ≤ s41_120_59 ∧ s41_120_59 ≤ 5 := by rw [← es41_120_59]; exact ir_120_59 hS.1.2.1
          refine Tr.sc [(0, r41)] rfl ?_
          refine Tr.istore_n (pc := 44) (i := 2) (ls2 := [(2, (0, r41)), (0, (2, 120)), (1, (0, a1))]) d_X12_run_44 rfl (by decide) rfl ?_
          refine Tr.aload_n (pc := 45) (i := 0) d_X12_run_45 rfl rfl ?_
          refine Tr.iconst (pc := 46) d_X12_run_46 (by decide) ?_
          refine Tr.putzS (pc := 47) (P := St Tru ws_X12_run_120 as_X12_run_120 M0) d_X12_run_47 f_12_225 (by decide) (ty_120 hS.1.1) (by omega) (st_120_70 hS (by decide) (by omega) trivial) (fun M47 hS w47 => ?_)
          refine Tr.aload_n (pc := 50) (i := 0) d_X12_run_50 rfl rfl ?_
          refine Tr.iconst (pc := 51) d_X12_run_51 (by decide) ?_
          refine Tr.putzS (pc := 52) (P := St Tru ws_X12_run_120 as_X12_run_120 M0) d_X12_run_52 f_12_270 (by decide) (ty_120 hS.1.1) (by omega) (st_120_85 hS (by decide) (by omega) trivial) (fun M52 hS w52 => ?_)
          refine Tr.aload_n (pc := 55) (i := 0) d_X12_run_55 rfl rfl ?_
          refine Tr.aload_n (pc := 56) (i := 0) d_X12_run_56 rfl rfl ?_
          refine Tr.getf (pc := 57) d_X12_run_57 f_12_201 (by decide) (by decide) (ty_120 hS.1.1) ?_
          refine Tr.gen (P := fun v => 0 ≤ v ∧ v ≤ 2060) (ir_120_62 hS.1.2.1) (fun r57 er57 br57 => ?_)
          refine Tr.putfS (pc := 60) (P := St Tru ws_X12_run_120 as_X12_run_120 M0) d_X12_run_60 f_12_273 (by decide) (by decide) (ty_120 hS.1.1) (st_120_86 hS (by decide) (by omega) trivial) (fun M60 hS w60 => ?_)
          refine Tr.aload_n (pc := 63) (i := 0) d_X12_run_63 rfl rfl ?_
          refine Tr.aload_n (pc := 64) (i := 0) d_X12_run_64 rfl rfl ?_
          refine Tr.getf (pc := 65) d_X12_run_65 f_12_204 (by decide) (by decide) (ty_120 hS.1.1) ?_
          refine Tr.gen (P := fun v => (-9223372036854775808) ≤ v ∧ v ≤ 9223372036854775807) (ir_120_63 hS.1.2.1) (fun r65 er65 br65 => ?_)
          refine Tr.putfS (pc := 68) (P := St Tru ws_X12_run_120 as_X12_run_120 M0) d_X12_run_68 f_12_276 (by decide) (by decide) (ty_120 hS.1.1) (st_120_87 hS (by decide) (by omega) trivial) (fun M68 hS w68 => ?_)
          refine Tr.aload_n (pc := 71) (i := 0) d_X12_run_71 rfl rfl ?_
          refine Tr.aload_n (pc := 72) (i := 0) d_X12_run_72 rfl rfl ?_
          refine Tr.getf (pc := 73) d_X12_run_73 f_12_210 (by decide) (by decide) (ty_120 hS.1.1) ?_
          refine Tr.gen (P := fun v => (-2147483648) ≤ v ∧ v ≤ 2147483647) (ir_120_65 hS.1.2.1) (fun r73 er73 br73 => ?_)
          refine Tr.putfS (pc := 76) (P := St Tru ws_X12_run_120 as_X12_run_120 M0) d_X12_run_76 f_12_279 (by decide) (by decide) (ty_120 hS.1.1) (st_120_88 hS (by decide) (by omega) trivial) (fun M76 hS w76 => ?_)
          refine Tr.aload_n (pc := 79) (i := 0) d_X12_run_79 rfl rfl ?_
          refine Tr.aload_n (pc := 80) (i := 0) d_X12_run_80 rfl rfl ?_
          refine Tr.getf (pc := 81) d_X12_run_81 f_12_213 (by decide) (by decide) (ty_120 hS.1.1) ?_
          refine Tr.gen (P := fun v => (-2147483648) ≤ v ∧ v ≤ 2147483647) (ir_120_66 hS.1.2.1) (fun r81 er81 br81 => ?_)
          refine Tr.putfS (pc := 84) (P := St Tru ws_X12_run_120 as_X12_run_120 M0) d_X12_run_84 f_12_282 (by decide) (by decide) (ty_120 hS.1.1) (st_120_89 hS (by decide) (by omega) trivial) (fun M84 hS w84 => ?_)
          refine Tr.aload_n (pc := 87) (i := 0) d_X12_run_87 rfl rfl ?_
          refine Tr.aload_n (pc := 88) (i := 0) d_X12_run_88 rfl rfl ?_
          refine Tr.getf (pc := 89) d_X12_run_89 f_12_216 (by decide) (by decide) (ty_120 hS.1.1) ?_
          refine Tr.gen (P := fun v => (-2147483648) ≤ v ∧ v ≤ 2147483647) (ir_120_67 hS.1.2.1) (fun r89 er89 br89 => ?_)
          refine Tr.putfS (pc := 92) (P := St Tru ws_X12_run_120 as_X12_run_120 M0) d_X12_run_92 f_12_285 (by decide) (by decide) (ty_120 hS.1.1) (st_120_90 hS (by decide) (by omega) trivial) (fun M92 hS w92 => ?_)
          refine Tr.aload_n (pc := 95) (i := 0) d_X12_run_95 rfl rfl ?_
          refine Tr.aload_n (pc := 96) (i := 0) d_X12_run_96 rfl rfl ?_
          refine Tr.getf (pc := 97) d_X12_run_97 f_12_267 (by decide) (by decide) (ty_120 hS.1.1) ?_
          refine Tr.gen (P := fun v => (-2147483648) ≤ v ∧ v ≤ 2147483647) (ir_120_84 hS.1.2.1) (fun r97 er97 br97 => ?_)
          refine Tr.putfS (pc := 100) (P := St Tru ws_X12_run_120 as_X12_run_120 M0) d_X12_run_100 f_12_288 (by decide) (by decide) (ty_120 hS.1.1) (st_120_91 hS (by decide) (by omega) trivial) (fun M100 hS w100 => ?_)
          refine Tr.aload_n (pc := 103) (i := 0) d_X12_run_103 rfl rfl ?_
          refine Tr.aload_n (pc := 104) (i := 0) d_X12_run_104 rfl rfl ?_
          refine Tr.getf (pc := 105) d_X12_run_105 f_12_240 (by decide) (by decide) (ty_120 hS.1.1) ?_
          refine Tr.gen (P := fun v => 0 ≤ v ∧ v ≤ 2100) (ir_120_75 hS.1.2.1) (fun r105 er105 br105 => ?_)
          refine Tr.putfS (pc := 108) (P := St Tru ws_X12_run_120 as_X12_run_120 M0) d_X12_run_108 f_12_300 (by decide) (by decide) (ty_120 hS.1.1) (st_120_95 hS (by decide) (by omega) trivial) (fun M108 hS w108 => ?_)
          refine Tr.aload_n (pc := 111) (i := 0) d_X12_run_111 rfl rfl ?_
          refine Tr.aload_n (pc := 112) (i := 0) d_X12_run_112 rfl rfl ?_
          refine Tr.getf (pc := 113) d_X12_run_113 f_12_252 (by decide) (by decide) (ty_120 hS.1.1) ?_
          refine Tr.gen (P := fun v => 0 ≤ v ∧ v ≤ 2100) (ir_120_79 hS.1.2.1) (fun r113 er113 br113 => ?_)
          refine Tr.putfS (pc := 116) (P := St Tru ws_X12_run_120 as_X12_run_120 M0) d_X12_run_116 f_12_303 (by decide) (by decide) (ty_120 hS.1.1) (st_120_96 hS (by decide) (by omega) trivial) (fun M116 hS w116 => ?_)
          refine Tr.iconst (pc := 119) d_X12_run_119 (by decide) ?_
          refine Tr.istore_n (pc := 120) (i := 3) (ls2 := [(3, (0, 0)), (2, (0, r41)), (0, (2, 120)), (1, (0, a1))]) d_X12_run_120 rfl (by decide) rfl ?_
          have J121 : ∀ (n121 : Nat) (M : Mem) (p121_3 : Int), St Tru ws_X12_run_120 as_X12_run_120 M0 M → (0 ≤ p121_3 ∧ p121_3 ≤ 6) → rd M 120 59 = s41_120_59 → rd M 120 62 = r57 → rd M 120 63 = r65 → rd M 120 65 = r73 → rd M 120 66 = r81 → rd M 120 67 = r89 → rd M 120 70 = 0 → rd M 120 75 = r105 → rd M 120 79 = r113 → rd M 120 84 = r97 → rd M 120 85 = 1 → rd M 120 86 = r57 → rd M 120 87 = r65 → rd M 120 88 = r73 → rd M 120 89 = r81 → rd M 120 90 = r89 → rd M 120 91 = r97 → rd M 120 95 = r105 → rd M 120 96 = r113 → (s41_120_59 = -1) → (6 - p121_3).toNat < n121 → Tr l K 8 mX12_run 121 [(0, (2, 120)), (2, (0, r41)), (3, (0, p121_3))] [] M (q_X12_run_120 a1 M0) := by
            intro n121
            induction n121 with
            | zero => intro M p121_3 hS bp121_3 k121_120_59 k121_120_62 k121_120_63 k121_120_65 k121_120_66 k121_120_67 k121_120_70 k121_120_75 k121_120_79 k121_120_84 k121_120_85 k121_120_86 k121_120_87 k121_120_88 k121_120_89 k121_120_90 k121_120_91 k121_120_95 k121_120_96 t121_0 hm121; exact absurd hm121 (Nat.not_lt_zero _)
            | succ n121 J121 =>
              intro M p121_3 hS bp121_3 k121_120_59 k121_120_62 k121_120_63 k121_120_65 k121_120_66 k121_120_67 k121_120_70 k121_120_75 k121_120_79 k121_120_84 k121_120_85 k121_120_86 k121_120_87 k121_120_88 k121_120_89 k121_120_90 k121_120_91 k121_120_95 k121_120_96 t121_0 hm121
              refine Tr.iload_n (pc := 121) (i := 3) d_X12_run_121 rfl rfl ?_
              refine Tr.bipush (pc := 122) d_X12_run_122 rfl (by decide) ?_
              refine Tr.icmp_ge (pc := 124) (tgt := 145) d_X12_run_124 rfl (fun c124 => ?_) (fun c124 => ?_)
              · refine Tr.iconst (pc := 145) d_X12_run_145 (by decide) ?_
                refine Tr.istore_n (pc := 146) (i := 3) (ls2 := [(3, (0, 0)), (0, (2, 120)), (2, (0, r41))]) d_X12_run_146 rfl (by decide) rfl ?_
                have J147 : ∀ (n147 : Nat) (M : Mem) (p147_3 : Int), St Tru ws_X12_run_120 as_X12_run_120 M0 M → (0 ≤ p147_3 ∧ p147_3 ≤ 24) → rd M 120 59 = s41_120_59 → rd M 120 62 = r57 → rd M 120 63 = r65 → rd M 120 65 = r73 → rd M 120 66 = r81 → rd M 120 67 = r89 → rd M 120 70 = 0 → rd M 120 75 = r105 → rd M 120 79 = r113 → rd M 120 84 = r97 → rd M 120 85 = 1 → rd M 120 86 = r57 → rd M 120 87 = r65 → rd M 120 88 = r73 → rd M 120 89 = r81 → rd M 120 90 = r89 → rd M 120 91 = r97 → rd M 120 95 = r105 → rd M 120 96 = r113 → (s41_120_59 = -1) → (24 - p147_3).toNat < n147 → Tr l K 8 mX12_run 147 [(0, (2, 120)), (2, (0, r41)), (3, (0, p147_3))] [] M (q_X12_run_120 a1 M0) := by
                  intro n147
                  induction n147 with
                  | zero => intro M p147_3 hS bp147_3 k147_120_59 k147_120_62 k147_120_63 k147_120_65 k147_120_66 k147_120_67 k147_120_70 k147_120_75 k147_120_79 k147_120_84 k147_120_85 k147_120_86 k147_120_87 k147_120_88 k147_120_89 k147_120_90 k147_120_91 k147_120_95 k147_120_96 t147_0 hm147; exact absurd hm147 (Nat.not_lt_zero _)
                  | succ n147 J147 =>
                    intro M p147_3 hS bp147_3 k147_120_59 k147_120_62 k147_120_63 k147_120_65 k147_120_66 k147_120_67 k147_120_70 k147_120_75 k147_120_79 k147_120_84 k147_120_85 k147_120_86 k147_120_87 k147_120_88 k147_120_89 k147_120_90 k147_120_91 k147_120_95 k147_120_96 t147_0 hm147
                    refine Tr.iload_n (pc := 147) (i := 3) d_X12_run_147 rfl rfl ?_
                    refine Tr.bipush (pc := 148) d_X12_run_148 rfl (by decide) ?_
                    refine Tr.icmp_ge (pc := 150) (tgt := 171) d_X12_run_150 rfl (fun c150 => ?_) (fun c150 => ?_)
                    · refine Tr.iconst (pc := 171) d_X12_run_171 (by decide) ?_
                      refine Tr.istore_n (pc := 172) (i := 3) (ls2 := [(3, (0, 0)), (0, (2, 120)), (2, (0, r41))]) d_X12_run_172 rfl (by decide) rfl ?_
                      have J173 : ∀ (n173 : Nat) (M : Mem) (p173_3 : Int), St Tru ws_X12_run_120 as_X12_run_120 M0 M → (0 ≤ p173_3 ∧ p173_3 ≤ 6) → rd M 120 59 = s41_120_59 → rd M 120 62 = r57 → rd M 120 63 = r65 → rd M 120 65 = r73 → rd M 120 66 = r81 → rd M 120 67 = r89 → rd M 120 70 = 0 → rd M 120 75 = r105 → rd M 120 79 = r113 → rd M 120 84 = r97 → rd M 120 85 = 1 → rd M 120 86 = r57 → rd M 120 87 = r65 → rd M 120 88 = r73 → rd M 120 89 = r81 → rd M 120 90 = r89 → rd M 120 91 = r97 → rd M 120 95 = r105 → rd M 120 96 = r113 → (s41_120_59 = -1) → (6 - p173_3).toNat < n173 → Tr l K 8 mX12_run 173 [(0, (2, 120)), (2, (0, r41)), (3, (0, p173_3))] [] M (q_X12_run_120 a1 M0) := by
                        intro n173
                        induction n173 with
                        | zero => intro M p173_3 hS bp173_3 k173_120_59 k173_120_62 k173_120_63 k173_120_65 k173_120_66 k173_120_67 k173_120_70 k173_120_75 k173_120_79 k173_120_84 k173_120_85 k173_120_86 k173_120_87 k173_120_88 k173_120_89 k173_120_90 k173_120_91 k173_120_95 k173_120_96 t173_0 hm173; exact absurd hm173 (Nat.not_lt_zero _)
                        | succ n173 J173 =>
                          intro M p173_3 hS bp173_3 k173_120_59 k173_120_62 k173_120_63 k173_120_65 k173_120_66 k173_120_67 k173_120_70 k173_120_75 k173_120_79 k173_120_84 k173_120_85 k173_120_86 k173_120_87 k173_120_88 k173_120_89 k173_120_90 k173_120_91 k173_120_95 k173_120_96 t173_0 hm173
                          refine Tr.iload_n (pc := 173) (i := 3) d_X12_run_173 rfl rfl ?_
                          refine Tr.bipush (pc := 174) d_X12_run_174 rfl (by decide) ?_
                          refine Tr.icmp_ge (pc := 176) (tgt := 222) d_X12_run_176 rfl (fun c176 => ?_) (fun c176 => ?_)
                          · refine Tr.iload_n (pc := 222) (i := 2) d_X12_run_222 rfl rfl ?_
                            have kr_120_59 : rd M 120 59 = s41_120_59 := k173_120_59
                            exact Tr.iret (pc := 223) d_X12_run_223 rfl ⟨hS, _, rfl, by omega, by omega, by omega⟩
                          · refine Tr.aload_n (pc := 179) (i := 0) d_X12_run_179 rfl rfl ?_
                            refine Tr.getf (pc := 180) d_X12_run_180 f_12_297 (by decide) (by decide) (ty_120 hS.1.1) ?_
                            refine Tr.tp 175 (fx_120_94 hS.1.1) ?_
                            refine Tr.iload_n (pc := 183) (i := 3) d_X12_run_183 rfl rfl ?_
                            refine Tr.aload_n (pc := 184) (i := 0) d_X12_run_184 rfl rfl ?_
                            refine Tr.getf (pc := 185) d_X12_run_185 f_12_177 (by decide) (by decide) (ty_120 hS.1.1) ?_
                            refine Tr.tp 156 (fx_120_54 hS.1.1) ?_
                            refine Tr.iload_n (pc := 188) (i := 3) d_X12_run_188 rfl rfl ?_
                            refine Tr.zald (pc := 189) d_X12_run_189 (ty_156 hS.1.1) (by omega) (by omega) ?_
                            refine Tr.gen (P := fun v => 0 ≤ v ∧ v ≤ 1) (ar_156 hS.1.2.1 _) (fun r189 er189 br189 => ?_)
                            have J215 : ∀ (M : Mem) (q215_2 : Int), St Tru ws_X12_run_120 as_X12_run_120 M0 M → (0 ≤ q215_2 ∧ q215_2 ≤ 1) → rd M 120 59 = s41_120_59 → rd M 120 62 = r57 → rd M 120 63 = r65 → rd M 120 65 = r73 → rd M 120 66 = r81 → rd M 120 67 = r89 → rd M 120 70 = 0 → rd M 120 75 = r105 → rd M 120 79 = r113 → rd M 120 84 = r97 → rd M 120 85 = 1 → rd M 120 86 = r57 → rd M 120 87 = r65 → rd M 120 88 = r73 → rd M 120 89 = r81 → rd M 120 90 = r89 → rd M 120 91 = r97 → rd M 120 95 = r105 → rd M 120 96 = r113 → rd M 156 p173_3 = r189 → (s41_120_59 = -1) → Tr l K 8 mX12_run 215 [(0, (2, 120)), (2, (0, r41)), (3, (0, p173_3))] [(0, q215_2), (0, p173_3), (2, 175)] M (q_X12_run_120 a1 M0) := by
                              intro M q215_2 hS bq215_2 k215_120_59 k215_120_62 k215_120_63 k215_120_65 k215_120_66 k215_120_67 k215_120_70 k215_120_75 k215_120_79 k215_120_84 k215_120_85 k215_120_86 k215_120_87 k215_120_88 k215_120_89 k215_120_90 k215_120_91 k215_120_95 k215_120_96 k215_156_p173_310 t215_0
                              refine Tr.zastS (pc := 215) (P := St Tru ws_X12_run_120 as_X12_run_120 M0) d_X12_run_215 (ty_175 hS.1.1) (by omega) (by omega) (by omega) (sa_175 hS (by decide) (by omega) trivial) (fun M215 hS w215 => ?_)
                              refine Tr.iincV (pc := 216) (n2 := (p173_3 + 1)) (ls2 := [(3, (0, (p173_3 + 1))), (0, (2, 120)), (2, (0, r41))]) d_X12_run_216 rfl (by decide) ((w32_id (by omega)).trans (by omega)) rfl ?_
                              refine Tr.goto (pc := 219) (tgt := 173) d_X12_run_219 rfl ?_
                              refine Tr.pick [1, 2, 0] (ls2 := [(0, (2, 120)), (2, (0, r41)), (3, (0, (p173_3 + 1)))]) rfl ?_
                              exact J173 _ _ hS (by omega) ((Wr.b w215 rfl).trans k215_120_59) ((Wr.b w215 rfl).trans k215_120_62) ((Wr.b w215 rfl).trans k215_120_63) ((Wr.b w215 rfl).trans k215_120_65) ((Wr.b w215 rfl).trans k215_120_66) ((Wr.b w215 rfl).trans k215_120_67) ((Wr.b w215 rfl).trans k215_120_70) ((Wr.b w215 rfl).trans k215_120_75) ((Wr.b w215 rfl).trans k215_120_79) ((Wr.b w215 rfl).trans k215_120_84) ((Wr.b w215 rfl).trans k215_120_85) ((Wr.b w215 rfl).trans k215_120_86) ((Wr.b w215 rfl).trans k215_120_87) ((Wr.b w215 rfl).trans k215_120_88) ((Wr.b w215 rfl).trans k215_120_89) ((Wr.b w215 rfl).trans k215_120_90) ((Wr.b w215 rfl).trans k215_120_91) ((Wr.b w215 rfl).trans k215_120_95) ((Wr.b w215 rfl).trans k215_120_96) (by omega) (by omega)
                            have J214 : ∀ (M : Mem), St Tru ws_X12_run_120 as_X12_run_120 M0 M → rd M 120 59 = s41_120_59 → rd M 120 62 = r57 → rd M 120 63 = r65 → rd M 120 65 = r73 → rd M 120 66 = r81 → rd M 120 67 = r89 → rd M 120 70 = 0 → rd M 120 75 = r105 → rd M 120 79 = r113 → rd M 120 84 = r97 → rd M 120 85 = 1 → rd M 120 86 = r57 → rd M 120 87 = r65 → rd M 120 88 = r73 → rd M 120 89 = r81 → rd M 120 90 = r89 → rd M 120 91 = r97 → rd M 120 95 = r105 → rd M 120 96 = r113 → rd M 156 p173_3 = r189 → (s41_120_59 = -1) → Tr l K 8 mX12_run 214 [(0, (2, 120)), (2, (0, r41)), (3, (0, p173_3))] [(0, p173_3), (2, 175)] M (q_X12_run_120 a1 M0) := by
                              intro M  hS  k214_120_59 k214_120_62 k214_120_63 k214_120_65 k214_120_66 k214_120_67 k214_120_70 k214_120_75 k214_120_79 k214_120_84 k214_120_85 k214_120_86 k214_120_87 k214_120_88 k214_120_89 k214_120_90 k214_120_91 k214_120_95 k214_120_96 k214_156_p173_310 t214_0
                              refine Tr.iconst (pc := 214) d_X12_run_214 (by decide) ?_
                              refine Tr.pick [0, 1, 2] (ls2 := [(0, (2, 120)), (2, (0, r41)), (3, (0, p173_3))]) rfl ?_
                              exact J215 _ _ hS (by omega) k214_120_59 k214_120_62 k214_120_63 k214_120_65 k214_120_66 k214_120_67 k214_120_70 k214_120_75 k214_120_79 k214_120_84 k214_120_85 k214_120_86 k214_120_87 k214_120_88 k214_120_89 k214_120_90 k214_120_91 k214_120_95 k214_120_96 k214_156_p173_310 (by omega)
                            refine Tr.if_ne (pc := 190) (tgt := 214) d_X12_run_190 rfl (fun c190 => ?_) (fun c190 => ?_)
                            · refine Tr.pick [0, 1, 2] (ls2 := [(0, (2, 120)), (2, (0, r41)), (3, (0, p173_3))]) rfl ?_
                              exact J214 _ hS k173_120_59 k173_120_62 k173_120_63 k173_120_65 k173_120_66 k173_120_67 k173_120_70 k173_120_75 k173_120_79 k173_120_84 k173_120_85 k173_120_86 k173_120_87 k173_120_88 k173_120_89 k173_120_90 k173_120_91 k173_120_95 k173_120_96 er189 (by omega)
                            · refine Tr.aload_n (pc := 193) (i := 0) d_X12_run_193 rfl rfl ?_
                              refine Tr.getf (pc := 194) d_X12_run_194 f_12_183 (by decide) (by decide) (ty_120 hS.1.1) ?_
                              refine Tr.tp 158 (fx_120_56 hS.1.1) ?_
                              refine Tr.iload_n (pc := 197) (i := 3) d_X12_run_197 rfl rfl ?_
                              refine Tr.iald (pc := 198) d_X12_run_198 (ty_158 hS.1.1) (by omega) (by omega) ?_
                              refine Tr.gen (P := fun v => (-2147483648) ≤ v ∧ v ≤ 2147483647) (ar_158 hS.1.2.1 _) (fun r198 er198 br198 => ?_)
                              refine Tr.if_ne (pc := 199) (tgt := 214) d_X12_run_199 rfl (fun c199 => ?_) (fun c199 => ?_)
                              · refine Tr.pick [0, 1, 2] (ls2 := [(0, (2, 120)), (2, (0, r41)), (3, (0, p173_3))]) rfl ?_
                                exact J214 _ hS k173_120_59 k173_120_62 k173_120_63 k173_120_65 k173_120_66 k173_120_67 k173_120_70 k173_120_75 k173_120_79 k173_120_84 k173_120_85 k173_120_86 k173_120_87 k173_120_88 k173_120_89 k173_120_90 k173_120_91 k173_120_95 k173_120_96 er189 (by omega)
                              · refine Tr.iload_n (pc := 202) (i := 3) d_X12_run_202 rfl rfl ?_
                                refine Tr.aload_n (pc := 203) (i := 0) d_X12_run_203 rfl rfl ?_
                                refine Tr.getf (pc := 204) d_X12_run_204 f_12_195 (by decide) (by decide) (ty_120 hS.1.1) ?_
                                refine Tr.gen (P := fun v => (-2147483648) ≤ v ∧ v ≤ 2147483647) (ir_120_60 hS.1.2.1) (fun r204 er204 br204 => ?_)
                                refine Tr.icmp_eq (pc := 207) (tgt := 214) d_X12_run_207 rfl (fun c207 => ?_) (fun c207 => ?_)
                                · refine Tr.pick [0, 1, 2] (ls2 := [(0, (2, 120)), (2, (0, r41)), (3, (0, p173_3))]) rfl ?_
                                  exact J214 _ hS k173_120_59 k173_120_62 k173_120_63 k173_120_65 k173_120_66 k173_120_67 k173_120_70 k173_120_75 k173_120_79 k173_120_84 k173_120_85 k173_120_86 k173_120_87 k173_120_88 k173_120_89 k173_120_90 k173_120_91 k173_120_95 k173_120_96 er189 (by omega)
                                · refine Tr.iconst (pc := 210) d_X12_run_210 (by decide) ?_
                                  refine Tr.goto (pc := 211) (tgt := 215) d_X12_run_211 rfl ?_
                                  refine Tr.pick [0, 1, 2] (ls2 := [(0, (2, 120)), (2, (0, r41)), (3, (0, p173_3))]) rfl ?_
                                  exact J215 _ _ hS (by omega) k173_120_59 k173_120_62 k173_120_63 k173_120_65 k173_120_66 k173_120_67 k173_120_70 k173_120_75 k173_120_79 k173_120_84 k173_120_85 k173_120_86 k173_120_87 k173_120_88 k173_120_89 k173_120_90 k173_120_91 k173_120_95 k173_120_96 er189 (by omega)
                      refine Tr.pick [1, 2, 0] (ls2 := [(0, (2, 120)), (2, (0, r41)), (3, (0, 0))]) rfl ?_
                      exact J173 _ _ _ hS (by omega) k147_120_59 k147_120_62 k147_120_63 k147_120_65 k147_120_66 k147_120_67 k147_120_70 k147_120_75 k147_120_79 k147_120_84 k147_120_85 k147_120_86 k147_120_87 k147_120_88 k147_120_89 k147_120_90 k147_120_91 k147_120_95 k147_120_96 (by omega) (Nat.lt_succ_self _)
                    · refine Tr.aload_n (pc := 153) (i := 0) d_X12_run_153 rfl rfl ?_
                      refine Tr.getf (pc := 154) d_X12_run_154 f_12_294 (by decide) (by decide) (ty_120 hS.1.1) ?_
                      refine Tr.tp 174 (fx_120_93 hS.1.1) ?_
                      refine Tr.iload_n (pc := 157) (i := 3) d_X12_run_157 rfl rfl ?_
                      refine Tr.aload_n (pc := 158) (i := 0) d_X12_run_158 rfl rfl ?_
                      refine Tr.getf (pc := 159) d_X12_run_159 f_12_222 (by decide) (by decide) (ty_120 hS.1.1) ?_
                      refine Tr.tp 161 (fx_120_69 hS.1.1) ?_
                      refine Tr.iload_n (pc := 162) (i := 3) d_X12_run_162 rfl rfl ?_
                      refine Tr.iald (pc := 163) d_X12_run_163 (ty_161 hS.1.1) (by omega) (by omega) ?_
                      refine Tr.gen (P := fun v => (-2147483648) ≤ v ∧ v ≤ 2147483647) (ar_161 hS.1.2.1 _) (fun r163 er163 br163 => ?_)
                      refine Tr.iastS (pc := 164) (P := St Tru ws_X12_run_120 as_X12_run_120 M0) d_X12_run_164 (ty_174 hS.1.1) (by omega) (by omega) (sa_174 hS (by decide) (by omega) trivial) (fun M164 hS w164 => ?_)
                      refine Tr.iincV (pc := 165) (n2 := (p147_3 + 1)) (ls2 := [(3, (0, (p147_3 + 1))), (0, (2, 120)), (2, (0, r41))]) d_X12_run_165 rfl (by decide) ((w32_id (by omega)).trans (by omega)) rfl ?_
                      refine Tr.goto (pc := 168) (tgt := 147) d_X12_run_168 rfl ?_
                      refine Tr.pick [1, 2, 0] (ls2 := [(0, (2, 120)), (2, (0, r41)), (3, (0, (p147_3 + 1)))]) rfl ?_
                      exact J147 _ _ hS (by omega) ((Wr.b w164 rfl).trans k147_120_59) ((Wr.b w164 rfl).trans k147_120_62) ((Wr.b w164 rfl).trans k147_120_63) ((Wr.b w164 rfl).trans k147_120_65) ((Wr.b w164 rfl).trans k147_120_66) ((Wr.b w164 rfl).trans k147_120_67) ((Wr.b w164 rfl).trans k147_120_70) ((Wr.b w164 rfl).trans k147_120_75) ((Wr.b w164 rfl).trans k147_120_79) ((Wr.b w164 rfl).trans k147_120_84) ((Wr.b w164 rfl).trans k147_120_85) ((Wr.b w164 rfl).trans k147_120_86) ((Wr.b w164 rfl).trans k147_120_87) ((Wr.b w164 rfl).trans k147_120_88) ((Wr.b w164 rfl).trans k147_120_89) ((Wr.b w164 rfl).trans k147_120_90) ((Wr.b w164 rfl).trans k147_120_91) ((Wr.b w164 rfl).trans k147_120_95) ((Wr.b w164 rfl).trans k147_120_96) (by omega) (by omega)
                refine Tr.pick [1, 2, 0] (ls2 := [(0, (2, 120)), (2, (0, r41)), (3, (0, 0))]) rfl ?_
                exact J147 _ _ _ hS (by omega) k121_120_59 k121_120_62 k121_120_63 k121_120_65 k121_120_66 k121_120_67 k121_120_70 k121_120_75 k121_120_79 k121_120_84 k121_120_85 k121_120_86 k121_120_87 k121_120_88 k121_120_89 k121_120_90 k121_120_91 k121_120_95 k121_120_96 (by omega) (Nat.lt_succ_self _)
              · refine Tr.aload_n (pc := 127) (i := 0) d_X12_run_127 rfl rfl ?_
                refine Tr.getf (pc := 128) d_X12_run_128 f_12_291 (by decide) (by decide) (ty_120 hS.1.1) ?_
                refine Tr.tp 173 (fx_120_92 hS.1.1) ?_
                refine Tr.iload_n (pc := 131) (i := 3) d_X12_run_131 rfl rfl ?_
                refine Tr.aload_n (pc := 132) (i := 0) d_X12_run_132 rfl rfl ?_
                refine Tr.getf (pc := 133) d_X12_run_133 f_12_174 (by decide) (by decide) (ty_120 hS.1.1) ?_
                refine Tr.tp 155 (fx_120_53 hS.1.1) ?_
                refine Tr.iload_n (pc := 136) (i := 3) d_X12_run_136 rfl rfl ?_
                refine Tr.iald (pc := 137) d_X12_run_137 (ty_155 hS.1.1) (by omega) (by omega) ?_
                refine Tr.gen (P := fun v => (-2147483648) ≤ v ∧ v ≤ 2147483647) (ar_155 hS.1.2.1 _) (fun r137 er137 br137 => ?_)
                refine Tr.iastS (pc := 138) (P := St Tru ws_X12_run_120 as_X12_run_120 M0) d_X12_run_138 (ty_173 hS.1.1) (by omega) (by omega) (sa_173 hS (by decide) (by omega) trivial) (fun M138 hS w138 => ?_)
                refine Tr.iincV (pc := 139) (n2 := (p121_3 + 1)) (ls2 := [(3, (0, (p121_3 + 1))), (0, (2, 120)), (2, (0, r41))]) d_X12_run_139 rfl (by decide) ((w32_id (by omega)).trans (by omega)) rfl ?_
                refine Tr.goto (pc := 142) (tgt := 121) d_X12_run_142 rfl ?_
                refine Tr.pick [1, 2, 0] (ls2 := [(0, (2, 120)), (2, (0, r41)), (3, (0, (p121_3 + 1)))]) rfl ?_
                exact J121 _ _ hS (by omega) ((Wr.b w138 rfl).trans k121_120_59) ((Wr.b w138 rfl).trans k121_120_62) ((Wr.b w138 rfl).trans k121_120_63) ((Wr.b w138 rfl).trans k121_120_65) ((Wr.b w138 rfl).trans k121_120_66) ((Wr.b w138 rfl).trans k121_120_67) ((Wr.b w138 rfl).trans k121_120_70) ((Wr.b w138 rfl).trans k121_120_75) ((Wr.b w138 rfl).trans k121_120_79) ((Wr.b w138 rfl).trans k121_120_84) ((Wr.b w138 rfl).trans k121_120_85) ((Wr.b w138 rfl).trans k121_120_86) ((Wr.b w138 rfl).trans k121_120_87) ((Wr.b w138 rfl).trans k121_120_88) ((Wr.b w138 rfl).trans k121_120_89) ((Wr.b w138 rfl).trans k121_120_90) ((Wr.b w138 rfl).trans k121_120_91) ((Wr.b w138 rfl).trans k121_120_95) ((Wr.b w138 rfl).trans k121_120_96) (by omega) (by omega)
          refine Tr.pick [2, 1, 0] (ls2 := [(0, (2, 120)), (2, (0, r41)), (3, (0, 0))]) rfl ?_
          exact J121 _ _ _ hS (by omega) ((Wr.b w116 rfl).trans ((Wr.b w108 rfl).trans ((Wr.b w100 rfl).trans ((Wr.b w92 rfl).trans ((Wr.b w84 rfl).trans ((Wr.b w76 rfl).trans ((Wr.b w68 rfl).trans ((Wr.b w60 rfl).trans ((Wr.b w52 rfl).trans ((Wr.b w47 rfl).trans es41_120_59)))))))))) ((Wr.b w116 rfl).trans ((Wr.b w108 rfl).trans ((Wr.b w100 rfl).trans ((Wr.b w92 rfl).trans ((Wr.b w84 rfl).trans ((Wr.b w76 rfl).trans ((Wr.b w68 rfl).trans ((Wr.b w60 rfl).trans er57)))))))) ((Wr.b w116 rfl).trans ((Wr.b w108 rfl).trans ((Wr.b w100 rfl).trans ((Wr.b w92 rfl).trans ((Wr.b w84 rfl).trans ((Wr.b w76 rfl).trans ((Wr.b w68 rfl).trans er65))))))) ((Wr.b w116 rfl).trans ((Wr.b w108 rfl).trans ((Wr.b w100 rfl).trans ((Wr.b w92 rfl).trans ((Wr.b w84 rfl).trans ((Wr.b w76 rfl).trans er73)))))) ((Wr.b w116 rfl).trans ((Wr.b w108 rfl).trans ((Wr.b w100 rfl).trans ((Wr.b w92 rfl).trans ((Wr.b w84 rfl).trans er81))))) ((Wr.b w116 rfl).trans ((Wr.b w108 rfl).trans ((Wr.b w100 rfl).trans ((Wr.b w92 rfl).trans er89)))) ((Wr.b w116 rfl).trans ((Wr.b w108 rfl).trans ((Wr.b w100 rfl).trans ((Wr.b w92 rfl).trans ((Wr.b w84 rfl).trans ((Wr.b w76 rfl).trans ((Wr.b w68 rfl).trans ((Wr.b w60 rfl).trans ((Wr.b w52 rfl).trans w47.1))))))))) ((Wr.b w116 rfl).trans ((Wr.b w108 rfl).trans er105)) ((Wr.b w116 rfl).trans er113) ((Wr.b w116 rfl).trans ((Wr.b w108 rfl).trans ((Wr.b w100 rfl).trans er97))) ((Wr.b w116 rfl).trans ((Wr.b w108 rfl).trans ((Wr.b w100 rfl).trans ((Wr.b w92 rfl).trans ((Wr.b w84 rfl).trans ((Wr.b w76 rfl).trans ((Wr.b w68 rfl).trans ((Wr.b w60 rfl).trans w52.1)))))))) ((Wr.b w116 rfl).trans ((Wr.b w108 rfl).trans ((Wr.b w100 rfl).trans ((Wr.b w92 rfl).trans ((Wr.b w84 rfl).trans ((Wr.b w76 rfl).trans ((Wr.b w68 rfl).trans w60.1))))))) ((Wr.b w116 rfl).trans ((Wr.b w108 rfl).trans ((Wr.b w100 rfl).trans ((Wr.b w92 rfl).trans ((Wr.b w84 rfl).trans ((Wr.b w76 rfl).trans w68.1)))))) ((Wr.b w116 rfl).trans ((Wr.b w108 rfl).trans ((Wr.b w100 rfl).trans ((Wr.b w92 rfl).trans ((Wr.b w84 rfl).trans w76.1))))) ((Wr.b w116 rfl).trans ((Wr.b w108 rfl).trans ((Wr.b w100 rfl).trans ((Wr.b w92 rfl).trans w84.1)))) ((Wr.b w116 rfl).trans ((Wr.b w108 rfl).trans ((Wr.b w100 rfl).trans w92.1))) ((Wr.b w116 rfl).trans ((Wr.b w108 rfl).trans w100.1)) ((Wr.b w116 rfl).trans w108.1) w116.1 (by omega) (Nat.lt_succ_self _)
        · refine Tr.aload_n (pc := 15) (i := 0) d_X12_run_15 rfl rfl ?_
          refine Tr.getf (pc := 16) d_X12_run_16 f_12_171 (by decide) (by decide) (ty_120 hS.1.1) ?_
          refine Tr.tp 154 (fx_120_52 hS.1.1) ?_
          refine Tr.iload_n (pc := 19) (i := 2) d_X12_run_19 rfl rfl ?_
          refine Tr.aload_n (pc := 20) (i := 0) d_X12_run_20 rfl rfl ?_
          refine Tr.getf (pc := 21) d_X12_run_21 f_12_168 (by decide) (by decide) (ty_120 hS.1.1) ?_
          refine Tr.tp 153 (fx_120_51 hS.1.1) ?_
          refine Tr.iload_n (pc := 24) (i := 2) d_X12_run_24 rfl rfl ?_
          refine Tr.iald (pc := 25) d_X12_run_25 (ty_153 hS.1.1) (by omega) (by omega) ?_
          refine Tr.gen (P := fun v => (-2147483648) ≤ v ∧ v ≤ 2147483647) (ar_153 hS.1.2.1 _) (fun r25 er25 br25 => ?_)
          refine Tr.iastS (pc := 26) (P := St Tru ws_X12_run_120 as_X12_run_120 M0) d_X12_run_26 (ty_154 hS.1.1) (by omega) (by omega) (sa_154 hS (by decide) (by omega) trivial) (fun M26 hS w26 => ?_)
          refine Tr.iincV (pc := 27) (n2 := (p10_2 + 1)) (ls2 := [(2, (0, (p10_2 + 1))), (0, (2, 120)), (1, (0, a1))]) d_X12_run_27 rfl (by decide) ((w32_id (by omega)).trans (by omega)) rfl ?_
          refine Tr.goto (pc := 30) (tgt := 10) d_X12_run_30 rfl ?_
          refine Tr.pick [1, 2, 0] (ls2 := [(0, (2, 120)), (1, (0, a1)), (2, (0, (p10_2 + 1)))]) rfl ?_
          exact J10 _ _ hS (by omega) ((Wr.b w26 rfl).trans k10_120_59) (by omega) (by omega)
    refine Tr.pick [1, 2, 0] (ls2 := [(0, (2, 120)), (1, (0, a1)), (2, (0, 0))]) rfl ?_
    exact J10 _ _ _ hS (by omega) eg120_59 (by omega) (Nat.lt_succ_self _)
  · refine Tr.bipush (pc := 5) d_X12_run_5 rfl (by decide) ?_
    have kr_120_59 : rd M0 120 59 = g120_59 := eg120_59
    exact Tr.iret (pc := 7) d_X12_run_7 rfl ⟨hS, _, rfl, by omega, by omega, by omega⟩

def ws_X12_isLetter : List (Int × Int) := []
def as_X12_isLetter : List Int := []
def q_X12_isLetter (a0 : Int) (M0 M' : Mem) (r : Option PV) : Prop := St Tru ws_X12_isLetter as_X12_isLetter M0 M' ∧ ∃ v : Int, r = some (0, v) ∧ 0 ≤ v ∧ v ≤ 1 ∧ ((v = 1 ∧ 97 ≤ a0 ∧ a0 ≤ 122) ∨ (v = 0 ∧ (a0 < 97 ∨ 122 < a0)))
set_option maxRecDepth 100000 in
set_option maxHeartbeats 4000000 in
theorem sp_X12_isLetter {l : Launch} {K : EC} {M0 : Mem} (hI : In Tru M0)  (a0 : Int) (ha0 : (-2147483648) ≤ a0 ∧ a0 ≤ 2147483647)  : Tr l K 0 mX12_isLetter 0 [(0, (0, a0))] [] M0 (q_X12_isLetter a0 M0) := by
  have hS : St Tru ws_X12_isLetter as_X12_isLetter M0 M0 := St.rf hI
  refine Tr.iload_n (pc := 0) (i := 0) d_X12_isLetter_0 rfl rfl ?_
  refine Tr.bipush (pc := 1) d_X12_isLetter_1 rfl (by decide) ?_
  refine Tr.icmp_lt (pc := 3) (tgt := 16) d_X12_isLetter_3 rfl (fun c3 => ?_) (fun c3 => ?_)
  · refine Tr.iconst (pc := 16) d_X12_isLetter_16 (by decide) ?_
    exact Tr.zret (pc := 17) d_X12_isLetter_17 rfl (by omega) ⟨hS, _, rfl, by omega, by omega, by omega⟩
  · refine Tr.iload_n (pc := 6) (i := 0) d_X12_isLetter_6 rfl rfl ?_
    refine Tr.bipush (pc := 7) d_X12_isLetter_7 rfl (by decide) ?_
    refine Tr.icmp_gt (pc := 9) (tgt := 16) d_X12_isLetter_9 rfl (fun c9 => ?_) (fun c9 => ?_)
    · refine Tr.iconst (pc := 16) d_X12_isLetter_16 (by decide) ?_
      exact Tr.zret (pc := 17) d_X12_isLetter_17 rfl (by omega) ⟨hS, _, rfl, by omega, by omega, by omega⟩
    · refine Tr.iconst (pc := 12) d_X12_isLetter_12 (by decide) ?_
      refine Tr.goto (pc := 13) (tgt := 17) d_X12_isLetter_13 rfl ?_
      exact Tr.zret (pc := 17) d_X12_isLetter_17 rfl (by omega) ⟨hS, _, rfl, by omega, by omega, by omega⟩

def ws_X12_isDigit : List (Int × Int) := []
def as_X12_isDigit : List Int := []
def q_X12_isDigit (a0 : Int) (M0 M' : Mem) (r : Option PV) : Prop := St Tru ws_X12_isDigit as_X12_isDigit M0 M' ∧ ∃ v : Int, r = some (0, v) ∧ 0 ≤ v ∧ v ≤ 1 ∧ ((v = 1 ∧ 48 ≤ a0 ∧ a0 ≤ 57) ∨ (v = 0 ∧ (a0 < 48 ∨ 57 < a0)))
set_option maxRecDepth 100000 in
set_option maxHeartbeats 4000000 in
theorem sp_X12_isDigit {l : Launch} {K : EC} {M0 : Mem} (hI : In Tru M0)  (a0 : Int) (ha0 : (-2147483648) ≤ a0 ∧ a0 ≤ 2147483647)  : Tr l K 0 mX12_isDigit 0 [(0, (0, a0))] [] M0 (q_X12_isDigit a0 M0) := by
  have hS : St Tru ws_X12_isDigit as_X12_isDigit M0 M0 := St.rf hI
  refine Tr.iload_n (pc := 0) (i := 0) d_X12_isDigit_0 rfl rfl ?_
  refine Tr.bipush (pc := 1) d_X12_isDigit_1 rfl (by decide) ?_
  refine Tr.icmp_lt (pc := 3) (tgt := 16) d_X12_isDigit_3 rfl (fun c3 => ?_) (fun c3 => ?_)
  · refine Tr.iconst (pc := 16) d_X12_isDigit_16 (by decide) ?_
    exact Tr.zret (pc := 17) d_X12_isDigit_17 rfl (by omega) ⟨hS, _, rfl, by omega, by omega, by omega⟩
  · refine Tr.iload_n (pc := 6) (i := 0) d_X12_isDigit_6 rfl rfl ?_
    refine Tr.bipush (pc := 7) d_X12_isDigit_7 rfl (by decide) ?_
    refine Tr.icmp_gt (pc := 9) (tgt := 16) d_X12_isDigit_9 rfl (fun c9 => ?_) (fun c9 => ?_)
    · refine Tr.iconst (pc := 16) d_X12_isDigit_16 (by decide) ?_
      exact Tr.zret (pc := 17) d_X12_isDigit_17 rfl (by omega) ⟨hS, _, rfl, by omega, by omega, by omega⟩
    · refine Tr.iconst (pc := 12) d_X12_isDigit_12 (by decide) ?_
      refine Tr.goto (pc := 13) (tgt := 17) d_X12_isDigit_13 rfl ?_
      exact Tr.zret (pc := 17) d_X12_isDigit_17 rfl (by omega) ⟨hS, _, rfl, by omega, by omega, by omega⟩

def ws_X12_isWord_120 : List (Int × Int) := []
def as_X12_isWord_120 : List Int := []
def q_X12_isWord_120 (a1 : Int) (M0 M' : Mem) (r : Option PV) : Prop := St Tru ws_X12_isWord_120 as_X12_isWord_120 M0 M' ∧ ∃ v : Int, r = some (0, v) ∧ 0 ≤ v ∧ v ≤ 1 ∧ ((v = 1 ∧ rd M' 120 3 = 1 ∧ rd M' 120 7 = a1) ∨ (v = 0 ∧ (rd M' 120 3 ≠ 1 ∨ rd M' 120 7 ≠ a1)))
set_option maxRecDepth 100000 in
set_option maxHeartbeats 4000000 in
theorem sp_X12_isWord_120 {l : Launch} {K : EC} {M0 : Mem} (hI : In Tru M0)  (a1 : Int) (ha1 : (-9223372036854775808) ≤ a1 ∧ a1 ≤ 9223372036854775807)  : Tr l K 0 mX12_isWord 0 [(0, (2, 120)), (1, (1, a1))] [] M0 (q_X12_isWord_120 a1 M0) := by
  have hS : St Tru ws_X12_isWord_120 as_X12_isWord_120 M0 M0 := St.rf hI
  obtain ⟨g120_3, eg120_3⟩ : ∃ v, rd M0 120 3 = v := ⟨_, rfl⟩
  have bg120_3 : 0 ≤ g120_3 ∧ g120_3 ≤ 3 := by rw [← eg120_3]; exact ir_120_3 hI.2.1
  obtain ⟨g120_7, eg120_7⟩ : ∃ v, rd M0 120 7 = v := ⟨_, rfl⟩
  have bg120_7 : (-9223372036854775808) ≤ g120_7 ∧ g120_7 ≤ 9223372036854775807 := by rw [← eg120_7]; exact ir_120_7 hI.2.1
  refine Tr.aload_n (pc := 0) (i := 0) d_X12_isWord_0 rfl rfl ?_
  refine Tr.getf (pc := 1) d_X12_isWord_1 f_12_20 (by decide) (by decide) (ty_120 hS.1.1) ?_
  refine Tr.tp g120_3 eg120_3 ?_
  refine Tr.iconst (pc := 4) d_X12_isWord_4 (by decide) ?_
  refine Tr.icmp_ne (pc := 5) (tgt := 21) d_X12_isWord_5 rfl (fun c5 => ?_) (fun c5 => ?_)
  · refine Tr.iconst (pc := 21) d_X12_isWord_21 (by decide) ?_
    have kr_120_3 : rd M0 120 3 = g120_3 := eg120_3
    have kr_120_7 : rd M0 120 7 = g120_7 := eg120_7
    exact Tr.zret (pc := 22) d_X12_isWord_22 rfl (by omega) ⟨hS, _, rfl, by omega, by omega, by omega⟩
  · refine Tr.aload_n (pc := 8) (i := 0) d_X12_isWord_8 rfl rfl ?_
    refine Tr.getf (pc := 9) d_X12_isWord_9 f_12_32 (by decide) (by decide) (ty_120 hS.1.1) ?_
    refine Tr.tp g120_7 eg120_7 ?_
    refine Tr.lload_n (pc := 12) (i := 1) d_X12_isWord_12 rfl rfl ?_
    refine Tr.lcmp (pc := 13) d_X12_isWord_13 ?_
    refine Tr.gen (P := fun v => (v = 1 ∧ a1 < g120_7) ∨ (v = 0 ∧ g120_7 = a1) ∨ (v = -1 ∧ g120_7 < a1)) (f_lcmp_c _ _) (fun r13 er13 br13 => ?_)
    refine Tr.if_ne (pc := 14) (tgt := 21) d_X12_isWord_14 rfl (fun c14 => ?_) (fun c14 => ?_)
    · refine Tr.iconst (pc := 21) d_X12_isWord_21 (by decide) ?_
      have kr_120_3 : rd M0 120 3 = g120_3 := eg120_3
      have kr_120_7 : rd M0 120 7 = g120_7 := eg120_7
      exact Tr.zret (pc := 22) d_X12_isWord_22 rfl (by omega) ⟨hS, _, rfl, by omega, by omega, by omega⟩
    · refine Tr.iconst (pc := 17) d_X12_isWord_17 (by decide) ?_
      refine Tr.goto (pc := 18) (tgt := 22) d_X12_isWord_18 rfl ?_
      have kr_120_3 : rd M0 120 3 = g120_3 := eg120_3
      have kr_120_7 : rd M0 120 7 = g120_7 := eg120_7
      exact Tr.zret (pc := 22) d_X12_isWord_22 rfl (by omega) ⟨hS, _, rfl, by omega, by omega, by omega⟩

def ws_X12_isOwn_120 : List (Int × Int) := []
def as_X12_isOwn_120 : List Int := []
def q_X12_isOwn_120 (M0 M' : Mem) (r : Option PV) : Prop := St Tru ws_X12_isOwn_120 as_X12_isOwn_120 M0 M' ∧ ∃ v : Int, r = some (0, v) ∧ 0 ≤ v ∧ v ≤ 1
set_option maxRecDepth 100000 in
set_option maxHeartbeats 4000000 in
theorem sp_X12_isOwn_120 {l : Launch} {K : EC} {M0 : Mem} (hI : In Tru M0)  (a1 : Int) (ha1 : (-9223372036854775808) ≤ a1 ∧ a1 ≤ 9223372036854775807)  : Tr l K 0 mX12_isOwn 0 [(0, (2, 120)), (1, (1, a1))] [] M0 (q_X12_isOwn_120 M0) := by
  have hS : St Tru ws_X12_isOwn_120 as_X12_isOwn_120 M0 M0 := St.rf hI
  refine Tr.lload_n (pc := 0) (i := 1) d_X12_isOwn_0 rfl rfl ?_
  refine Tr.ldc2 (pc := 1) d_X12_isOwn_1 kl_12_399 (by decide) ?_
  refine Tr.lcmp (pc := 4) d_X12_isOwn_4 ?_
  refine Tr.gen (P := fun v => (v = 1 ∧ 448377483892 < a1) ∨ (v = 0 ∧ a1 = 448377483892) ∨ (v = -1 ∧ a1 < 448377483892)) (f_lcmp_c _ _) (fun r4 er4 br4 => ?_)
  refine Tr.if_eq (pc := 5) (tgt := 40) d_X12_isOwn_5 rfl (fun c5 => ?_) (fun c5 => ?_)
  · refine Tr.iconst (pc := 40) d_X12_isOwn_40 (by decide) ?_
    exact Tr.zret (pc := 41) d_X12_isOwn_41 rfl (by omega) ⟨hS, _, rfl, by omega, by omega⟩
  · refine Tr.lload_n (pc := 8) (i := 1) d_X12_isOwn_8 rfl rfl ?_
    refine Tr.ldc2 (pc := 9) d_X12_isOwn_9 kl_12_401 (by decide) ?_
    refine Tr.lcmp (pc := 12) d_X12_isOwn_12 ?_
    refine Tr.gen (P := fun v => (v = 1 ∧ 426835667045 < a1) ∨ (v = 0 ∧ a1 = 426835667045) ∨ (v = -1 ∧ a1 < 426835667045)) (f_lcmp_c _ _) (fun r12 er12 br12 => ?_)
    refine Tr.if_eq (pc := 13) (tgt := 40) d_X12_isOwn_13 rfl (fun c13 => ?_) (fun c13 => ?_)
    · refine Tr.iconst (pc := 40) d_X12_isOwn_40 (by decide) ?_
      exact Tr.zret (pc := 41) d_X12_isOwn_41 rfl (by omega) ⟨hS, _, rfl, by omega, by omega⟩
    · refine Tr.lload_n (pc := 16) (i := 1) d_X12_isOwn_16 rfl rfl ?_
      refine Tr.ldc2 (pc := 17) d_X12_isOwn_17 kl_12_403 (by decide) ?_
      refine Tr.lcmp (pc := 20) d_X12_isOwn_20 ?_
      refine Tr.gen (P := fun v => (v = 1 ∧ 1885434484 < a1) ∨ (v = 0 ∧ a1 = 1885434484) ∨ (v = -1 ∧ a1 < 1885434484)) (f_lcmp_c _ _) (fun r20 er20 br20 => ?_)
      refine Tr.if_eq (pc := 21) (tgt := 40) d_X12_isOwn_21 rfl (fun c21 => ?_) (fun c21 => ?_)
      · refine Tr.iconst (pc := 40) d_X12_isOwn_40 (by decide) ?_
        exact Tr.zret (pc := 41) d_X12_isOwn_41 rfl (by omega) ⟨hS, _, rfl, by omega, by omega⟩
      · refine Tr.lload_n (pc := 24) (i := 1) d_X12_isOwn_24 rfl rfl ?_
        refine Tr.ldc2 (pc := 25) d_X12_isOwn_25 kl_12_405 (by decide) ?_
        refine Tr.lcmp (pc := 28) d_X12_isOwn_28 ?_
        refine Tr.gen (P := fun v => (v = 1 ∧ 495739823472 < a1) ∨ (v = 0 ∧ a1 = 495739823472) ∨ (v = -1 ∧ a1 < 495739823472)) (f_lcmp_c _ _) (fun r28 er28 br28 => ?_)
        refine Tr.if_eq (pc := 29) (tgt := 40) d_X12_isOwn_29 rfl (fun c29 => ?_) (fun c29 => ?_)
        · refine Tr.iconst (pc := 40) d_X12_isOwn_40 (by decide) ?_
          exact Tr.zret (pc := 41) d_X12_isOwn_41 rfl (by omega) ⟨hS, _, rfl, by omega, by omega⟩
        · refine Tr.lload_n (pc := 32) (i := 1) d_X12_isOwn_32 rfl rfl ?_
          refine Tr.ldc2 (pc := 33) d_X12_isOwn_33 kl_12_407 (by decide) ?_
          refine Tr.lcmp (pc := 36) d_X12_isOwn_36 ?_
          refine Tr.gen (P := fun v => (v = 1 ∧ 2002873189 < a1) ∨ (v = 0 ∧ a1 = 2002873189) ∨ (v = -1 ∧ a1 < 2002873189)) (f_lcmp_c _ _) (fun r36 er36 br36 => ?_)
          refine Tr.if_ne (pc := 37) (tgt := 42) d_X12_isOwn_37 rfl (fun c37 => ?_) (fun c37 => ?_)
          · refine Tr.lload_n (pc := 42) (i := 1) d_X12_isOwn_42 rfl rfl ?_
            refine Tr.ldc2 (pc := 43) d_X12_isOwn_43 kl_12_409 (by decide) ?_
            refine Tr.lcmp (pc := 46) d_X12_isOwn_46 ?_
            refine Tr.gen (P := fun v => (v = 1 ∧ 28526 < a1) ∨ (v = 0 ∧ a1 = 28526) ∨ (v = -1 ∧ a1 < 28526)) (f_lcmp_c _ _) (fun r46 er46 br46 => ?_)
            refine Tr.if_eq (pc := 47) (tgt := 82) d_X12_isOwn_47 rfl (fun c47 => ?_) (fun c47 => ?_)
            · refine Tr.iconst (pc := 82) d_X12_isOwn_82 (by decide) ?_
              exact Tr.zret (pc := 83) d_X12_isOwn_83 rfl (by omega) ⟨hS, _, rfl, by omega, by omega⟩
            · refine Tr.lload_n (pc := 50) (i := 1) d_X12_isOwn_50 rfl rfl ?_
              refine Tr.ldc2 (pc := 51) d_X12_isOwn_51 kl_12_411 (by decide) ?_
              refine Tr.lcmp (pc := 54) d_X12_isOwn_54 ?_
              refine Tr.gen (P := fun v => (v = 1 ∧ 2003792491 < a1) ∨ (v = 0 ∧ a1 = 2003792491) ∨ (v = -1 ∧ a1 < 2003792491)) (f_lcmp_c _ _) (fun r54 er54 br54 => ?_)
              refine Tr.if_eq (pc := 55) (tgt := 82) d_X12_isOwn_55 rfl (fun c55 => ?_) (fun c55 => ?_)
              · refine Tr.iconst (pc := 82) d_X12_isOwn_82 (by decide) ?_
                exact Tr.zret (pc := 83) d_X12_isOwn_83 rfl (by omega) ⟨hS, _, rfl, by omega, by omega⟩
              · refine Tr.lload_n (pc := 58) (i := 1) d_X12_isOwn_58 rfl rfl ?_
                refine Tr.ldc2 (pc := 59) d_X12_isOwn_59 kl_12_413 (by decide) ?_
                refine Tr.lcmp (pc := 62) d_X12_isOwn_62 ?_
                refine Tr.gen (P := fun v => (v = 1 ∧ 1952541036 < a1) ∨ (v = 0 ∧ a1 = 1952541036) ∨ (v = -1 ∧ a1 < 1952541036)) (f_lcmp_c _ _) (fun r62 er62 br62 => ?_)
                refine Tr.if_eq (pc := 63) (tgt := 82) d_X12_isOwn_63 rfl (fun c63 => ?_) (fun c63 => ?_)
                · refine Tr.iconst (pc := 82) d_X12_isOwn_82 (by decide) ?_
                  exact Tr.zret (pc := 83) d_X12_isOwn_83 rfl (by omega) ⟨hS, _, rfl, by omega, by omega⟩
                · refine Tr.lload_n (pc := 66) (i := 1) d_X12_isOwn_66 rfl rfl ?_
                  refine Tr.ldc2 (pc := 67) d_X12_isOwn_67 kl_12_415 (by decide) ?_
                  refine Tr.lcmp (pc := 70) d_X12_isOwn_70 ?_
                  refine Tr.gen (P := fun v => (v = 1 ∧ 452824429940 < a1) ∨ (v = 0 ∧ a1 = 452824429940) ∨ (v = -1 ∧ a1 < 452824429940)) (f_lcmp_c _ _) (fun r70 er70 br70 => ?_)
                  refine Tr.if_eq (pc := 71) (tgt := 82) d_X12_isOwn_71 rfl (fun c71 => ?_) (fun c71 => ?_)
                  · refine Tr.iconst (pc := 82) d_X12_isOwn_82 (by decide) ?_
                    exact Tr.zret (pc := 83) d_X12_isOwn_83 rfl (by omega) ⟨hS, _, rfl, by omega, by omega⟩
                  · refine Tr.lload_n (pc := 74) (i := 1) d_X12_isOwn_74 rfl rfl ?_
                    refine Tr.ldc2 (pc := 75) d_X12_isOwn_75 kl_12_417 (by decide) ?_
                    refine Tr.lcmp (pc := 78) d_X12_isOwn_78 ?_
                    refine Tr.gen (P := fun v => (v = 1 ∧ 7758194 < a1) ∨ (v = 0 ∧ a1 = 7758194) ∨ (v = -1 ∧ a1 < 7758194)) (f_lcmp_c _ _) (fun r78 er78 br78 => ?_)
                    refine Tr.if_ne (pc := 79) (tgt := 84) d_X12_isOwn_79 rfl (fun c79 => ?_) (fun c79 => ?_)
                    · refine Tr.lload_n (pc := 84) (i := 1) d_X12_isOwn_84 rfl rfl ?_
                      refine Tr.ldc2 (pc := 85) d_X12_isOwn_85 kl_12_419 (by decide) ?_
                      refine Tr.lcmp (pc := 88) d_X12_isOwn_88 ?_
                      refine Tr.gen (P := fun v => (v = 1 ∧ 7562612 < a1) ∨ (v = 0 ∧ a1 = 7562612) ∨ (v = -1 ∧ a1 < 7562612)) (f_lcmp_c _ _) (fun r88 er88 br88 => ?_)
                      refine Tr.if_eq (pc := 89) (tgt := 124) d_X12_isOwn_89 rfl (fun c89 => ?_) (fun c89 => ?_)
                      · refine Tr.iconst (pc := 124) d_X12_isOwn_124 (by decide) ?_
                        exact Tr.zret (pc := 125) d_X12_isOwn_125 rfl (by omega) ⟨hS, _, rfl, by omega, by omega⟩
                      · refine Tr.lload_n (pc := 92) (i := 1) d_X12_isOwn_92 rfl rfl ?_
                        refine Tr.ldc2 (pc := 93) d_X12_isOwn_93 kl_12_421 (by decide) ?_
                        refine Tr.lcmp (pc := 96) d_X12_isOwn_96 ?_
                        refine Tr.gen (P := fun v => (v = 1 ∧ 7697253 < a1) ∨ (v = 0 ∧ a1 = 7697253) ∨ (v = -1 ∧ a1 < 7697253)) (f_lcmp_c _ _) (fun r96 er96 br96 => ?_)
                        refine Tr.if_eq (pc := 97) (tgt := 124) d_X12_isOwn_97 rfl (fun c97 => ?_) (fun c97 => ?_)
                        · refine Tr.iconst (pc := 124) d_X12_isOwn_124 (by decide) ?_
                          exact Tr.zret (pc := 125) d_X12_isOwn_125 rfl (by omega) ⟨hS, _, rfl, by omega, by omega⟩
                        · refine Tr.lload_n (pc := 100) (i := 1) d_X12_isOwn_100 rfl rfl ?_
                          refine Tr.ldc2 (pc := 101) d_X12_isOwn_101 kl_12_423 (by decide) ?_
                          refine Tr.lcmp (pc := 104) d_X12_isOwn_104 ?_
                          refine Tr.gen (P := fun v => (v = 1 ∧ 1752132708 < a1) ∨ (v = 0 ∧ a1 = 1752132708) ∨ (v = -1 ∧ a1 < 1752132708)) (f_lcmp_c _ _) (fun r104 er104 br104 => ?_)
                          refine Tr.if_eq (pc := 105) (tgt := 124) d_X12_isOwn_105 rfl (fun c105 => ?_) (fun c105 => ?_)
                          · refine Tr.iconst (pc := 124) d_X12_isOwn_124 (by decide) ?_
                            exact Tr.zret (pc := 125) d_X12_isOwn_125 rfl (by omega) ⟨hS, _, rfl, by omega, by omega⟩
                          · refine Tr.lload_n (pc := 108) (i := 1) d_X12_isOwn_108 rfl rfl ?_
                            refine Tr.ldc2 (pc := 109) d_X12_isOwn_109 kl_12_425 (by decide) ?_
                            refine Tr.lcmp (pc := 112) d_X12_isOwn_112 ?_
                            refine Tr.gen (P := fun v => (v = 1 ∧ 1718773093 < a1) ∨ (v = 0 ∧ a1 = 1718773093) ∨ (v = -1 ∧ a1 < 1718773093)) (f_lcmp_c _ _) (fun r112 er112 br112 => ?_)
                            refine Tr.if_eq (pc := 113) (tgt := 124) d_X12_isOwn_113 rfl (fun c113 => ?_) (fun c113 => ?_)
                            · refine Tr.iconst (pc := 124) d_X12_isOwn_124 (by decide) ?_
                              exact Tr.zret (pc := 125) d_X12_isOwn_125 rfl (by omega) ⟨hS, _, rfl, by omega, by omega⟩
                            · refine Tr.lload_n (pc := 116) (i := 1) d_X12_isOwn_116 rfl rfl ?_
                              refine Tr.ldc2 (pc := 117) d_X12_isOwn_117 kl_12_427 (by decide) ?_
                              refine Tr.lcmp (pc := 120) d_X12_isOwn_120 ?_
                              refine Tr.gen (P := fun v => (v = 1 ∧ 2002872692 < a1) ∨ (v = 0 ∧ a1 = 2002872692) ∨ (v = -1 ∧ a1 < 2002872692)) (f_lcmp_c _ _) (fun r120 er120 br120 => ?_)
                              refine Tr.if_ne (pc := 121) (tgt := 126) d_X12_isOwn_121 rfl (fun c121 => ?_) (fun c121 => ?_)
                              · refine Tr.lload_n (pc := 126) (i := 1) d_X12_isOwn_126 rfl rfl ?_
                                refine Tr.ldc2 (pc := 127) d_X12_isOwn_127 kl_12_429 (by decide) ?_
                                refine Tr.lcmp (pc := 130) d_X12_isOwn_130 ?_
                                refine Tr.gen (P := fun v => (v = 1 ∧ 500086170472 < a1) ∨ (v = 0 ∧ a1 = 500086170472) ∨ (v = -1 ∧ a1 < 500086170472)) (f_lcmp_c _ _) (fun r130 er130 br130 => ?_)
                                refine Tr.if_eq (pc := 131) (tgt := 166) d_X12_isOwn_131 rfl (fun c131 => ?_) (fun c131 => ?_)
                                · refine Tr.iconst (pc := 166) d_X12_isOwn_166 (by decide) ?_
                                  exact Tr.zret (pc := 167) d_X12_isOwn_167 rfl (by omega) ⟨hS, _, rfl, by omega, by omega⟩
                                · refine Tr.lload_n (pc := 134) (i := 1) d_X12_isOwn_134 rfl rfl ?_
                                  refine Tr.ldc2 (pc := 135) d_X12_isOwn_135 kl_12_431 (by decide) ?_
                                  refine Tr.lcmp (pc := 138) d_X12_isOwn_138 ?_
                                  refine Tr.gen (P := fun v => (v = 1 ∧ 26982 < a1) ∨ (v = 0 ∧ a1 = 26982) ∨ (v = -1 ∧ a1 < 26982)) (f_lcmp_c _ _) (fun r138 er138 br138 => ?_)
                                  refine Tr.if_eq (pc := 139) (tgt := 166) d_X12_isOwn_139 rfl (fun c139 => ?_) (fun c139 => ?_)
                                  · refine Tr.iconst (pc := 166) d_X12_isOwn_166 (by decide) ?_
                                    exact Tr.zret (pc := 167) d_X12_isOwn_167 rfl (by omega) ⟨hS, _, rfl, by omega, by omega⟩
                                  · refine Tr.lload_n (pc := 142) (i := 1) d_X12_isOwn_142 rfl rfl ?_
                                    refine Tr.ldc2 (pc := 143) d_X12_isOwn_143 kl_12_433 (by decide) ?_
                                    refine Tr.lcmp (pc := 146) d_X12_isOwn_146 ?_
                                    refine Tr.gen (P := fun v => (v = 1 ∧ 1701606245 < a1) ∨ (v = 0 ∧ a1 = 1701606245) ∨ (v = -1 ∧ a1 < 1701606245)) (f_lcmp_c _ _) (fun r146 er146 br146 => ?_)
                                    refine Tr.if_eq (pc := 147) (tgt := 166) d_X12_isOwn_147 rfl (fun c147 => ?_) (fun c147 => ?_)
                                    · refine Tr.iconst (pc := 166) d_X12_isOwn_166 (by decide) ?_
                                      exact Tr.zret (pc := 167) d_X12_isOwn_167 rfl (by omega) ⟨hS, _, rfl, by omega, by omega⟩
                                    · refine Tr.lload_n (pc := 150) (i := 1) d_X12_isOwn_150 rfl rfl ?_
                                      refine Tr.ldc2 (pc := 151) d_X12_isOwn_151 kl_12_435 (by decide) ?_
                                      refine Tr.lcmp (pc := 154) d_X12_isOwn_154 ?_
                                      refine Tr.gen (P := fun v => (v = 1 ∧ 512852847717 < a1) ∨ (v = 0 ∧ a1 = 512852847717) ∨ (v = -1 ∧ a1 < 512852847717)) (f_lcmp_c _ _) (fun r154 er154 br154 => ?_)
                                      refine Tr.if_eq (pc := 155) (tgt := 166) d_X12_isOwn_155 rfl (fun c155 => ?_) (fun c155 => ?_)
                                      · refine Tr.iconst (pc := 166) d_X12_isOwn_166 (by decide) ?_
                                        exact Tr.zret (pc := 167) d_X12_isOwn_167 rfl (by omega) ⟨hS, _, rfl, by omega, by omega⟩
                                      · refine Tr.lload_n (pc := 158) (i := 1) d_X12_isOwn_158 rfl rfl ?_
                                        refine Tr.ldc2 (pc := 159) d_X12_isOwn_159 kl_12_437 (by decide) ?_
                                        refine Tr.lcmp (pc := 162) d_X12_isOwn_162 ?_
                                        refine Tr.gen (P := fun v => (v = 1 ∧ 28530 < a1) ∨ (v = 0 ∧ a1 = 28530) ∨ (v = -1 ∧ a1 < 28530)) (f_lcmp_c _ _) (fun r162 er162 br162 => ?_)
                                        refine Tr.if_ne (pc := 163) (tgt := 168) d_X12_isOwn_163 rfl (fun c163 => ?_) (fun c163 => ?_)
                                        · refine Tr.lload_n (pc := 168) (i := 1) d_X12_isOwn_168 rfl rfl ?_
                                          refine Tr.ldc2 (pc := 169) d_X12_isOwn_169 kl_12_439 (by decide) ?_
                                          refine Tr.lcmp (pc := 172) d_X12_isOwn_172 ?_
                                          refine Tr.gen (P := fun v => (v = 1 ∧ 6385252 < a1) ∨ (v = 0 ∧ a1 = 6385252) ∨ (v = -1 ∧ a1 < 6385252)) (f_lcmp_c _ _) (fun r172 er172 br172 => ?_)
                                          refine Tr.if_eq (pc := 173) (tgt := 208) d_X12_isOwn_173 rfl (fun c173 => ?_) (fun c173 => ?_)
                                          · refine Tr.iconst (pc := 208) d_X12_isOwn_208 (by decide) ?_
                                            exact Tr.zret (pc := 209) d_X12_isOwn_209 rfl (by omega) ⟨hS, _, rfl, by omega, by omega⟩
                                          · refine Tr.lload_n (pc := 176) (i := 1) d_X12_isOwn_176 rfl rfl ?_
                                            refine Tr.ldc2 (pc := 177) d_X12_isOwn_177 kl_12_441 (by decide) ?_
                                            refine Tr.lcmp (pc := 180) d_X12_isOwn_180 ?_
                                            refine Tr.gen (P := fun v => (v = 1 ∧ 7237492 < a1) ∨ (v = 0 ∧ a1 = 7237492) ∨ (v = -1 ∧ a1 < 7237492)) (f_lcmp_c _ _) (fun r180 er180 br180 => ?_)
                                            refine Tr.if_eq (pc := 181) (tgt := 208) d_X12_isOwn_181 rfl (fun c181 => ?_) (fun c181 => ?_)
                                            · refine Tr.iconst (pc := 208) d_X12_isOwn_208 (by decide) ?_
                                              exact Tr.zret (pc := 209) d_X12_isOwn_209 rfl (by omega) ⟨hS, _, rfl, by omega, by omega⟩
                                            · refine Tr.lload_n (pc := 184) (i := 1) d_X12_isOwn_184 rfl rfl ?_
                                              refine Tr.ldc2 (pc := 185) d_X12_isOwn_185 kl_12_443 (by decide) ?_
                                              refine Tr.lcmp (pc := 188) d_X12_isOwn_188 ?_
                                              refine Tr.gen (P := fun v => (v = 1 ∧ 6384748 < a1) ∨ (v = 0 ∧ a1 = 6384748) ∨ (v = -1 ∧ a1 < 6384748)) (f_lcmp_c _ _) (fun r188 er188 br188 => ?_)
                                              refine Tr.if_eq (pc := 189) (tgt := 208) d_X12_isOwn_189 rfl (fun c189 => ?_) (fun c189 => ?_)
                                              · refine Tr.iconst (pc := 208) d_X12_isOwn_208 (by decide) ?_
                                                exact Tr.zret (pc := 209) d_X12_isOwn_209 rfl (by omega) ⟨hS, _, rfl, by omega, by omega⟩
                                              · refine Tr.lload_n (pc := 192) (i := 1) d_X12_isOwn_192 rfl rfl ?_
                                                refine Tr.ldc2 (pc := 193) d_X12_isOwn_193 kl_12_445 (by decide) ?_
                                                refine Tr.lcmp (pc := 196) d_X12_isOwn_196 ?_
                                                refine Tr.gen (P := fun v => (v = 1 ∧ 1751477348 < a1) ∨ (v = 0 ∧ a1 = 1751477348) ∨ (v = -1 ∧ a1 < 1751477348)) (f_lcmp_c _ _) (fun r196 er196 br196 => ?_)
                                                refine Tr.if_eq (pc := 197) (tgt := 208) d_X12_isOwn_197 rfl (fun c197 => ?_) (fun c197 => ?_)
                                                · refine Tr.iconst (pc := 208) d_X12_isOwn_208 (by decide) ?_
                                                  exact Tr.zret (pc := 209) d_X12_isOwn_209 rfl (by omega) ⟨hS, _, rfl, by omega, by omega⟩
                                                · refine Tr.lload_n (pc := 200) (i := 1) d_X12_isOwn_200 rfl rfl ?_
                                                  refine Tr.ldc2 (pc := 201) d_X12_isOwn_201 kl_12_447 (by decide) ?_
                                                  refine Tr.lcmp (pc := 204) d_X12_isOwn_204 ?_
                                                  refine Tr.gen (P := fun v => (v = 1 ∧ 1953063787 < a1) ∨ (v = 0 ∧ a1 = 1953063787) ∨ (v = -1 ∧ a1 < 1953063787)) (f_lcmp_c _ _) (fun r204 er204 br204 => ?_)
                                                  refine Tr.if_ne (pc := 205) (tgt := 210) d_X12_isOwn_205 rfl (fun c205 => ?_) (fun c205 => ?_)
                                                  · refine Tr.lload_n (pc := 210) (i := 1) d_X12_isOwn_210 rfl rfl ?_
                                                    refine Tr.ldc2 (pc := 211) d_X12_isOwn_211 kl_12_449 (by decide) ?_
                                                    refine Tr.lcmp (pc := 214) d_X12_isOwn_214 ?_
                                                    refine Tr.gen (P := fun v => (v = 1 ∧ 7170414 < a1) ∨ (v = 0 ∧ a1 = 7170414) ∨ (v = -1 ∧ a1 < 7170414)) (f_lcmp_c _ _) (fun r214 er214 br214 => ?_)
                                                    refine Tr.if_eq (pc := 215) (tgt := 226) d_X12_isOwn_215 rfl (fun c215 => ?_) (fun c215 => ?_)
                                                    · refine Tr.iconst (pc := 226) d_X12_isOwn_226 (by decide) ?_
                                                      exact Tr.zret (pc := 227) d_X12_isOwn_227 rfl (by omega) ⟨hS, _, rfl, by omega, by omega⟩
                                                    · refine Tr.lload_n (pc := 218) (i := 1) d_X12_isOwn_218 rfl rfl ?_
                                                      refine Tr.ldc2 (pc := 219) d_X12_isOwn_219 kl_12_451 (by decide) ?_
                                                      refine Tr.lcmp (pc := 222) d_X12_isOwn_222 ?_
                                                      refine Tr.gen (P := fun v => (v = 1 ∧ 7168376 < a1) ∨ (v = 0 ∧ a1 = 7168376) ∨ (v = -1 ∧ a1 < 7168376)) (f_lcmp_c _ _) (fun r222 er222 br222 => ?_)
                                                      refine Tr.if_ne (pc := 223) (tgt := 228) d_X12_isOwn_223 rfl (fun c223 => ?_) (fun c223 => ?_)
                                                      · refine Tr.iconst (pc := 228) d_X12_isOwn_228 (by decide) ?_
                                                        exact Tr.zret (pc := 229) d_X12_isOwn_229 rfl (by omega) ⟨hS, _, rfl, by omega, by omega⟩
                                                      · refine Tr.iconst (pc := 226) d_X12_isOwn_226 (by decide) ?_
                                                        exact Tr.zret (pc := 227) d_X12_isOwn_227 rfl (by omega) ⟨hS, _, rfl, by omega, by omega⟩
                                                  · refine Tr.iconst (pc := 208) d_X12_isOwn_208 (by decide) ?_
                                                    exact Tr.zret (pc := 209) d_X12_isOwn_209 rfl (by omega) ⟨hS, _, rfl, by omega, by omega⟩
                                        · refine Tr.iconst (pc := 166) d_X12_isOwn_166 (by decide) ?_
                                          exact Tr.zret (pc := 167) d_X12_isOwn_167 rfl (by omega) ⟨hS, _, rfl, by omega, by omega⟩
                              · refine Tr.iconst (pc := 124) d_X12_isOwn_124 (by decide) ?_
                                exact Tr.zret (pc := 125) d_X12_isOwn_125 rfl (by omega) ⟨hS, _, rfl, by omega, by omega⟩
                    · refine Tr.iconst (pc := 82) d_X12_isOwn_82 (by decide) ?_
                      exact Tr.zret (pc := 83) d_X12_isOwn_83 rfl (by omega) ⟨hS, _, rfl, by omega, by omega⟩
          · refine Tr.iconst (pc := 40) d_X12_isOwn_40 (by decide) ?_
            exact Tr.zret (pc := 41) d_X12_isOwn_41 rfl (by omega) ⟨hS, _, rfl, by omega, by omega⟩

def ws_X12_partOf_120 : List (Int × Int) := []
def as_X12_partOf_120 : List Int := []
def q_X12_partOf_120 (M0 M' : Mem) (r : Option PV) : Prop := St Tru ws_X12_partOf_120 as_X12_partOf_120 M0 M' ∧ ∃ v : Int, r = some (0, v) ∧ (-1) ≤ v ∧ v ≤ 5
set_option maxRecDepth 100000 in
set_option maxHeartbeats 4000000 in
theorem sp_X12_partOf_120 {l : Launch} {K : EC} {M0 : Mem} (hI : In Tru M0) (en_120_37 : rd M0 120 37 = 1) (a1 : Int) (ha1 : (-9223372036854775808) ≤ a1 ∧ a1 ≤ 9223372036854775807)  : Tr l K 0 mX12_partOf 0 [(0, (2, 120)), (1, (1, a1))] [] M0 (q_X12_partOf_120 M0) := by
  have hS : St Tru ws_X12_partOf_120 as_X12_partOf_120 M0 M0 := St.rf hI
  refine Tr.iconst (pc := 0) d_X12_partOf_0 (by decide) ?_
  refine Tr.istore_n (pc := 1) (i := 3) (ls2 := [(3, (0, 0)), (0, (2, 120)), (1, (1, a1))]) d_X12_partOf_1 rfl (by decide) rfl ?_
  have J2 : ∀ (n2 : Nat) (M : Mem) (p2_3 : Int), St Tru ws_X12_partOf_120 as_X12_partOf_120 M0 M → (0 ≤ p2_3 ∧ p2_3 ≤ 6) → (6 - p2_3).toNat < n2 → Tr l K 0 mX12_partOf 2 [(0, (2, 120)), (1, (1, a1)), (3, (0, p2_3))] [] M (q_X12_partOf_120 M0) := by
    intro n2
    induction n2 with
    | zero => intro M p2_3 hS bp2_3  hm2; exact absurd hm2 (Nat.not_lt_zero _)
    | succ n2 J2 =>
      intro M p2_3 hS bp2_3  hm2
      refine Tr.iload_n (pc := 2) (i := 3) d_X12_partOf_2 rfl rfl ?_
      refine Tr.aload_n (pc := 3) (i := 0) d_X12_partOf_3 rfl rfl ?_
      refine Tr.getf (pc := 4) d_X12_partOf_4 f_12_63 (by decide) (by decide) (ty_120 hS.1.1) ?_
      refine Tr.tp 126 (fx_120_17 hS.1.1) ?_
      refine Tr.aload_n (pc := 7) (i := 0) d_X12_partOf_7 rfl rfl ?_
      refine Tr.getf (pc := 8) d_X12_partOf_8 f_12_124 (by decide) (by decide) (ty_120 hS.1.1) ?_
      refine Tr.tp 1 ((St.kp hS (by decide) (by decide) (by decide)).trans en_120_37) ?_
      refine Tr.iald (pc := 11) d_X12_partOf_11 (ty_126 hS.1.1) (by omega) (by omega) ?_
      refine Tr.gen (P := fun v => 0 ≤ v ∧ v ≤ 6) (ir_126_1 hS.1.2.1) (fun r11 er11 br11 => ?_)
      refine Tr.icmp_ge (pc := 12) (tgt := 42) d_X12_partOf_12 rfl (fun c12 => ?_) (fun c12 => ?_)
      · refine Tr.iconst (pc := 42) d_X12_partOf_42 (by decide) ?_
        exact Tr.iret (pc := 43) d_X12_partOf_43 rfl ⟨hS, _, rfl, by omega, by omega⟩
      · refine Tr.aload_n (pc := 15) (i := 0) d_X12_partOf_15 rfl rfl ?_
        refine Tr.getf (pc := 16) d_X12_partOf_16 f_12_75 (by decide) (by decide) (ty_120 hS.1.1) ?_
        refine Tr.tp 130 (fx_120_21 hS.1.1) ?_
        refine Tr.bipush (pc := 19) d_X12_partOf_19 rfl (by decide) ?_
        refine Tr.aload_n (pc := 21) (i := 0) d_X12_partOf_21 rfl rfl ?_
        refine Tr.getf (pc := 22) d_X12_partOf_22 f_12_124 (by decide) (by decide) (ty_120 hS.1.1) ?_
        refine Tr.tp 1 ((St.kp hS (by decide) (by decide) (by decide)).trans en_120_37) ?_
        refine Tr.imul (pc := 25) d_X12_partOf_25 ?_
        refine Tr.tp 6 (by decide) ?_
        refine Tr.iload_n (pc := 26) (i := 3) d_X12_partOf_26 rfl rfl ?_
        refine Tr.iadd (pc := 27) d_X12_partOf_27 ?_
        refine Tr.tp (p2_3 + 6) ((w32_id (by omega)).trans (by omega)) ?_
        refine Tr.lald (pc := 28) d_X12_partOf_28 (ty_130 hS.1.1) (by omega) (by omega) ?_
        refine Tr.gen (P := fun v => (-9223372036854775808) ≤ v ∧ v ≤ 9223372036854775807) (ar_130 hS.1.2.1 _) (fun r28 er28 br28 => ?_)
        refine Tr.lload_n (pc := 29) (i := 1) d_X12_partOf_29 rfl rfl ?_
        refine Tr.lcmp (pc := 30) d_X12_partOf_30 ?_
        refine Tr.gen (P := fun v => (v = 1 ∧ a1 < r28) ∨ (v = 0 ∧ r28 = a1) ∨ (v = -1 ∧ r28 < a1)) (f_lcmp_c _ _) (fun r30 er30 br30 => ?_)
        refine Tr.if_ne (pc := 31) (tgt := 36) d_X12_partOf_31 rfl (fun c31 => ?_) (fun c31 => ?_)
        · refine Tr.iincV (pc := 36) (n2 := (p2_3 + 1)) (ls2 := [(3, (0, (p2_3 + 1))), (0, (2, 120)), (1, (1, a1))]) d_X12_partOf_36 rfl (by decide) ((w32_id (by omega)).trans (by omega)) rfl ?_
          refine Tr.goto (pc := 39) (tgt := 2) d_X12_partOf_39 rfl ?_
          refine Tr.pick [1, 2, 0] (ls2 := [(0, (2, 120)), (1, (1, a1)), (3, (0, (p2_3 + 1)))]) rfl ?_
          exact J2 _ _ hS (by omega) (by omega)
        · refine Tr.iload_n (pc := 34) (i := 3) d_X12_partOf_34 rfl rfl ?_
          exact Tr.iret (pc := 35) d_X12_partOf_35 rfl ⟨hS, _, rfl, by omega, by omega⟩
  refine Tr.pick [1, 2, 0] (ls2 := [(0, (2, 120)), (1, (1, a1)), (3, (0, 0))]) rfl ?_
  exact J2 _ _ _ hS (by omega) (Nat.lt_succ_self _)

def ws_X12_inputOf_120 : List (Int × Int) := []
def as_X12_inputOf_120 : List Int := []
def q_X12_inputOf_120 (M0 M' : Mem) (r : Option PV) : Prop := St Tru ws_X12_inputOf_120 as_X12_inputOf_120 M0 M' ∧ ∃ v : Int, r = some (0, v) ∧ (-1) ≤ v ∧ v ≤ 2
set_option maxRecDepth 100000 in
set_option maxHeartbeats 4000000 in
theorem sp_X12_inputOf_120 {l : Launch} {K : EC} {M0 : Mem} (hI : In Tru M0) (en_120_37 : rd M0 120 37 = 1) (a1 : Int) (ha1 : (-9223372036854775808) ≤ a1 ∧ a1 ≤ 9223372036854775807)  : Tr l K 0 mX12_inputOf 0 [(0, (2, 120)), (1, (1, a1))] [] M0 (q_X12_inputOf_120 M0) := by
  have hS : St Tru ws_X12_inputOf_120 as_X12_inputOf_120 M0 M0 := St.rf hI
  refine Tr.iconst (pc := 0) d_X12_inputOf_0 (by decide) ?_
  refine Tr.istore_n (pc := 1) (i := 3) (ls2 := [(3, (0, 0)), (0, (2, 120)), (1, (1, a1))]) d_X12_inputOf_1 rfl (by decide) rfl ?_
  have J2 : ∀ (n2 : Nat) (M : Mem) (p2_3 : Int), St Tru ws_X12_inputOf_120 as_X12_inputOf_120 M0 M → (0 ≤ p2_3 ∧ p2_3 ≤ 3) → (3 - p2_3).toNat < n2 → Tr l K 0 mX12_inputOf 2 [(0, (2, 120)), (1, (1, a1)), (3, (0, p2_3))] [] M (q_X12_inputOf_120 M0) := by
    intro n2
    induction n2 with
    | zero => intro M p2_3 hS bp2_3  hm2; exact absurd hm2 (Nat.not_lt_zero _)
    | succ n2 J2 =>
      intro M p2_3 hS bp2_3  hm2
      refine Tr.iload_n (pc := 2) (i := 3) d_X12_inputOf_2 rfl rfl ?_
      refine Tr.aload_n (pc := 3) (i := 0) d_X12_inputOf_3 rfl rfl ?_
      refine Tr.getf (pc := 4) d_X12_inputOf_4 f_12_66 (by decide) (by decide) (ty_120 hS.1.1) ?_
      refine Tr.tp 127 (fx_120_18 hS.1.1) ?_
      refine Tr.aload_n (pc := 7) (i := 0) d_X12_inputOf_7 rfl rfl ?_
      refine Tr.getf (pc := 8) d_X12_inputOf_8 f_12_124 (by decide) (by decide) (ty_120 hS.1.1) ?_
      refine Tr.tp 1 ((St.kp hS (by decide) (by decide) (by decide)).trans en_120_37) ?_
      refine Tr.iald (pc := 11) d_X12_inputOf_11 (ty_127 hS.1.1) (by omega) (by omega) ?_
      refine Tr.gen (P := fun v => 0 ≤ v ∧ v ≤ 3) (ir_127_1 hS.1.2.1) (fun r11 er11 br11 => ?_)
      refine Tr.icmp_ge (pc := 12) (tgt := 41) d_X12_inputOf_12 rfl (fun c12 => ?_) (fun c12 => ?_)
      · refine Tr.iconst (pc := 41) d_X12_inputOf_41 (by decide) ?_
        exact Tr.iret (pc := 42) d_X12_inputOf_42 rfl ⟨hS, _, rfl, by omega, by omega⟩
      · refine Tr.aload_n (pc := 15) (i := 0) d_X12_inputOf_15 rfl rfl ?_
        refine Tr.getf (pc := 16) d_X12_inputOf_16 f_12_82 (by decide) (by decide) (ty_120 hS.1.1) ?_
        refine Tr.tp 132 (fx_120_23 hS.1.1) ?_
        refine Tr.iconst (pc := 19) d_X12_inputOf_19 (by decide) ?_
        refine Tr.aload_n (pc := 20) (i := 0) d_X12_inputOf_20 rfl rfl ?_
        refine Tr.getf (pc := 21) d_X12_inputOf_21 f_12_124 (by decide) (by decide) (ty_120 hS.1.1) ?_
        refine Tr.tp 1 ((St.kp hS (by decide) (by decide) (by decide)).trans en_120_37) ?_
        refine Tr.imul (pc := 24) d_X12_inputOf_24 ?_
        refine Tr.tp 3 (by decide) ?_
        refine Tr.iload_n (pc := 25) (i := 3) d_X12_inputOf_25 rfl rfl ?_
        refine Tr.iadd (pc := 26) d_X12_inputOf_26 ?_
        refine Tr.tp (p2_3 + 3) ((w32_id (by omega)).trans (by omega)) ?_
        refine Tr.lald (pc := 27) d_X12_inputOf_27 (ty_132 hS.1.1) (by omega) (by omega) ?_
        refine Tr.gen (P := fun v => (-9223372036854775808) ≤ v ∧ v ≤ 9223372036854775807) (ar_132 hS.1.2.1 _) (fun r27 er27 br27 => ?_)
        refine Tr.lload_n (pc := 28) (i := 1) d_X12_inputOf_28 rfl rfl ?_
        refine Tr.lcmp (pc := 29) d_X12_inputOf_29 ?_
        refine Tr.gen (P := fun v => (v = 1 ∧ a1 < r27) ∨ (v = 0 ∧ r27 = a1) ∨ (v = -1 ∧ r27 < a1)) (f_lcmp_c _ _) (fun r29 er29 br29 => ?_)
        refine Tr.if_ne (pc := 30) (tgt := 35) d_X12_inputOf_30 rfl (fun c30 => ?_) (fun c30 => ?_)
        · refine Tr.iincV (pc := 35) (n2 := (p2_3 + 1)) (ls2 := [(3, (0, (p2_3 + 1))), (0, (2, 120)), (1, (1, a1))]) d_X12_inputOf_35 rfl (by decide) ((w32_id (by omega)).trans (by omega)) rfl ?_
          refine Tr.goto (pc := 38) (tgt := 2) d_X12_inputOf_38 rfl ?_
          refine Tr.pick [1, 2, 0] (ls2 := [(0, (2, 120)), (1, (1, a1)), (3, (0, (p2_3 + 1)))]) rfl ?_
          exact J2 _ _ hS (by omega) (by omega)
        · refine Tr.iload_n (pc := 33) (i := 3) d_X12_inputOf_33 rfl rfl ?_
          exact Tr.iret (pc := 34) d_X12_inputOf_34 rfl ⟨hS, _, rfl, by omega, by omega⟩
  refine Tr.pick [1, 2, 0] (ls2 := [(0, (2, 120)), (1, (1, a1)), (3, (0, 0))]) rfl ?_
  exact J2 _ _ _ hS (by omega) (Nat.lt_succ_self _)

def ws_X12_varOf_120 : List (Int × Int) := []
def as_X12_varOf_120 : List Int := []
def q_X12_varOf_120 (M0 M' : Mem) (r : Option PV) : Prop := St Tru ws_X12_varOf_120 as_X12_varOf_120 M0 M' ∧ ∃ v : Int, r = some (0, v) ∧ (-1) ≤ v ∧ v ≤ 5
set_option maxRecDepth 100000 in
set_option maxHeartbeats 4000000 in
theorem sp_X12_varOf_120 {l : Launch} {K : EC} {M0 : Mem} (hI : In Tru M0) (en_120_37 : rd M0 120 37 = 1) (a1 : Int) (ha1 : (-9223372036854775808) ≤ a1 ∧ a1 ≤ 9223372036854775807)  : Tr l K 0 mX12_varOf 0 [(0, (2, 120)), (1, (1, a1))] [] M0 (q_X12_varOf_120 M0) := by
  have hS : St Tru ws_X12_varOf_120 as_X12_varOf_120 M0 M0 := St.rf hI
  refine Tr.iconst (pc := 0) d_X12_varOf_0 (by decide) ?_
  refine Tr.istore_n (pc := 1) (i := 3) (ls2 := [(3, (0, 0)), (0, (2, 120)), (1, (1, a1))]) d_X12_varOf_1 rfl (by decide) rfl ?_
  have J2 : ∀ (n2 : Nat) (M : Mem) (p2_3 : Int), St Tru ws_X12_varOf_120 as_X12_varOf_120 M0 M → (0 ≤ p2_3 ∧ p2_3 ≤ 6) → (6 - p2_3).toNat < n2 → Tr l K 0 mX12_varOf 2 [(0, (2, 120)), (1, (1, a1)), (3, (0, p2_3))] [] M (q_X12_varOf_120 M0) := by
    intro n2
    induction n2 with
    | zero => intro M p2_3 hS bp2_3  hm2; exact absurd hm2 (Nat.not_lt_zero _)
    | succ n2 J2 =>
      intro M p2_3 hS bp2_3  hm2
      refine Tr.iload_n (pc := 2) (i := 3) d_X12_varOf_2 rfl rfl ?_
      refine Tr.aload_n (pc := 3) (i := 0) d_X12_varOf_3 rfl rfl ?_
      refine Tr.getf (pc := 4) d_X12_varOf_4 f_12_69 (by decide) (by decide) (ty_120 hS.1.1) ?_
      refine Tr.tp 128 (fx_120_19 hS.1.1) ?_
      refine Tr.aload_n (pc := 7) (i := 0) d_X12_varOf_7 rfl rfl ?_
      refine Tr.getf (pc := 8) d_X12_varOf_8 f_12_124 (by decide) (by decide) (ty_120 hS.1.1) ?_
      refine Tr.tp 1 ((St.kp hS (by decide) (by decide) (by decide)).trans en_120_37) ?_
      refine Tr.iald (pc := 11) d_X12_varOf_11 (ty_128 hS.1.1) (by omega) (by omega) ?_
      refine Tr.gen (P := fun v => 0 ≤ v ∧ v ≤ 6) (ir_128_1 hS.1.2.1) (fun r11 er11 br11 => ?_)
      refine Tr.icmp_ge (pc := 12) (tgt := 42) d_X12_varOf_12 rfl (fun c12 => ?_) (fun c12 => ?_)
      · refine Tr.iconst (pc := 42) d_X12_varOf_42 (by decide) ?_
        exact Tr.iret (pc := 43) d_X12_varOf_43 rfl ⟨hS, _, rfl, by omega, by omega⟩
      · refine Tr.aload_n (pc := 15) (i := 0) d_X12_varOf_15 rfl rfl ?_
        refine Tr.getf (pc := 16) d_X12_varOf_16 f_12_91 (by decide) (by decide) (ty_120 hS.1.1) ?_
        refine Tr.tp 135 (fx_120_26 hS.1.1) ?_
        refine Tr.bipush (pc := 19) d_X12_varOf_19 rfl (by decide) ?_
        refine Tr.aload_n (pc := 21) (i := 0) d_X12_varOf_21 rfl rfl ?_
        refine Tr.getf (pc := 22) d_X12_varOf_22 f_12_124 (by decide) (by decide) (ty_120 hS.1.1) ?_
        refine Tr.tp 1 ((St.kp hS (by decide) (by decide) (by decide)).trans en_120_37) ?_
        refine Tr.imul (pc := 25) d_X12_varOf_25 ?_
        refine Tr.tp 6 (by decide) ?_
        refine Tr.iload_n (pc := 26) (i := 3) d_X12_varOf_26 rfl rfl ?_
        refine Tr.iadd (pc := 27) d_X12_varOf_27 ?_
        refine Tr.tp (p2_3 + 6) ((w32_id (by omega)).trans (by omega)) ?_
        refine Tr.lald (pc := 28) d_X12_varOf_28 (ty_135 hS.1.1) (by omega) (by omega) ?_
        refine Tr.gen (P := fun v => (-9223372036854775808) ≤ v ∧ v ≤ 9223372036854775807) (ar_135 hS.1.2.1 _) (fun r28 er28 br28 => ?_)
        refine Tr.lload_n (pc := 29) (i := 1) d_X12_varOf_29 rfl rfl ?_
        refine Tr.lcmp (pc := 30) d_X12_varOf_30 ?_
        refine Tr.gen (P := fun v => (v = 1 ∧ a1 < r28) ∨ (v = 0 ∧ r28 = a1) ∨ (v = -1 ∧ r28 < a1)) (f_lcmp_c _ _) (fun r30 er30 br30 => ?_)
        refine Tr.if_ne (pc := 31) (tgt := 36) d_X12_varOf_31 rfl (fun c31 => ?_) (fun c31 => ?_)
        · refine Tr.iincV (pc := 36) (n2 := (p2_3 + 1)) (ls2 := [(3, (0, (p2_3 + 1))), (0, (2, 120)), (1, (1, a1))]) d_X12_varOf_36 rfl (by decide) ((w32_id (by omega)).trans (by omega)) rfl ?_
          refine Tr.goto (pc := 39) (tgt := 2) d_X12_varOf_39 rfl ?_
          refine Tr.pick [1, 2, 0] (ls2 := [(0, (2, 120)), (1, (1, a1)), (3, (0, (p2_3 + 1)))]) rfl ?_
          exact J2 _ _ hS (by omega) (by omega)
        · refine Tr.iload_n (pc := 34) (i := 3) d_X12_varOf_34 rfl rfl ?_
          exact Tr.iret (pc := 35) d_X12_varOf_35 rfl ⟨hS, _, rfl, by omega, by omega⟩
  refine Tr.pick [1, 2, 0] (ls2 := [(0, (2, 120)), (1, (1, a1)), (3, (0, 0))]) rfl ?_
  exact J2 _ _ _ hS (by omega) (Nat.lt_succ_self _)

def ws_X12_isSign_120 : List (Int × Int) := []
def as_X12_isSign_120 : List Int := []
def q_X12_isSign_120 (a1 : Int) (M0 M' : Mem) (r : Option PV) : Prop := St Tru ws_X12_isSign_120 as_X12_isSign_120 M0 M' ∧ ∃ v : Int, r = some (0, v) ∧ 0 ≤ v ∧ v ≤ 1 ∧ ((v = 1 ∧ rd M' 120 3 = 3 ∧ rd M' 120 6 = a1) ∨ (v = 0 ∧ (rd M' 120 3 ≠ 3 ∨ rd M' 120 6 ≠ a1)))
set_option maxRecDepth 100000 in
set_option maxHeartbeats 4000000 in
theorem sp_X12_isSign_120 {l : Launch} {K : EC} {M0 : Mem} (hI : In Tru M0)  (a1 : Int) (ha1 : 0 ≤ a1 ∧ a1 ≤ 300)  : Tr l K 0 mX12_isSign 0 [(0, (2, 120)), (1, (0, a1))] [] M0 (q_X12_isSign_120 a1 M0) := by
  have hS : St Tru ws_X12_isSign_120 as_X12_isSign_120 M0 M0 := St.rf hI
  obtain ⟨g120_3, eg120_3⟩ : ∃ v, rd M0 120 3 = v := ⟨_, rfl⟩
  have bg120_3 : 0 ≤ g120_3 ∧ g120_3 ≤ 3 := by rw [← eg120_3]; exact ir_120_3 hI.2.1
  obtain ⟨g120_6, eg120_6⟩ : ∃ v, rd M0 120 6 = v := ⟨_, rfl⟩
  have bg120_6 : (-2147483648) ≤ g120_6 ∧ g120_6 ≤ 2147483647 := by rw [← eg120_6]; exact ir_120_6 hI.2.1
  refine Tr.aload_n (pc := 0) (i := 0) d_X12_isSign_0 rfl rfl ?_
  refine Tr.getf (pc := 1) d_X12_isSign_1 f_12_20 (by decide) (by decide) (ty_120 hS.1.1) ?_
  refine Tr.tp g120_3 eg120_3 ?_
  refine Tr.iconst (pc := 4) d_X12_isSign_4 (by decide) ?_
  refine Tr.icmp_ne (pc := 5) (tgt := 20) d_X12_isSign_5 rfl (fun c5 => ?_) (fun c5 => ?_)
  · refine Tr.iconst (pc := 20) d_X12_isSign_20 (by decide) ?_
    have kr_120_3 : rd M0 120 3 = g120_3 := eg120_3
    have kr_120_6 : rd M0 120 6 = g120_6 := eg120_6
    exact Tr.zret (pc := 21) d_X12_isSign_21 rfl (by omega) ⟨hS, _, rfl, by omega, by omega, by omega⟩
  · refine Tr.aload_n (pc := 8) (i := 0) d_X12_isSign_8 rfl rfl ?_
    refine Tr.getf (pc := 9) d_X12_isSign_9 f_12_29 (by decide) (by decide) (ty_120 hS.1.1) ?_
    refine Tr.tp g120_6 eg120_6 ?_
    refine Tr.iload_n (pc := 12) (i := 1) d_X12_isSign_12 rfl rfl ?_
    refine Tr.icmp_ne (pc := 13) (tgt := 20) d_X12_isSign_13 rfl (fun c13 => ?_) (fun c13 => ?_)
    · refine Tr.iconst (pc := 20) d_X12_isSign_20 (by decide) ?_
      have kr_120_3 : rd M0 120 3 = g120_3 := eg120_3
      have kr_120_6 : rd M0 120 6 = g120_6 := eg120_6
      exact Tr.zret (pc := 21) d_X12_isSign_21 rfl (by omega) ⟨hS, _, rfl, by omega, by omega, by omega⟩
    · refine Tr.iconst (pc := 16) d_X12_isSign_16 (by decide) ?_
      refine Tr.goto (pc := 17) (tgt := 21) d_X12_isSign_17 rfl ?_
      have kr_120_3 : rd M0 120 3 = g120_3 := eg120_3
      have kr_120_6 : rd M0 120 6 = g120_6 := eg120_6
      exact Tr.zret (pc := 21) d_X12_isSign_21 rfl (by omega) ⟨hS, _, rfl, by omega, by omega, by omega⟩

def ws_X12_isTest : List (Int × Int) := []
def as_X12_isTest : List Int := []
def q_X12_isTest (a0 : Int) (M0 M' : Mem) (r : Option PV) : Prop := St Tru ws_X12_isTest as_X12_isTest M0 M' ∧ ∃ v : Int, r = some (0, v) ∧ 0 ≤ v ∧ v ≤ 1 ∧ ((v = 1 ∧ (a0 = 1 ∨ a0 = 5)) ∨ (v = 0 ∧ a0 ≠ 1 ∧ a0 ≠ 5))
set_option maxRecDepth 100000 in
set_option maxHeartbeats 4000000 in
theorem sp_X12_isTest {l : Launch} {K : EC} {M0 : Mem} (hI : In Tru M0)  (a0 : Int) (ha0 : (-2147483648) ≤ a0 ∧ a0 ≤ 2147483647)  : Tr l K 0 mX12_isTest 0 [(0, (0, a0))] [] M0 (q_X12_isTest a0 M0) := by
  have hS : St Tru ws_X12_isTest as_X12_isTest M0 M0 := St.rf hI
  refine Tr.iload_n (pc := 0) (i := 0) d_X12_isTest_0 rfl rfl ?_
  refine Tr.iconst (pc := 1) d_X12_isTest_1 (by decide) ?_
  refine Tr.icmp_eq (pc := 2) (tgt := 10) d_X12_isTest_2 rfl (fun c2 => ?_) (fun c2 => ?_)
  · refine Tr.iconst (pc := 10) d_X12_isTest_10 (by decide) ?_
    refine Tr.goto (pc := 11) (tgt := 15) d_X12_isTest_11 rfl ?_
    exact Tr.zret (pc := 15) d_X12_isTest_15 rfl (by omega) ⟨hS, _, rfl, by omega, by omega, by omega⟩
  · refine Tr.iload_n (pc := 5) (i := 0) d_X12_isTest_5 rfl rfl ?_
    refine Tr.iconst (pc := 6) d_X12_isTest_6 (by decide) ?_
    refine Tr.icmp_ne (pc := 7) (tgt := 14) d_X12_isTest_7 rfl (fun c7 => ?_) (fun c7 => ?_)
    · refine Tr.iconst (pc := 14) d_X12_isTest_14 (by decide) ?_
      exact Tr.zret (pc := 15) d_X12_isTest_15 rfl (by omega) ⟨hS, _, rfl, by omega, by omega, by omega⟩
    · refine Tr.iconst (pc := 10) d_X12_isTest_10 (by decide) ?_
      refine Tr.goto (pc := 11) (tgt := 15) d_X12_isTest_11 rfl ?_
      exact Tr.zret (pc := 15) d_X12_isTest_15 rfl (by omega) ⟨hS, _, rfl, by omega, by omega, by omega⟩

def ws_X12_rank : List (Int × Int) := []
def as_X12_rank : List Int := []
def q_X12_rank (M0 M' : Mem) (r : Option PV) : Prop := St Tru ws_X12_rank as_X12_rank M0 M' ∧ ∃ v : Int, r = some (0, v) ∧ 1 ≤ v ∧ v ≤ 6
set_option maxRecDepth 100000 in
set_option maxHeartbeats 4000000 in
theorem sp_X12_rank {l : Launch} {K : EC} {M0 : Mem} (hI : In Tru M0)  (a0 : Int) (ha0 : 0 ≤ a0 ∧ a0 ≤ 20)  : Tr l K 0 mX12_rank 0 [(0, (0, a0))] [] M0 (q_X12_rank M0) := by
  have hS : St Tru ws_X12_rank as_X12_rank M0 M0 := St.rf hI
  refine Tr.iload_n (pc := 0) (i := 0) d_X12_rank_0 rfl rfl ?_
  refine Tr.bipush (pc := 1) d_X12_rank_1 rfl (by decide) ?_
  refine Tr.icmp_ne (pc := 3) (tgt := 10) d_X12_rank_3 rfl (fun c3 => ?_) (fun c3 => ?_)
  · refine Tr.iload_n (pc := 10) (i := 0) d_X12_rank_10 rfl rfl ?_
    refine Tr.bipush (pc := 11) d_X12_rank_11 rfl (by decide) ?_
    refine Tr.icmp_ne (pc := 13) (tgt := 20) d_X12_rank_13 rfl (fun c13 => ?_) (fun c13 => ?_)
    · refine Tr.iload_n (pc := 20) (i := 0) d_X12_rank_20 rfl rfl ?_
      refine Tr.bipush (pc := 21) d_X12_rank_21 rfl (by decide) ?_
      refine Tr.icmp_ne (pc := 23) (tgt := 30) d_X12_rank_23 rfl (fun c23 => ?_) (fun c23 => ?_)
      · refine Tr.iload_n (pc := 30) (i := 0) d_X12_rank_30 rfl rfl ?_
        refine Tr.bipush (pc := 31) d_X12_rank_31 rfl (by decide) ?_
        refine Tr.icmp_eq (pc := 33) (tgt := 48) d_X12_rank_33 rfl (fun c33 => ?_) (fun c33 => ?_)
        · refine Tr.iconst (pc := 48) d_X12_rank_48 (by decide) ?_
          refine Tr.goto (pc := 49) (tgt := 70) d_X12_rank_49 rfl ?_
          exact Tr.iret (pc := 70) d_X12_rank_70 rfl ⟨hS, _, rfl, by omega, by omega⟩
        · refine Tr.iload_n (pc := 36) (i := 0) d_X12_rank_36 rfl rfl ?_
          refine Tr.bipush (pc := 37) d_X12_rank_37 rfl (by decide) ?_
          refine Tr.icmp_eq (pc := 39) (tgt := 48) d_X12_rank_39 rfl (fun c39 => ?_) (fun c39 => ?_)
          · refine Tr.iconst (pc := 48) d_X12_rank_48 (by decide) ?_
            refine Tr.goto (pc := 49) (tgt := 70) d_X12_rank_49 rfl ?_
            exact Tr.iret (pc := 70) d_X12_rank_70 rfl ⟨hS, _, rfl, by omega, by omega⟩
          · refine Tr.iload_n (pc := 42) (i := 0) d_X12_rank_42 rfl rfl ?_
            refine Tr.bipush (pc := 43) d_X12_rank_43 rfl (by decide) ?_
            refine Tr.icmp_ne (pc := 45) (tgt := 52) d_X12_rank_45 rfl (fun c45 => ?_) (fun c45 => ?_)
            · refine Tr.iload_n (pc := 52) (i := 0) d_X12_rank_52 rfl rfl ?_
              refine Tr.bipush (pc := 53) d_X12_rank_53 rfl (by decide) ?_
              refine Tr.icmp_eq (pc := 55) (tgt := 64) d_X12_rank_55 rfl (fun c55 => ?_) (fun c55 => ?_)
              · refine Tr.iconst (pc := 64) d_X12_rank_64 (by decide) ?_
                refine Tr.goto (pc := 65) (tgt := 70) d_X12_rank_65 rfl ?_
                exact Tr.iret (pc := 70) d_X12_rank_70 rfl ⟨hS, _, rfl, by omega, by omega⟩
              · refine Tr.iload_n (pc := 58) (i := 0) d_X12_rank_58 rfl rfl ?_
                refine Tr.bipush (pc := 59) d_X12_rank_59 rfl (by decide) ?_
                refine Tr.icmp_ne (pc := 61) (tgt := 68) d_X12_rank_61 rfl (fun c61 => ?_) (fun c61 => ?_)
                · refine Tr.bipush (pc := 68) d_X12_rank_68 rfl (by decide) ?_
                  exact Tr.iret (pc := 70) d_X12_rank_70 rfl ⟨hS, _, rfl, by omega, by omega⟩
                · refine Tr.iconst (pc := 64) d_X12_rank_64 (by decide) ?_
                  refine Tr.goto (pc := 65) (tgt := 70) d_X12_rank_65 rfl ?_
                  exact Tr.iret (pc := 70) d_X12_rank_70 rfl ⟨hS, _, rfl, by omega, by omega⟩
            · refine Tr.iconst (pc := 48) d_X12_rank_48 (by decide) ?_
              refine Tr.goto (pc := 49) (tgt := 70) d_X12_rank_49 rfl ?_
              exact Tr.iret (pc := 70) d_X12_rank_70 rfl ⟨hS, _, rfl, by omega, by omega⟩
      · refine Tr.iconst (pc := 26) d_X12_rank_26 (by decide) ?_
        refine Tr.goto (pc := 27) (tgt := 70) d_X12_rank_27 rfl ?_
        exact Tr.iret (pc := 70) d_X12_rank_70 rfl ⟨hS, _, rfl, by omega, by omega⟩
    · refine Tr.iconst (pc := 16) d_X12_rank_16 (by decide) ?_
      refine Tr.goto (pc := 17) (tgt := 70) d_X12_rank_17 rfl ?_
      exact Tr.iret (pc := 70) d_X12_rank_70 rfl ⟨hS, _, rfl, by omega, by omega⟩
  · refine Tr.iconst (pc := 6) d_X12_rank_6 (by decide) ?_
    refine Tr.goto (pc := 7) (tgt := 70) d_X12_rank_7 rfl ?_
    exact Tr.iret (pc := 70) d_X12_rank_70 rfl ⟨hS, _, rfl, by omega, by omega⟩

