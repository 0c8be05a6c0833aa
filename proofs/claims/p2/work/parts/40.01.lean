def ws_X12_pays_120_w1 : List (Int × Int) := [(120, 97), (120, 98), (120, 99)]
def as_X12_pays_120_w1 : List Int := []
def q_X12_pays_120_w1 (M0 M' : Mem) (r : Option PV) : Prop := St Tru ws_X12_pays_120_w1 as_X12_pays_120_w1 M0 M' ∧ ∃ v : Int, r = some (0, v) ∧ (-2147483648) ≤ v ∧ v ≤ 2147483647
set_option maxRecDepth 100000 in
set_option maxHeartbeats 4000000 in
theorem sp_X12_pays_120_w1 {l : Launch} {K : EC} {M0 : Mem} (hI : In Tru M0) (en_120_12 : rd M0 120 12 = 1) (a1 : Int) (ha1 : (-2147483648) ≤ a1 ∧ a1 ≤ 2147483647) (a2 : Int) (ha2 : (-2147483648) ≤ a2 ∧ a2 ≤ 2147483647)  (hF_Bk1 : Bk1 M0) : Tr l K 3 mX12_pays 0 [(0, (2, 120)), (1, (0, a1)), (2, (0, a2))] [] M0 (q_X12_pays_120_w1 M0) := by
  have hS : St Tru ws_X12_pays_120_w1 as_X12_pays_120_w1 M0 M0 := St.rf hI
  refine Tr.aload_n (pc := 0) (i := 0) d_X12_pays_0 rfl rfl ?_
  refine Tr.getz (pc := 1) d_X12_pays_1 f_12_270 (by decide) (ty_120 hS.1.1) ?_
  refine Tr.gen (P := fun v => 0 ≤ v ∧ v ≤ 1) (ir_120_85 hS.1.2.1) (fun r1 er1 br1 => ?_)
  refine Tr.if_eq (pc := 4) (tgt := 29) d_X12_pays_4 rfl (fun c4 => ?_) (fun c4 => ?_)
  · refine Tr.iconst (pc := 29) d_X12_pays_29 (by decide) ?_
    exact Tr.iret (pc := 30) d_X12_pays_30 rfl ⟨hS, _, rfl, by omega, by omega⟩
  · refine Tr.iload_n (pc := 7) (i := 2) d_X12_pays_7 rfl rfl ?_
    refine Tr.iconst (pc := 8) d_X12_pays_8 (by decide) ?_
    refine Tr.iconst (pc := 9) d_X12_pays_9 (by decide) ?_
    refine Tr.callS (pc := 10) (as := [_, _, _]) d_X12_pays_10 s_12_467 ok_X12_is rfl rfl (Nat.le_of_ble_eq_true rfl) (Nat.le_of_ble_eq_true rfl) ?_
    refine Tr.imp (Tr.deep (by decide) (sp_X12_is hS.1 a2 (by omega) 0 (by omega) 1 (by omega))) ?_
    rintro M10 _ ⟨h10, r10, rfl, lr10, ur10, wr10⟩
    have hS := St.tr hS h10 (by decide) (by decide)
    refine Tr.sc [(0, r10)] rfl ?_
    refine Tr.if_eq (pc := 13) (tgt := 29) d_X12_pays_13 rfl (fun c13 => ?_) (fun c13 => ?_)
    · refine Tr.iconst (pc := 29) d_X12_pays_29 (by decide) ?_
      exact Tr.iret (pc := 30) d_X12_pays_30 rfl ⟨hS, _, rfl, by omega, by omega⟩
    · refine Tr.iload_n (pc := 16) (i := 1) d_X12_pays_16 rfl rfl ?_
      refine Tr.iconst (pc := 17) d_X12_pays_17 (by decide) ?_
      have J31 : ∀ (M : Mem), St Tru ws_X12_pays_120_w1 as_X12_pays_120_w1 M0 M → ((-1) ≤ a1 ∧ a1 ≤ 59) → rd M 120 85 = r1 → Tr l K 3 mX12_pays 31 [(0, (2, 120)), (1, (0, a1)), (2, (0, a2))] [] M (q_X12_pays_120_w1 M0) := by
        intro M  hS z31a1 k31_120_85
        refine Tr.lconst (pc := 31) (v := 0) d_X12_pays_31 rfl (by decide) ?_
        refine Tr.lstore_n (pc := 32) (i := 3) (ls2 := [(3, (1, 0)), (0, (2, 120)), (1, (0, a1)), (2, (0, a2))]) d_X12_pays_32 rfl (by decide) rfl ?_
        refine Tr.iconst (pc := 33) d_X12_pays_33 (by decide) ?_
        refine Tr.istore (pc := 34) (i := 5) (ls2 := [(5, (0, 0)), (3, (1, 0)), (0, (2, 120)), (1, (0, a1)), (2, (0, a2))]) d_X12_pays_34 (by decide) rfl ?_
        have J36 : ∀ (n36 : Nat) (M : Mem) (p36_3 p36_5 : Int), St Tru ws_X12_pays_120_w1 as_X12_pays_120_w1 M0 M → ((-9223372036854775808) ≤ p36_3 ∧ p36_3 ≤ 9223372036854775807) → (0 ≤ p36_5 ∧ p36_5 ≤ 2060) → rd M 120 85 = r1 → (2060 - p36_5).toNat < n36 → Tr l K 3 mX12_pays 36 [(0, (2, 120)), (1, (0, a1)), (2, (0, a2)), (3, (1, p36_3)), (5, (0, p36_5))] [] M (q_X12_pays_120_w1 M0) := by
          intro n36
          induction n36 with
          | zero => intro M p36_3 p36_5 hS bp36_3 bp36_5 k36_120_85 hm36; exact absurd hm36 (Nat.not_lt_zero _)
          | succ n36 J36 =>
            intro M p36_3 p36_5 hS bp36_3 bp36_5 k36_120_85 hm36
            refine Tr.iload (pc := 36) (i := 5) d_X12_pays_36 rfl ?_
            refine Tr.aload_n (pc := 38) (i := 0) d_X12_pays_38 rfl rfl ?_
            refine Tr.getf (pc := 39) d_X12_pays_39 f_12_273 (by decide) (by decide) (ty_120 hS.1.1) ?_
            refine Tr.gen (P := fun v => 0 ≤ v ∧ v ≤ 2060) (ir_120_86 hS.1.2.1) (fun r39 er39 br39 => ?_)
            refine Tr.icmp_ge (pc := 42) (tgt := 185) d_X12_pays_42 rfl (fun c42 => ?_) (fun c42 => ?_)
            · refine Tr.iconst (pc := 185) d_X12_pays_185 (by decide) ?_
              refine Tr.istore (pc := 186) (i := 5) (ls2 := [(5, (0, 0)), (0, (2, 120)), (1, (0, a1)), (2, (0, a2)), (3, (1, p36_3))]) d_X12_pays_186 (by decide) rfl ?_
              have J188 : ∀ (n188 : Nat) (M : Mem) (p188_3 p188_5 : Int), St Tru ws_X12_pays_120_w1 as_X12_pays_120_w1 M0 M → ((-9223372036854775808) ≤ p188_3 ∧ p188_3 ≤ 9223372036854775807) → (0 ≤ p188_5 ∧ p188_5 ≤ 6) → rd M 120 85 = r1 → rd M 120 86 = r39 → (6 - p188_5).toNat < n188 → Tr l K 3 mX12_pays 188 [(0, (2, 120)), (1, (0, a1)), (2, (0, a2)), (3, (1, p188_3)), (5, (0, p188_5))] [] M (q_X12_pays_120_w1 M0) := by
                intro n188
                induction n188 with
                | zero => intro M p188_3 p188_5 hS bp188_3 bp188_5 k188_120_85 k188_120_86 hm188; exact absurd hm188 (Nat.not_lt_zero _)
                | succ n188 J188 =>
                  intro M p188_3 p188_5 hS bp188_3 bp188_5 k188_120_85 k188_120_86 hm188
                  refine Tr.iload (pc := 188) (i := 5) d_X12_pays_188 rfl ?_
                  refine Tr.aload_n (pc := 190) (i := 0) d_X12_pays_190 rfl rfl ?_
                  refine Tr.getf (pc := 191) d_X12_pays_191 f_12_63 (by decide) (by decide) (ty_120 hS.1.1) ?_
                  refine Tr.tp 126 (fx_120_17 hS.1.1) ?_
                  refine Tr.aload_n (pc := 194) (i := 0) d_X12_pays_194 rfl rfl ?_
                  refine Tr.getf (pc := 195) d_X12_pays_195 f_12_48 (by decide) (by decide) (ty_120 hS.1.1) ?_
                  refine Tr.tp 1 ((St.kp hS (by decide) (by decide) (by decide)).trans en_120_12) ?_
                  refine Tr.iald (pc := 198) d_X12_pays_198 (ty_126 hS.1.1) (by omega) (by omega) ?_
                  refine Tr.gen (P := fun v => 0 ≤ v ∧ v ≤ 6) (ir_126_1 hS.1.2.1) (fun r198 er198 br198 => ?_)
                  refine Tr.icmp_ge (pc := 199) (tgt := 228) d_X12_pays_199 rfl (fun c199 => ?_) (fun c199 => ?_)
                  · refine Tr.lload_n (pc := 228) (i := 3) d_X12_pays_228 rfl rfl ?_
                    refine Tr.l2i (pc := 229) d_X12_pays_229 ?_
                    refine Tr.gen (P := fun v => (-2147483648) ≤ v ∧ v ≤ 2147483647) (w32_b _) (fun r229 er229 br229 => ?_)
                    exact Tr.iret (pc := 230) d_X12_pays_230 rfl ⟨hS, _, rfl, by omega, by omega⟩
                  · refine Tr.iload_n (pc := 202) (i := 1) d_X12_pays_202 rfl rfl ?_
                    refine Tr.iconst (pc := 203) d_X12_pays_203 (by decide) ?_
                    refine Tr.icmp_eq (pc := 204) (tgt := 228) d_X12_pays_204 rfl (fun c204 => ?_) (fun c204 => ?_)
                    · refine Tr.lload_n (pc := 228) (i := 3) d_X12_pays_228 rfl rfl ?_
                      refine Tr.l2i (pc := 229) d_X12_pays_229 ?_
                      refine Tr.gen (P := fun v => (-2147483648) ≤ v ∧ v ≤ 2147483647) (w32_b _) (fun r229 er229 br229 => ?_)
                      exact Tr.iret (pc := 230) d_X12_pays_230 rfl ⟨hS, _, rfl, by omega, by omega⟩
                    · refine Tr.iload_n (pc := 207) (i := 2) d_X12_pays_207 rfl rfl ?_
                      refine Tr.iconst (pc := 208) d_X12_pays_208 (by decide) ?_
                      refine Tr.icmp_ne (pc := 209) (tgt := 228) d_X12_pays_209 rfl (fun c209 => ?_) (fun c209 => ?_)
                      · refine Tr.lload_n (pc := 228) (i := 3) d_X12_pays_228 rfl rfl ?_
                        refine Tr.l2i (pc := 229) d_X12_pays_229 ?_
                        refine Tr.gen (P := fun v => (-2147483648) ≤ v ∧ v ≤ 2147483647) (w32_b _) (fun r229 er229 br229 => ?_)
                        exact Tr.iret (pc := 230) d_X12_pays_230 rfl ⟨hS, _, rfl, by omega, by omega⟩
                      · refine Tr.lload_n (pc := 212) (i := 3) d_X12_pays_212 rfl rfl ?_
                        refine Tr.aload_n (pc := 213) (i := 0) d_X12_pays_213 rfl rfl ?_
                        refine Tr.iload (pc := 214) (i := 5) d_X12_pays_214 rfl ?_
                        refine Tr.iload_n (pc := 216) (i := 1) d_X12_pays_216 rfl rfl ?_
                        refine Tr.callV (pc := 217) (as := [_, _]) d_X12_pays_217 s_12_659 ok_X12_sharesOf rfl rfl (Nat.le_of_ble_eq_true rfl) (Nat.le_of_ble_eq_true rfl) (by decide) (ty_120 hS.1.1) ?_
                        refine Tr.imp (Tr.deep (by decide) (sp_X12_sharesOf_120_w1 hS.1 ((St.kp hS (by decide) (by decide) (by decide)).trans en_120_12) p188_5 (by omega) a1 (by omega) (Bk1.of hF_Bk1 (fun j => (St.ka hS (by decide) (by decide) (by decide))) (fun j => (St.ka hS (by decide) (by decide) (by decide))) (fun j => (St.ka hS (by decide) (by decide) (by decide))) (fun j => (St.ka hS (by decide) (by decide) (by decide))) (fun j => (St.ka hS (by decide) (by decide) (by decide))) (fun j => (St.ka hS (by decide) (by decide) (by decide))) (fun j => (St.ka hS (by decide) (by decide) (by decide))) (fun j => (St.ka hS (by decide) (by decide) (by decide))) (St.kp hS (by decide) (by decide) (by decide)) (St.kp hS (by decide) (by decide) (by decide)) (St.kp hS (by decide) (by decide) (by decide)) (St.kp hS (by decide) (by decide) (by decide))))) ?_
                        rintro M217 _ ⟨h217, r217, rfl, lr217, ur217⟩
                        have hS := St.tr hS h217 (by decide) (by decide)
                        refine Tr.sc [(1, r217), (1, p188_3)] rfl ?_
                        refine Tr.ladd (pc := 220) d_X12_pays_220 ?_
                        refine Tr.gen (P := fun v => (-9223372036854775808) ≤ v ∧ v ≤ 9223372036854775807) (w64_b _) (fun r220 er220 br220 => ?_)
                        refine Tr.lstore_n (pc := 221) (i := 3) (ls2 := [(3, (1, r220)), (0, (2, 120)), (1, (0, a1)), (2, (0, a2)), (5, (0, p188_5))]) d_X12_pays_221 rfl (by decide) rfl ?_
                        refine Tr.iincV (pc := 222) (n2 := (p188_5 + 1)) (ls2 := [(5, (0, (p188_5 + 1))), (3, (1, r220)), (0, (2, 120)), (1, (0, a1)), (2, (0, a2))]) d_X12_pays_222 rfl (by decide) ((w32_id (by omega)).trans (by omega)) rfl ?_
                        refine Tr.goto (pc := 225) (tgt := 188) d_X12_pays_225 rfl ?_
                        refine Tr.pick [2, 3, 4, 1, 0] (ls2 := [(0, (2, 120)), (1, (0, a1)), (2, (0, a2)), (3, (1, r220)), (5, (0, (p188_5 + 1)))]) rfl ?_
                        exact J188 _ _ _ hS (by omega) (by omega) ((St.kp h217 (by decide) (by decide) (by decide)).trans k188_120_85) ((St.kp h217 (by decide) (by decide) (by decide)).trans k188_120_86) (by omega)
              refine Tr.pick [1, 2, 3, 4, 0] (ls2 := [(0, (2, 120)), (1, (0, a1)), (2, (0, a2)), (3, (1, p36_3)), (5, (0, 0))]) rfl ?_
              exact J188 _ _ _ _ hS (by omega) (by omega) k36_120_85 er39 (Nat.lt_succ_self _)
            · refine Tr.iload_n (pc := 45) (i := 1) d_X12_pays_45 rfl rfl ?_
              refine Tr.iconst (pc := 46) d_X12_pays_46 (by decide) ?_
              have J74 : ∀ (M : Mem) (p74_3 : Int), St Tru ws_X12_pays_120_w1 as_X12_pays_120_w1 M0 M → ((-9223372036854775808) ≤ p74_3 ∧ p74_3 ≤ 9223372036854775807) → rd M 120 85 = r1 → rd M 120 86 = r39 → Tr l K 3 mX12_pays 74 [(0, (2, 120)), (1, (0, a1)), (2, (0, a2)), (3, (1, p74_3)), (5, (0, p36_5))] [] M (q_X12_pays_120_w1 M0) := by
                intro M p74_3 hS bp74_3 k74_120_85 k74_120_86
                refine Tr.iconst (pc := 74) d_X12_pays_74 (by decide) ?_
                refine Tr.istore (pc := 75) (i := 6) (ls2 := [(6, (0, 0)), (0, (2, 120)), (1, (0, a1)), (2, (0, a2)), (3, (1, p74_3)), (5, (0, p36_5))]) d_X12_pays_75 (by decide) rfl ?_
                have J77 : ∀ (n77 : Nat) (M : Mem) (p77_3 p77_6 : Int), St Tru ws_X12_pays_120_w1 as_X12_pays_120_w1 M0 M → ((-9223372036854775808) ≤ p77_3 ∧ p77_3 ≤ 9223372036854775807) → (0 ≤ p77_6 ∧ p77_6 ≤ 6) → rd M 120 85 = r1 → rd M 120 86 = r39 → (6 - p77_6).toNat < n77 → Tr l K 3 mX12_pays 77 [(0, (2, 120)), (1, (0, a1)), (2, (0, a2)), (3, (1, p77_3)), (5, (0, p36_5)), (6, (0, p77_6))] [] M (q_X12_pays_120_w1 M0) := by
                  intro n77
                  induction n77 with
                  | zero => intro M p77_3 p77_6 hS bp77_3 bp77_6 k77_120_85 k77_120_86 hm77; exact absurd hm77 (Nat.not_lt_zero _)
                  | succ n77 J77 =>
                    intro M p77_3 p77_6 hS bp77_3 bp77_6 k77_120_85 k77_120_86 hm77
                    refine Tr.iload (pc := 77) (i := 6) d_X12_pays_77 rfl ?_
                    refine Tr.aload_n (pc := 79) (i := 0) d_X12_pays_79 rfl rfl ?_
                    refine Tr.getf (pc := 80) d_X12_pays_80 f_12_63 (by decide) (by decide) (ty_120 hS.1.1) ?_
                    refine Tr.tp 126 (fx_120_17 hS.1.1) ?_
                    refine Tr.aload_n (pc := 83) (i := 0) d_X12_pays_83 rfl rfl ?_
                    refine Tr.getf (pc := 84) d_X12_pays_84 f_12_48 (by decide) (by decide) (ty_120 hS.1.1) ?_
                    refine Tr.tp 1 ((St.kp hS (by decide) (by decide) (by decide)).trans en_120_12) ?_
                    refine Tr.iald (pc := 87) d_X12_pays_87 (ty_126 hS.1.1) (by omega) (by omega) ?_
                    refine Tr.gen (P := fun v => 0 ≤ v ∧ v ≤ 6) (ir_126_1 hS.1.2.1) (fun r87 er87 br87 => ?_)
                    refine Tr.icmp_ge (pc := 88) (tgt := 179) d_X12_pays_88 rfl (fun c88 => ?_) (fun c88 => ?_)
                    · refine Tr.iincV (pc := 179) (n2 := (p36_5 + 1)) (ls2 := [(5, (0, (p36_5 + 1))), (0, (2, 120)), (1, (0, a1)), (2, (0, a2)), (3, (1, p77_3)), (6, (0, p77_6))]) d_X12_pays_179 rfl (by decide) ((w32_id (by omega)).trans (by omega)) rfl ?_
                      refine Tr.goto (pc := 182) (tgt := 36) d_X12_pays_182 rfl ?_
                      refine Tr.pick [1, 2, 3, 4, 0] (ls2 := [(0, (2, 120)), (1, (0, a1)), (2, (0, a2)), (3, (1, p77_3)), (5, (0, (p36_5 + 1)))]) rfl ?_
                      exact J36 _ _ _ hS (by omega) (by omega) k77_120_85 (by omega)
                    · refine Tr.aload_n (pc := 91) (i := 0) d_X12_pays_91 rfl rfl ?_
                      refine Tr.iload (pc := 92) (i := 6) d_X12_pays_92 rfl ?_
                      refine Tr.iload (pc := 94) (i := 5) d_X12_pays_94 rfl ?_
                      refine Tr.callV (pc := 96) (as := [_, _]) d_X12_pays_96 s_12_641 ok_X12_stateAt rfl rfl (Nat.le_of_ble_eq_true rfl) (Nat.le_of_ble_eq_true rfl) (by decide) (ty_120 hS.1.1) ?_
                      refine Tr.imp (Tr.deep (by decide) (sp_X12_stateAt_120 hS.1 p77_6 (by omega) p36_5 (by omega))) ?_
                      rintro M96 _ ⟨h96, r96, rfl, lr96, ur96, z96_0⟩
                      have hS := St.tr hS h96 (by decide) (by decide)
                      refine Tr.sc [(0, r96)] rfl ?_
                      have qs96 : rd M 163 (p36_5 + 2100 * p77_6) = r96 := (congrArg (rd M 163) (by omega)).trans z96_0.symm
                      refine Tr.istore (pc := 99) (i := 7) (ls2 := [(7, (0, r96)), (0, (2, 120)), (1, (0, a1)), (2, (0, a2)), (3, (1, p77_3)), (5, (0, p36_5)), (6, (0, p77_6))]) d_X12_pays_99 (by decide) rfl ?_
                      refine Tr.iload_n (pc := 101) (i := 1) d_X12_pays_101 rfl rfl ?_
                      refine Tr.iconst (pc := 102) d_X12_pays_102 (by decide) ?_
                      have J173 : ∀ (M : Mem) (p173_3 : Int), St Tru ws_X12_pays_120_w1 as_X12_pays_120_w1 M0 M → ((-9223372036854775808) ≤ p173_3 ∧ p173_3 ≤ 9223372036854775807) → rd M 120 85 = r1 → rd M 120 86 = r39 → rd M 126 1 = r87 → rd M 163 (p36_5 + 2100 * p77_6) = r96 → Tr l K 3 mX12_pays 173 [(0, (2, 120)), (1, (0, a1)), (2, (0, a2)), (3, (1, p173_3)), (5, (0, p36_5)), (6, (0, p77_6))] [] M (q_X12_pays_120_w1 M0) := by
                        intro M p173_3 hS bp173_3 k173_120_85 k173_120_86 k173_126_1 k173_163_p36_51p77_621000
                        refine Tr.iincV (pc := 173) (n2 := (p77_6 + 1)) (ls2 := [(6, (0, (p77_6 + 1))), (0, (2, 120)), (1, (0, a1)), (2, (0, a2)), (3, (1, p173_3)), (5, (0, p36_5))]) d_X12_pays_173 rfl (by decide) ((w32_id (by omega)).trans (by omega)) rfl ?_
                        refine Tr.goto (pc := 176) (tgt := 77) d_X12_pays_176 rfl ?_
                        refine Tr.pick [1, 2, 3, 4, 5, 0] (ls2 := [(0, (2, 120)), (1, (0, a1)), (2, (0, a2)), (3, (1, p173_3)), (5, (0, p36_5)), (6, (0, (p77_6 + 1)))]) rfl ?_
                        exact J77 _ _ _ hS (by omega) (by omega) k173_120_85 k173_120_86 (by omega)
                      refine Tr.icmp_ne (pc := 103) (tgt := 128) d_X12_pays_103 rfl (fun c103 => ?_) (fun c103 => ?_)
                      · refine Tr.iload (pc := 128) (i := 7) d_X12_pays_128 rfl ?_
                        refine Tr.if_eq (pc := 130) (tgt := 173) d_X12_pays_130 rfl (fun c130 => ?_) (fun c130 => ?_)
                        · refine Tr.pick [1, 2, 3, 4, 5, 6] (ls2 := [(0, (2, 120)), (1, (0, a1)), (2, (0, a2)), (3, (1, p77_3)), (5, (0, p36_5)), (6, (0, p77_6))]) rfl ?_
                          exact J173 _ _ hS (by omega) ((St.kp h96 (by decide) (by decide) (by decide)).trans k77_120_85) ((St.kp h96 (by decide) (by decide) (by decide)).trans k77_120_86) ((St.kp h96 (by decide) (by decide) (by decide)).trans er87) ((St.ka h96 (by decide) (by decide) (by decide)).trans qs96)
                        · refine Tr.iload (pc := 133) (i := 7) d_X12_pays_133 rfl ?_
                          refine Tr.iconst (pc := 135) d_X12_pays_135 (by decide) ?_
                          have J143 : ∀ (M : Mem), St Tru ws_X12_pays_120_w1 as_X12_pays_120_w1 M0 M → rd M 120 85 = r1 → rd M 120 86 = r39 → rd M 126 1 = r87 → rd M 163 (p36_5 + 2100 * p77_6) = r96 → Tr l K 3 mX12_pays 143 [(0, (2, 120)), (1, (0, a1)), (2, (0, a2)), (3, (1, p77_3)), (5, (0, p36_5)), (6, (0, p77_6)), (7, (0, r96))] [] M (q_X12_pays_120_w1 M0) := by
                            intro M  hS  k143_120_85 k143_120_86 k143_126_1 k143_163_p36_51p77_621000
                            refine Tr.aload_n (pc := 143) (i := 0) d_X12_pays_143 rfl rfl ?_
                            refine Tr.getf (pc := 144) d_X12_pays_144 f_12_234 (by decide) (by decide) (ty_120 hS.1.1) ?_
                            refine Tr.tp 164 (fx_120_73 hS.1.1) ?_
                            refine Tr.sipush (pc := 147) d_X12_pays_147 rfl (by decide) ?_
                            refine Tr.iload (pc := 150) (i := 6) d_X12_pays_150 rfl ?_
                            refine Tr.imul (pc := 152) d_X12_pays_152 ?_
                            refine Tr.tp (2100 * p77_6) ((w32_id (by omega)).trans (by omega)) ?_
                            refine Tr.iload (pc := 153) (i := 5) d_X12_pays_153 rfl ?_
                            refine Tr.iadd (pc := 155) d_X12_pays_155 ?_
                            refine Tr.tp (p36_5 + 2100 * p77_6) ((w32_id (by omega)).trans (by omega)) ?_
                            refine Tr.iald (pc := 156) d_X12_pays_156 (ty_164 hS.1.1) (by omega) (by omega) ?_
                            refine Tr.gen (P := fun v => (-1) ≤ v ∧ v ≤ 59) (ar_164 hS.1.2.1 _) (fun r156 er156 br156 => ?_)
                            refine Tr.iload_n (pc := 157) (i := 1) d_X12_pays_157 rfl rfl ?_
                            refine Tr.icmp_ne (pc := 158) (tgt := 173) d_X12_pays_158 rfl (fun c158 => ?_) (fun c158 => ?_)
                            · refine Tr.pick [0, 1, 2, 3, 4, 5] (ls2 := [(0, (2, 120)), (1, (0, a1)), (2, (0, a2)), (3, (1, p77_3)), (5, (0, p36_5)), (6, (0, p77_6))]) rfl ?_
                              exact J173 _ _ hS (by omega) k143_120_85 k143_120_86 k143_126_1 k143_163_p36_51p77_621000
                            · refine Tr.lload_n (pc := 161) (i := 3) d_X12_pays_161 rfl rfl ?_
                              refine Tr.aload_n (pc := 162) (i := 0) d_X12_pays_162 rfl rfl ?_
                              refine Tr.iload (pc := 163) (i := 6) d_X12_pays_163 rfl ?_
                              refine Tr.iload (pc := 165) (i := 7) d_X12_pays_165 rfl ?_
                              refine Tr.callV (pc := 167) (as := [_, _]) d_X12_pays_167 s_12_574 ok_X12_sips rfl rfl (Nat.le_of_ble_eq_true rfl) (Nat.le_of_ble_eq_true rfl) (by decide) (ty_120 hS.1.1) ?_
                              refine Tr.imp (Tr.deep (by decide) (sp_X12_sips_120_w1 hS.1 ((St.kp hS (by decide) (by decide) (by decide)).trans en_120_12) p77_6 (by omega) r96 (by omega) (Bk1.of hF_Bk1 (fun j => (St.ka hS (by decide) (by decide) (by decide))) (fun j => (St.ka hS (by decide) (by decide) (by decide))) (fun j => (St.ka hS (by decide) (by decide) (by decide))) (fun j => (St.ka hS (by decide) (by decide) (by decide))) (fun j => (St.ka hS (by decide) (by decide) (by decide))) (fun j => (St.ka hS (by decide) (by decide) (by decide))) (fun j => (St.ka hS (by decide) (by decide) (by decide))) (fun j => (St.ka hS (by decide) (by decide) (by decide))) (St.kp hS (by decide) (by decide) (by decide)) (St.kp hS (by decide) (by decide) (by decide)) (St.kp hS (by decide) (by decide) (by decide)) (St.kp hS (by decide) (by decide) (by decide))))) ?_
                              rintro M167 _ ⟨h167, r167, rfl, lr167, ur167⟩
                              have hS := St.tr hS h167 (by decide) (by decide)
                              refine Tr.sc [(0, r167), (1, p77_3)] rfl ?_
                              refine Tr.i2l (pc := 170) d_X12_pays_170 ?_
                              refine Tr.ladd (pc := 171) d_X12_pays_171 ?_
                              refine Tr.gen (P := fun v => (-9223372036854775808) ≤ v ∧ v ≤ 9223372036854775807) (w64_b _) (fun r171 er171 br171 => ?_)
                              refine Tr.lstore_n (pc := 172) (i := 3) (ls2 := [(3, (1, r171)), (0, (2, 120)), (1, (0, a1)), (2, (0, a2)), (5, (0, p36_5)), (6, (0, p77_6)), (7, (0, r96))]) d_X12_pays_172 rfl (by decide) rfl ?_
                              refine Tr.pick [1, 2, 3, 0, 4, 5] (ls2 := [(0, (2, 120)), (1, (0, a1)), (2, (0, a2)), (3, (1, r171)), (5, (0, p36_5)), (6, (0, p77_6))]) rfl ?_
                              exact J173 _ _ hS (by omega) ((St.kp h167 (by decide) (by decide) (by decide)).trans k143_120_85) ((St.kp h167 (by decide) (by decide) (by decide)).trans k143_120_86) ((St.kp h167 (by decide) (by decide) (by decide)).trans k143_126_1) ((St.ka h167 (by decide) (by decide) (by decide)).trans k143_163_p36_51p77_621000)
                          refine Tr.icmp_ne (pc := 136) (tgt := 143) d_X12_pays_136 rfl (fun c136 => ?_) (fun c136 => ?_)
                          · refine Tr.pick [1, 2, 3, 4, 5, 6, 0] (ls2 := [(0, (2, 120)), (1, (0, a1)), (2, (0, a2)), (3, (1, p77_3)), (5, (0, p36_5)), (6, (0, p77_6)), (7, (0, r96))]) rfl ?_
                            exact J143 _ hS ((St.kp h96 (by decide) (by decide) (by decide)).trans k77_120_85) ((St.kp h96 (by decide) (by decide) (by decide)).trans k77_120_86) ((St.kp h96 (by decide) (by decide) (by decide)).trans er87) ((St.ka h96 (by decide) (by decide) (by decide)).trans qs96)
                          · refine Tr.iload_n (pc := 139) (i := 2) d_X12_pays_139 rfl rfl ?_
                            refine Tr.if_ne (pc := 140) (tgt := 173) d_X12_pays_140 rfl (fun c140 => ?_) (fun c140 => ?_)
                            · refine Tr.pick [1, 2, 3, 4, 5, 6] (ls2 := [(0, (2, 120)), (1, (0, a1)), (2, (0, a2)), (3, (1, p77_3)), (5, (0, p36_5)), (6, (0, p77_6))]) rfl ?_
                              exact J173 _ _ hS (by omega) ((St.kp h96 (by decide) (by decide) (by decide)).trans k77_120_85) ((St.kp h96 (by decide) (by decide) (by decide)).trans k77_120_86) ((St.kp h96 (by decide) (by decide) (by decide)).trans er87) ((St.ka h96 (by decide) (by decide) (by decide)).trans qs96)
                            · refine Tr.pick [1, 2, 3, 4, 5, 6, 0] (ls2 := [(0, (2, 120)), (1, (0, a1)), (2, (0, a2)), (3, (1, p77_3)), (5, (0, p36_5)), (6, (0, p77_6)), (7, (0, r96))]) rfl ?_
                              exact J143 _ hS ((St.kp h96 (by decide) (by decide) (by decide)).trans k77_120_85) ((St.kp h96 (by decide) (by decide) (by decide)).trans k77_120_86) ((St.kp h96 (by decide) (by decide) (by decide)).trans er87) ((St.ka h96 (by decide) (by decide) (by decide)).trans qs96)
                      · refine Tr.lload_n (pc := 106) (i := 3) d_X12_pays_106 rfl rfl ?_
                        refine Tr.iload (pc := 107) (i := 7) d_X12_pays_107 rfl ?_
                        have J123 : ∀ (M : Mem) (q123_1 : Int), St Tru ws_X12_pays_120_w1 as_X12_pays_120_w1 M0 M → ((-2147483648) ≤ q123_1 ∧ q123_1 ≤ 2147483647) → rd M 120 85 = r1 → rd M 120 86 = r39 → rd M 126 1 = r87 → rd M 163 (p36_5 + 2100 * p77_6) = r96 → Tr l K 3 mX12_pays 123 [(0, (2, 120)), (1, (0, a1)), (2, (0, a2)), (5, (0, p36_5)), (6, (0, p77_6))] [(1, q123_1), (1, p77_3)] M (q_X12_pays_120_w1 M0) := by
                          intro M q123_1 hS bq123_1 k123_120_85 k123_120_86 k123_126_1 k123_163_p36_51p77_621000
                          refine Tr.ladd (pc := 123) d_X12_pays_123 ?_
                          refine Tr.gen (P := fun v => (-9223372036854775808) ≤ v ∧ v ≤ 9223372036854775807) (w64_b _) (fun r123 er123 br123 => ?_)
                          refine Tr.lstore_n (pc := 124) (i := 3) (ls2 := [(3, (1, r123)), (0, (2, 120)), (1, (0, a1)), (2, (0, a2)), (5, (0, p36_5)), (6, (0, p77_6))]) d_X12_pays_124 rfl (by decide) rfl ?_
                          refine Tr.goto (pc := 125) (tgt := 173) d_X12_pays_125 rfl ?_
                          refine Tr.pick [1, 2, 3, 0, 4, 5] (ls2 := [(0, (2, 120)), (1, (0, a1)), (2, (0, a2)), (3, (1, r123)), (5, (0, p36_5)), (6, (0, p77_6))]) rfl ?_
                          exact J173 _ _ hS (by omega) k123_120_85 k123_120_86 k123_126_1 k123_163_p36_51p77_621000
                        refine Tr.if_ne (pc := 109) (tgt := 122) d_X12_pays_109 rfl (fun c109 => ?_) (fun c109 => ?_)
                        · refine Tr.lconst (pc := 122) (v := 0) d_X12_pays_122 rfl (by decide) ?_
                          refine Tr.pick [1, 2, 3, 5, 6] (ls2 := [(0, (2, 120)), (1, (0, a1)), (2, (0, a2)), (5, (0, p36_5)), (6, (0, p77_6))]) rfl ?_
                          exact J123 _ _ hS (by omega) ((St.kp h96 (by decide) (by decide) (by decide)).trans k77_120_85) ((St.kp h96 (by decide) (by decide) (by decide)).trans k77_120_86) ((St.kp h96 (by decide) (by decide) (by decide)).trans er87) ((St.ka h96 (by decide) (by decide) (by decide)).trans qs96)
                        · refine Tr.aload_n (pc := 112) (i := 0) d_X12_pays_112 rfl rfl ?_
                          refine Tr.iload (pc := 113) (i := 6) d_X12_pays_113 rfl ?_
                          refine Tr.callV (pc := 115) (as := [_]) d_X12_pays_115 s_12_568 ok_X12_sleeps rfl rfl (Nat.le_of_ble_eq_true rfl) (Nat.le_of_ble_eq_true rfl) (by decide) (ty_120 hS.1.1) ?_
                          refine Tr.imp (Tr.deep (by decide) (sp_X12_sleeps_120_w1 hS.1 ((St.kp hS (by decide) (by decide) (by decide)).trans en_120_12) p77_6 (by omega) (Bk1.of hF_Bk1 (fun j => (St.ka hS (by decide) (by decide) (by decide))) (fun j => (St.ka hS (by decide) (by decide) (by decide))) (fun j => (St.ka hS (by decide) (by decide) (by decide))) (fun j => (St.ka hS (by decide) (by decide) (by decide))) (fun j => (St.ka hS (by decide) (by decide) (by decide))) (fun j => (St.ka hS (by decide) (by decide) (by decide))) (fun j => (St.ka hS (by decide) (by decide) (by decide))) (fun j => (St.ka hS (by decide) (by decide) (by decide))) (St.kp hS (by decide) (by decide) (by decide)) (St.kp hS (by decide) (by decide) (by decide)) (St.kp hS (by decide) (by decide) (by decide)) (St.kp hS (by decide) (by decide) (by decide))))) ?_
                          rintro M115 _ ⟨h115, r115, rfl, lr115, ur115⟩
                          have hS := St.tr hS h115 (by decide) (by decide)
                          refine Tr.sc [(0, r115), (1, p77_3)] rfl ?_
                          refine Tr.i2l (pc := 118) d_X12_pays_118 ?_
                          refine Tr.goto (pc := 119) (tgt := 123) d_X12_pays_119 rfl ?_
                          refine Tr.pick [1, 2, 3, 5, 6] (ls2 := [(0, (2, 120)), (1, (0, a1)), (2, (0, a2)), (5, (0, p36_5)), (6, (0, p77_6))]) rfl ?_
                          exact J123 _ _ hS (by omega) ((St.kp h115 (by decide) (by decide) (by decide)).trans ((St.kp h96 (by decide) (by decide) (by decide)).trans k77_120_85)) ((St.kp h115 (by decide) (by decide) (by decide)).trans ((St.kp h96 (by decide) (by decide) (by decide)).trans k77_120_86)) ((St.kp h115 (by decide) (by decide) (by decide)).trans ((St.kp h96 (by decide) (by decide) (by decide)).trans er87)) ((St.ka h115 (by decide) (by decide) (by decide)).trans ((St.ka h96 (by decide) (by decide) (by decide)).trans qs96))
                refine Tr.pick [1, 2, 3, 4, 5, 0] (ls2 := [(0, (2, 120)), (1, (0, a1)), (2, (0, a2)), (3, (1, p74_3)), (5, (0, p36_5)), (6, (0, 0))]) rfl ?_
                exact J77 _ _ _ _ hS (by omega) (by omega) k74_120_85 k74_120_86 (Nat.lt_succ_self _)
              refine Tr.icmp_eq (pc := 47) (tgt := 74) d_X12_pays_47 rfl (fun c47 => ?_) (fun c47 => ?_)
              · refine Tr.pick [0, 1, 2, 3, 4] (ls2 := [(0, (2, 120)), (1, (0, a1)), (2, (0, a2)), (3, (1, p36_3)), (5, (0, p36_5))]) rfl ?_
                exact J74 _ _ hS (by omega) k36_120_85 er39
              · refine Tr.aload_n (pc := 50) (i := 0) d_X12_pays_50 rfl rfl ?_
                refine Tr.getf (pc := 51) d_X12_pays_51 f_12_228 (by decide) (by decide) (ty_120 hS.1.1) ?_
                refine Tr.tp 162 (fx_120_71 hS.1.1) ?_
                refine Tr.iload (pc := 54) (i := 5) d_X12_pays_54 rfl ?_
                refine Tr.iald (pc := 56) d_X12_pays_56 (ty_162 hS.1.1) (by omega) (by omega) ?_
                refine Tr.gen (P := fun v => (-1) ≤ v ∧ v ≤ 59) (ar_162 hS.1.2.1 _) (fun r56 er56 br56 => ?_)
                refine Tr.iload_n (pc := 57) (i := 1) d_X12_pays_57 rfl rfl ?_
                refine Tr.icmp_ne (pc := 58) (tgt := 74) d_X12_pays_58 rfl (fun c58 => ?_) (fun c58 => ?_)
                · refine Tr.pick [0, 1, 2, 3, 4] (ls2 := [(0, (2, 120)), (1, (0, a1)), (2, (0, a2)), (3, (1, p36_3)), (5, (0, p36_5))]) rfl ?_
                  exact J74 _ _ hS (by omega) k36_120_85 er39
                · refine Tr.lload_n (pc := 61) (i := 3) d_X12_pays_61 rfl rfl ?_
                  refine Tr.aload_n (pc := 62) (i := 0) d_X12_pays_62 rfl rfl ?_
                  refine Tr.getf (pc := 63) d_X12_pays_63 f_12_51 (by decide) (by decide) (ty_120 hS.1.1) ?_
                  refine Tr.tp 122 (fx_120_13 hS.1.1) ?_
                  refine Tr.aload_n (pc := 66) (i := 0) d_X12_pays_66 rfl rfl ?_
                  refine Tr.getf (pc := 67) d_X12_pays_67 f_12_48 (by decide) (by decide) (ty_120 hS.1.1) ?_
                  refine Tr.tp 1 ((St.kp hS (by decide) (by decide) (by decide)).trans en_120_12) ?_
                  refine Tr.iald (pc := 70) d_X12_pays_70 (ty_122 hS.1.1) (by omega) (by omega) ?_
                  refine Tr.gen (P := fun v => (-2147483648) ≤ v ∧ v ≤ 2147483647) (ir_122_1 hS.1.2.1) (fun r70 er70 br70 => ?_)
                  refine Tr.i2l (pc := 71) d_X12_pays_71 ?_
                  refine Tr.ladd (pc := 72) d_X12_pays_72 ?_
                  refine Tr.gen (P := fun v => (-9223372036854775808) ≤ v ∧ v ≤ 9223372036854775807) (w64_b _) (fun r72 er72 br72 => ?_)
                  refine Tr.lstore_n (pc := 73) (i := 3) (ls2 := [(3, (1, r72)), (0, (2, 120)), (1, (0, a1)), (2, (0, a2)), (5, (0, p36_5))]) d_X12_pays_73 rfl (by decide) rfl ?_
                  refine Tr.pick [1, 2, 3, 0, 4] (ls2 := [(0, (2, 120)), (1, (0, a1)), (2, (0, a2)), (3, (1, r72)), (5, (0, p36_5))]) rfl ?_
                  exact J74 _ _ hS (by omega) k36_120_85 er39
        refine Tr.pick [2, 3, 4, 1, 0] (ls2 := [(0, (2, 120)), (1, (0, a1)), (2, (0, a2)), (3, (1, 0)), (5, (0, 0))]) rfl ?_
        exact J36 _ _ _ _ hS (by omega) (by omega) k31_120_85 (Nat.lt_succ_self _)
      refine Tr.icmp_eq (pc := 18) (tgt := 31) d_X12_pays_18 rfl (fun c18 => ?_) (fun c18 => ?_)
      · refine Tr.pick [0, 1, 2] (ls2 := [(0, (2, 120)), (1, (0, a1)), (2, (0, a2))]) rfl ?_
        exact J31 _ hS (by omega) ((St.kp h10 (by decide) (by decide) (by decide)).trans er1)
      · refine Tr.aload_n (pc := 21) (i := 0) d_X12_pays_21 rfl rfl ?_
        refine Tr.iload_n (pc := 22) (i := 1) d_X12_pays_22 rfl rfl ?_
        refine Tr.callV (pc := 23) (as := [_]) d_X12_pays_23 s_12_656 ok_X12_isLine rfl rfl (Nat.le_of_ble_eq_true rfl) (Nat.le_of_ble_eq_true rfl) (by decide) (ty_120 hS.1.1) ?_
        refine Tr.imp (Tr.deep (by decide) (sp_X12_isLine_120_w1 hS.1 ((St.kp hS (by decide) (by decide) (by decide)).trans en_120_12) a1 (by omega))) ?_
        rintro M23 _ ⟨h23, r23, rfl, lr23, ur23, z23_0⟩
        have hS := St.tr hS h23 (by decide) (by decide)
        obtain ⟨w23_129_1, ew23_129_1⟩ : ∃ v, rd M23 129 1 = v := ⟨_, rfl⟩
        have bw23_129_1 : 0 ≤ w23_129_1 ∧ w23_129_1 ≤ 60 := by rw [← ew23_129_1]; exact ir_129_1 hS.1.2.1
        have ka23_129_1 : rd M23 129 1 = w23_129_1 := ew23_129_1
        refine Tr.sc [(0, r23)] rfl ?_
        refine Tr.if_ne (pc := 26) (tgt := 31) d_X12_pays_26 rfl (fun c26 => ?_) (fun c26 => ?_)
        · refine Tr.pick [0, 1, 2] (ls2 := [(0, (2, 120)), (1, (0, a1)), (2, (0, a2))]) rfl ?_
          exact J31 _ hS (by omega) ((St.kp h23 (by decide) (by decide) (by decide)).trans ((St.kp h10 (by decide) (by decide) (by decide)).trans er1))
        · refine Tr.iconst (pc := 29) d_X12_pays_29 (by decide) ?_
          exact Tr.iret (pc := 30) d_X12_pays_30 rfl ⟨hS, _, rfl, by omega, by omega⟩

def ws_X12_stretches_120_w1 : List (Int × Int) := [(120, 97), (120, 98), (120, 99)]
def as_X12_stretches_120_w1 : List Int := []
def q_X12_stretches_120_w1 (M0 M' : Mem) (r : Option PV) : Prop := St Tru ws_X12_stretches_120_w1 as_X12_stretches_120_w1 M0 M' ∧ ∃ v : Int, r = some (0, v) ∧ (-2147483648) ≤ v ∧ v ≤ 2147483647
set_option maxRecDepth 100000 in
set_option maxHeartbeats 4000000 in
theorem sp_X12_stretches_120_w1 {l : Launch} {K : EC} {M0 : Mem} (hI : In Tru M0) (en_120_12 : rd M0 120 12 = 1) (a1 : Int) (ha1 : (-2147483648) ≤ a1 ∧ a1 ≤ 2147483647)  : Tr l K 2 mX12_stretches 0 [(0, (2, 120)), (1, (0, a1))] [] M0 (q_X12_stretches_120_w1 M0) := by
  have hS : St Tru ws_X12_stretches_120_w1 as_X12_stretches_120_w1 M0 M0 := St.rf hI
  refine Tr.aload_n (pc := 0) (i := 0) d_X12_stretches_0 rfl rfl ?_
  refine Tr.getz (pc := 1) d_X12_stretches_1 f_12_270 (by decide) (ty_120 hS.1.1) ?_
  refine Tr.gen (P := fun v => 0 ≤ v ∧ v ≤ 1) (ir_120_85 hS.1.2.1) (fun r1 er1 br1 => ?_)
  refine Tr.if_eq (pc := 4) (tgt := 15) d_X12_stretches_4 rfl (fun c4 => ?_) (fun c4 => ?_)
  · refine Tr.iconst (pc := 15) d_X12_stretches_15 (by decide) ?_
    exact Tr.iret (pc := 16) d_X12_stretches_16 rfl ⟨hS, _, rfl, by omega, by omega⟩
  · refine Tr.aload_n (pc := 7) (i := 0) d_X12_stretches_7 rfl rfl ?_
    refine Tr.iload_n (pc := 8) (i := 1) d_X12_stretches_8 rfl rfl ?_
    refine Tr.callV (pc := 9) (as := [_]) d_X12_stretches_9 s_12_555 ok_X12_isPart rfl rfl (Nat.le_of_ble_eq_true rfl) (Nat.le_of_ble_eq_true rfl) (by decide) (ty_120 hS.1.1) ?_
    refine Tr.imp (Tr.deep (by decide) (sp_X12_isPart_120_w1 hS.1 ((St.kp hS (by decide) (by decide) (by decide)).trans en_120_12) a1 (by omega))) ?_
    rintro M9 _ ⟨h9, r9, rfl, lr9, ur9, z9_0⟩
    have hS := St.tr hS h9 (by decide) (by decide)
    obtain ⟨w9_126_1, ew9_126_1⟩ : ∃ v, rd M9 126 1 = v := ⟨_, rfl⟩
    have bw9_126_1 : 0 ≤ w9_126_1 ∧ w9_126_1 ≤ 6 := by rw [← ew9_126_1]; exact ir_126_1 hS.1.2.1
    have ka9_126_1 : rd M9 126 1 = w9_126_1 := ew9_126_1
    refine Tr.sc [(0, r9)] rfl ?_
    refine Tr.if_ne (pc := 12) (tgt := 17) d_X12_stretches_12 rfl (fun c12 => ?_) (fun c12 => ?_)
    · refine Tr.aload_n (pc := 17) (i := 0) d_X12_stretches_17 rfl rfl ?_
      refine Tr.iload_n (pc := 18) (i := 1) d_X12_stretches_18 rfl rfl ?_
      refine Tr.iconst (pc := 19) d_X12_stretches_19 (by decide) ?_
      refine Tr.callV (pc := 20) (as := [_, _]) d_X12_stretches_20 s_12_644 ok_X12_finds rfl rfl (Nat.le_of_ble_eq_true rfl) (Nat.le_of_ble_eq_true rfl) (by decide) (ty_120 hS.1.1) ?_
      refine Tr.imp (Tr.deep (by decide) (sp_X12_finds_120 hS.1 a1 (by omega) (-1) (by omega))) ?_
      rintro M20 _ ⟨h20, r20, rfl, lr20, ur20, z20_0⟩
      have hS := St.tr hS h20 (by decide) (by decide)
      refine Tr.sc [(0, r20)] rfl ?_
      refine Tr.istore_n (pc := 23) (i := 2) (ls2 := [(2, (0, r20)), (0, (2, 120)), (1, (0, a1))]) d_X12_stretches_23 rfl (by decide) rfl ?_
      refine Tr.iload_n (pc := 24) (i := 2) d_X12_stretches_24 rfl rfl ?_
      refine Tr.if_eq (pc := 25) (tgt := 32) d_X12_stretches_25 rfl (fun c25 => ?_) (fun c25 => ?_)
      · refine Tr.aload_n (pc := 32) (i := 0) d_X12_stretches_32 rfl rfl ?_
        refine Tr.getf (pc := 33) d_X12_stretches_33 f_12_312 (by decide) (by decide) (ty_120 hS.1.1) ?_
        refine Tr.gen (P := fun v => (-2147483648) ≤ v ∧ v ≤ 2147483647) (ir_120_99 hS.1.2.1) (fun r33 er33 br33 => ?_)
        exact Tr.iret (pc := 36) d_X12_stretches_36 rfl ⟨hS, _, rfl, by omega, by omega⟩
      · refine Tr.iconst (pc := 28) d_X12_stretches_28 (by decide) ?_
        refine Tr.goto (pc := 29) (tgt := 36) d_X12_stretches_29 rfl ?_
        exact Tr.iret (pc := 36) d_X12_stretches_36 rfl ⟨hS, _, rfl, by omega, by omega⟩
    · refine Tr.iconst (pc := 15) d_X12_stretches_15 (by decide) ?_
      exact Tr.iret (pc := 16) d_X12_stretches_16 rfl ⟨hS, _, rfl, by omega, by omega⟩

def ws_X12_stretch_120_w1 : List (Int × Int) := [(120, 97), (120, 98), (120, 99)]
def as_X12_stretch_120_w1 : List Int := []
def q_X12_stretch_120_w1 (M0 M' : Mem) (r : Option PV) : Prop := St Tru ws_X12_stretch_120_w1 as_X12_stretch_120_w1 M0 M' ∧ ∃ v : Int, r = some (0, v) ∧ (-2147483648) ≤ v ∧ v ≤ 2147483647
set_option maxRecDepth 100000 in
set_option maxHeartbeats 4000000 in
theorem sp_X12_stretch_120_w1 {l : Launch} {K : EC} {M0 : Mem} (hI : In Tru M0) (en_120_12 : rd M0 120 12 = 1) (a1 : Int) (ha1 : (-2147483648) ≤ a1 ∧ a1 ≤ 2147483647) (a2 : Int) (ha2 : (-2147483648) ≤ a2 ∧ a2 ≤ 2147483647) (a3 : Int) (ha3 : (-2147483648) ≤ a3 ∧ a3 ≤ 2147483647)  : Tr l K 2 mX12_stretch 0 [(0, (2, 120)), (1, (0, a1)), (2, (0, a2)), (3, (0, a3))] [] M0 (q_X12_stretch_120_w1 M0) := by
  have hS : St Tru ws_X12_stretch_120_w1 as_X12_stretch_120_w1 M0 M0 := St.rf hI
  refine Tr.aload_n (pc := 0) (i := 0) d_X12_stretch_0 rfl rfl ?_
  refine Tr.getz (pc := 1) d_X12_stretch_1 f_12_270 (by decide) (ty_120 hS.1.1) ?_
  refine Tr.gen (P := fun v => 0 ≤ v ∧ v ≤ 1) (ir_120_85 hS.1.2.1) (fun r1 er1 br1 => ?_)
  refine Tr.if_eq (pc := 4) (tgt := 37) d_X12_stretch_4 rfl (fun c4 => ?_) (fun c4 => ?_)
  · refine Tr.iconst (pc := 37) d_X12_stretch_37 (by decide) ?_
    exact Tr.iret (pc := 38) d_X12_stretch_38 rfl ⟨hS, _, rfl, by omega, by omega⟩
  · refine Tr.aload_n (pc := 7) (i := 0) d_X12_stretch_7 rfl rfl ?_
    refine Tr.iload_n (pc := 8) (i := 1) d_X12_stretch_8 rfl rfl ?_
    refine Tr.callV (pc := 9) (as := [_]) d_X12_stretch_9 s_12_555 ok_X12_isPart rfl rfl (Nat.le_of_ble_eq_true rfl) (Nat.le_of_ble_eq_true rfl) (by decide) (ty_120 hS.1.1) ?_
    refine Tr.imp (Tr.deep (by decide) (sp_X12_isPart_120_w1 hS.1 ((St.kp hS (by decide) (by decide) (by decide)).trans en_120_12) a1 (by omega))) ?_
    rintro M9 _ ⟨h9, r9, rfl, lr9, ur9, z9_0⟩
    have hS := St.tr hS h9 (by decide) (by decide)
    obtain ⟨w9_126_1, ew9_126_1⟩ : ∃ v, rd M9 126 1 = v := ⟨_, rfl⟩
    have bw9_126_1 : 0 ≤ w9_126_1 ∧ w9_126_1 ≤ 6 := by rw [← ew9_126_1]; exact ir_126_1 hS.1.2.1
    have ka9_126_1 : rd M9 126 1 = w9_126_1 := ew9_126_1
    refine Tr.sc [(0, r9)] rfl ?_
    refine Tr.if_eq (pc := 12) (tgt := 37) d_X12_stretch_12 rfl (fun c12 => ?_) (fun c12 => ?_)
    · refine Tr.iconst (pc := 37) d_X12_stretch_37 (by decide) ?_
      exact Tr.iret (pc := 38) d_X12_stretch_38 rfl ⟨hS, _, rfl, by omega, by omega⟩
    · refine Tr.iload_n (pc := 15) (i := 2) d_X12_stretch_15 rfl rfl ?_
      refine Tr.if_lt (pc := 16) (tgt := 37) d_X12_stretch_16 rfl (fun c16 => ?_) (fun c16 => ?_)
      · refine Tr.iconst (pc := 37) d_X12_stretch_37 (by decide) ?_
        exact Tr.iret (pc := 38) d_X12_stretch_38 rfl ⟨hS, _, rfl, by omega, by omega⟩
      · refine Tr.iload_n (pc := 19) (i := 3) d_X12_stretch_19 rfl rfl ?_
        refine Tr.iconst (pc := 20) d_X12_stretch_20 (by decide) ?_
        refine Tr.iconst (pc := 21) d_X12_stretch_21 (by decide) ?_
        refine Tr.callS (pc := 22) (as := [_, _, _]) d_X12_stretch_22 s_12_467 ok_X12_is rfl rfl (Nat.le_of_ble_eq_true rfl) (Nat.le_of_ble_eq_true rfl) ?_
        refine Tr.imp (Tr.deep (by decide) (sp_X12_is hS.1 a3 (by omega) 0 (by omega) 2 (by omega))) ?_
        rintro M22 _ ⟨h22, r22, rfl, lr22, ur22, wr22⟩
        have hS := St.tr hS h22 (by decide) (by decide)
        refine Tr.sc [(0, r22)] rfl ?_
        refine Tr.if_eq (pc := 25) (tgt := 37) d_X12_stretch_25 rfl (fun c25 => ?_) (fun c25 => ?_)
        · refine Tr.iconst (pc := 37) d_X12_stretch_37 (by decide) ?_
          exact Tr.iret (pc := 38) d_X12_stretch_38 rfl ⟨hS, _, rfl, by omega, by omega⟩
        · refine Tr.aload_n (pc := 28) (i := 0) d_X12_stretch_28 rfl rfl ?_
          refine Tr.iload_n (pc := 29) (i := 1) d_X12_stretch_29 rfl rfl ?_
          refine Tr.iload_n (pc := 30) (i := 2) d_X12_stretch_30 rfl rfl ?_
          refine Tr.callV (pc := 31) (as := [_, _]) d_X12_stretch_31 s_12_644 ok_X12_finds rfl rfl (Nat.le_of_ble_eq_true rfl) (Nat.le_of_ble_eq_true rfl) (by decide) (ty_120 hS.1.1) ?_
          refine Tr.imp (Tr.deep (by decide) (sp_X12_finds_120 hS.1 a1 (by omega) a2 (by omega))) ?_
          rintro M31 _ ⟨h31, r31, rfl, lr31, ur31, z31_0⟩
          have hS := St.tr hS h31 (by decide) (by decide)
          refine Tr.sc [(0, r31)] rfl ?_
          refine Tr.if_ne (pc := 34) (tgt := 39) d_X12_stretch_34 rfl (fun c34 => ?_) (fun c34 => ?_)
          · refine Tr.iload_n (pc := 39) (i := 3) d_X12_stretch_39 rfl rfl ?_
            refine Tr.if_ne (pc := 40) (tgt := 50) d_X12_stretch_40 rfl (fun c40 => ?_) (fun c40 => ?_)
            · refine Tr.iload_n (pc := 50) (i := 3) d_X12_stretch_50 rfl rfl ?_
              refine Tr.iconst (pc := 51) d_X12_stretch_51 (by decide) ?_
              refine Tr.icmp_ne (pc := 52) (tgt := 62) d_X12_stretch_52 rfl (fun c52 => ?_) (fun c52 => ?_)
              · refine Tr.aload_n (pc := 62) (i := 0) d_X12_stretch_62 rfl rfl ?_
                refine Tr.iload_n (pc := 63) (i := 1) d_X12_stretch_63 rfl rfl ?_
                refine Tr.callV (pc := 64) (as := [_]) d_X12_stretch_64 s_12_647 ok_X12_onIn rfl rfl (Nat.le_of_ble_eq_true rfl) (Nat.le_of_ble_eq_true rfl) (by decide) (ty_120 hS.1.1) ?_
                refine Tr.imp (Tr.deep (by decide) (sp_X12_onIn_120 hS.1 a1 (by omega))) ?_
                rintro M64 _ ⟨h64, r64, rfl, lr64, ur64⟩
                have hS := St.tr hS h64 (by decide) (by decide)
                refine Tr.sc [(0, r64)] rfl ?_
                exact Tr.iret (pc := 67) d_X12_stretch_67 rfl ⟨hS, _, rfl, by omega, by omega⟩
              · refine Tr.aload_n (pc := 55) (i := 0) d_X12_stretch_55 rfl rfl ?_
                refine Tr.getf (pc := 56) d_X12_stretch_56 f_12_309 (by decide) (by decide) (ty_120 hS.1.1) ?_
                refine Tr.gen (P := fun v => 0 ≤ v ∧ v ≤ 2100) (ir_120_98 hS.1.2.1) (fun r56 er56 br56 => ?_)
                refine Tr.goto (pc := 59) (tgt := 67) d_X12_stretch_59 rfl ?_
                exact Tr.iret (pc := 67) d_X12_stretch_67 rfl ⟨hS, _, rfl, by omega, by omega⟩
            · refine Tr.aload_n (pc := 43) (i := 0) d_X12_stretch_43 rfl rfl ?_
              refine Tr.getf (pc := 44) d_X12_stretch_44 f_12_306 (by decide) (by decide) (ty_120 hS.1.1) ?_
              refine Tr.gen (P := fun v => 0 ≤ v ∧ v ≤ 2100) (ir_120_97 hS.1.2.1) (fun r44 er44 br44 => ?_)
              refine Tr.goto (pc := 47) (tgt := 67) d_X12_stretch_47 rfl ?_
              exact Tr.iret (pc := 67) d_X12_stretch_67 rfl ⟨hS, _, rfl, by omega, by omega⟩
          · refine Tr.iconst (pc := 37) d_X12_stretch_37 (by decide) ?_
            exact Tr.iret (pc := 38) d_X12_stretch_38 rfl ⟨hS, _, rfl, by omega, by omega⟩

def ws_X12_lines_120_w1 : List (Int × Int) := [(120, 97), (120, 98), (120, 99)]
def as_X12_lines_120_w1 : List Int := []
def q_X12_lines_120_w1 (M0 M' : Mem) (r : Option PV) : Prop := St Tru ws_X12_lines_120_w1 as_X12_lines_120_w1 M0 M' ∧ ∃ v : Int, r = some (1, v) ∧ (-9223372036854775808) ≤ v ∧ v ≤ 9223372036854775807
set_option maxRecDepth 100000 in
set_option maxHeartbeats 4000000 in
theorem sp_X12_lines_120_w1 {l : Launch} {K : EC} {M0 : Mem} (hI : In Tru M0) (en_120_12 : rd M0 120 12 = 1) (a1 : Int) (ha1 : (-2147483648) ≤ a1 ∧ a1 ≤ 2147483647) (a2 : Int) (ha2 : (-2147483648) ≤ a2 ∧ a2 ≤ 2147483647)  : Tr l K 2 mX12_lines 0 [(0, (2, 120)), (1, (0, a1)), (2, (0, a2))] [] M0 (q_X12_lines_120_w1 M0) := by
  have hS : St Tru ws_X12_lines_120_w1 as_X12_lines_120_w1 M0 M0 := St.rf hI
  refine Tr.aload_n (pc := 0) (i := 0) d_X12_lines_0 rfl rfl ?_
  refine Tr.getz (pc := 1) d_X12_lines_1 f_12_270 (by decide) (ty_120 hS.1.1) ?_
  refine Tr.gen (P := fun v => 0 ≤ v ∧ v ≤ 1) (ir_120_85 hS.1.2.1) (fun r1 er1 br1 => ?_)
  refine Tr.if_eq (pc := 4) (tgt := 28) d_X12_lines_4 rfl (fun c4 => ?_) (fun c4 => ?_)
  · refine Tr.lconst (pc := 28) (v := 0) d_X12_lines_28 rfl (by decide) ?_
    refine Tr.goto (pc := 29) (tgt := 37) d_X12_lines_29 rfl ?_
    exact Tr.lret (pc := 37) d_X12_lines_37 rfl ⟨hS, _, rfl, by omega, by omega⟩
  · refine Tr.aload_n (pc := 7) (i := 0) d_X12_lines_7 rfl rfl ?_
    refine Tr.iload_n (pc := 8) (i := 1) d_X12_lines_8 rfl rfl ?_
    refine Tr.callV (pc := 9) (as := [_]) d_X12_lines_9 s_12_555 ok_X12_isPart rfl rfl (Nat.le_of_ble_eq_true rfl) (Nat.le_of_ble_eq_true rfl) (by decide) (ty_120 hS.1.1) ?_
    refine Tr.imp (Tr.deep (by decide) (sp_X12_isPart_120_w1 hS.1 ((St.kp hS (by decide) (by decide) (by decide)).trans en_120_12) a1 (by omega))) ?_
    rintro M9 _ ⟨h9, r9, rfl, lr9, ur9, z9_0⟩
    have hS := St.tr hS h9 (by decide) (by decide)
    obtain ⟨w9_126_1, ew9_126_1⟩ : ∃ v, rd M9 126 1 = v := ⟨_, rfl⟩
    have bw9_126_1 : 0 ≤ w9_126_1 ∧ w9_126_1 ≤ 6 := by rw [← ew9_126_1]; exact ir_126_1 hS.1.2.1
    have ka9_126_1 : rd M9 126 1 = w9_126_1 := ew9_126_1
    refine Tr.sc [(0, r9)] rfl ?_
    refine Tr.if_eq (pc := 12) (tgt := 28) d_X12_lines_12 rfl (fun c12 => ?_) (fun c12 => ?_)
    · refine Tr.lconst (pc := 28) (v := 0) d_X12_lines_28 rfl (by decide) ?_
      refine Tr.goto (pc := 29) (tgt := 37) d_X12_lines_29 rfl ?_
      exact Tr.lret (pc := 37) d_X12_lines_37 rfl ⟨hS, _, rfl, by omega, by omega⟩
    · refine Tr.iload_n (pc := 15) (i := 2) d_X12_lines_15 rfl rfl ?_
      refine Tr.if_lt (pc := 16) (tgt := 28) d_X12_lines_16 rfl (fun c16 => ?_) (fun c16 => ?_)
      · refine Tr.lconst (pc := 28) (v := 0) d_X12_lines_28 rfl (by decide) ?_
        refine Tr.goto (pc := 29) (tgt := 37) d_X12_lines_29 rfl ?_
        exact Tr.lret (pc := 37) d_X12_lines_37 rfl ⟨hS, _, rfl, by omega, by omega⟩
      · refine Tr.aload_n (pc := 19) (i := 0) d_X12_lines_19 rfl rfl ?_
        refine Tr.iload_n (pc := 20) (i := 1) d_X12_lines_20 rfl rfl ?_
        refine Tr.iload_n (pc := 21) (i := 2) d_X12_lines_21 rfl rfl ?_
        refine Tr.callV (pc := 22) (as := [_, _]) d_X12_lines_22 s_12_644 ok_X12_finds rfl rfl (Nat.le_of_ble_eq_true rfl) (Nat.le_of_ble_eq_true rfl) (by decide) (ty_120 hS.1.1) ?_
        refine Tr.imp (Tr.deep (by decide) (sp_X12_finds_120 hS.1 a1 (by omega) a2 (by omega))) ?_
        rintro M22 _ ⟨h22, r22, rfl, lr22, ur22, z22_0⟩
        have hS := St.tr hS h22 (by decide) (by decide)
        refine Tr.sc [(0, r22)] rfl ?_
        refine Tr.if_ne (pc := 25) (tgt := 32) d_X12_lines_25 rfl (fun c25 => ?_) (fun c25 => ?_)
        · refine Tr.aload_n (pc := 32) (i := 0) d_X12_lines_32 rfl rfl ?_
          refine Tr.iload_n (pc := 33) (i := 1) d_X12_lines_33 rfl rfl ?_
          refine Tr.callV (pc := 34) (as := [_]) d_X12_lines_34 s_12_650 ok_X12_linesIn rfl rfl (Nat.le_of_ble_eq_true rfl) (Nat.le_of_ble_eq_true rfl) (by decide) (ty_120 hS.1.1) ?_
          refine Tr.imp (Tr.deep (by decide) (sp_X12_linesIn_120 hS.1 a1 (by omega))) ?_
          rintro M34 _ ⟨h34, r34, rfl, lr34, ur34⟩
          have hS := St.tr hS h34 (by decide) (by decide)
          refine Tr.sc [(1, r34)] rfl ?_
          exact Tr.lret (pc := 37) d_X12_lines_37 rfl ⟨hS, _, rfl, by omega, by omega⟩
        · refine Tr.lconst (pc := 28) (v := 0) d_X12_lines_28 rfl (by decide) ?_
          refine Tr.goto (pc := 29) (tgt := 37) d_X12_lines_29 rfl ?_
          exact Tr.lret (pc := 37) d_X12_lines_37 rfl ⟨hS, _, rfl, by omega, by omega⟩

def ws_X12_tails_120_w1 : List (Int × Int) := []
def as_X12_tails_120_w1 : List Int := []
def q_X12_tails_120_w1 (a1 : Int) (M0 M' : Mem) (r : Option PV) : Prop := St Tru ws_X12_tails_120_w1 as_X12_tails_120_w1 M0 M' ∧ ∃ v : Int, r = some (0, v) ∧ (-2147483648) ≤ v ∧ v ≤ 2147483647 ∧ (rd M' 126 1 ≤ a1 ∨ v ≤ 50)
set_option maxRecDepth 100000 in
set_option maxHeartbeats 4000000 in
theorem sp_X12_tails_120_w1 {l : Launch} {K : EC} {M0 : Mem} (hI : In Tru M0) (en_120_12 : rd M0 120 12 = 1) (a1 : Int) (ha1 : 0 ≤ a1 ∧ a1 ≤ 5)  (hF_Bk1 : Bk1 M0) : Tr l K 1 mX12_tails 0 [(0, (2, 120)), (1, (0, a1))] [] M0 (q_X12_tails_120_w1 a1 M0) := by
  have hS : St Tru ws_X12_tails_120_w1 as_X12_tails_120_w1 M0 M0 := St.rf hI
  obtain ⟨g126_1, eg126_1⟩ : ∃ v, rd M0 126 1 = v := ⟨_, rfl⟩
  have bg126_1 : 0 ≤ g126_1 ∧ g126_1 ≤ 6 := by rw [← eg126_1]; exact ir_126_1 hI.2.1
  refine Tr.aload_n (pc := 0) (i := 0) d_X12_tails_0 rfl rfl ?_
  refine Tr.iload_n (pc := 1) (i := 1) d_X12_tails_1 rfl rfl ?_
  refine Tr.iconst (pc := 2) d_X12_tails_2 (by decide) ?_
  refine Tr.callV (pc := 3) (as := [_, _]) d_X12_tails_3 s_12_565 ok_X12_rate rfl rfl (Nat.le_of_ble_eq_true rfl) (Nat.le_of_ble_eq_true rfl) (by decide) (ty_120 hS.1.1) ?_
  refine Tr.imp (Tr.deep (by decide) (sp_X12_rate_120_w1 hS.1 ((St.kp hS (by decide) (by decide) (by decide)).trans en_120_12) a1 (by omega) 5 (by omega) (Bk1.of hF_Bk1 (fun j => (St.ka hS (by decide) (by decide) (by decide))) (fun j => (St.ka hS (by decide) (by decide) (by decide))) (fun j => (St.ka hS (by decide) (by decide) (by decide))) (fun j => (St.ka hS (by decide) (by decide) (by decide))) (fun j => (St.ka hS (by decide) (by decide) (by decide))) (fun j => (St.ka hS (by decide) (by decide) (by decide))) (fun j => (St.ka hS (by decide) (by decide) (by decide))) (fun j => (St.ka hS (by decide) (by decide) (by decide))) (St.kp hS (by decide) (by decide) (by decide)) (St.kp hS (by decide) (by decide) (by decide)) (St.kp hS (by decide) (by decide) (by decide)) (St.kp hS (by decide) (by decide) (by decide))))) ?_
  rintro M3 _ ⟨h3, r3, rfl, lr3, ur3, z3_0⟩
  have hS := St.tr hS h3 (by decide) (by decide)
  have ka3_126_1 : rd M3 126 1 = g126_1 := ((St.kp h3 (by decide) (by decide) (by decide)).trans eg126_1)
  refine Tr.sc [(0, r3)] rfl ?_
  have kr_126_1 : rd M3 126 1 = g126_1 := ((St.kp h3 (by decide) (by decide) (by decide)).trans eg126_1)
  exact Tr.iret (pc := 6) d_X12_tails_6 rfl ⟨hS, _, rfl, by omega, by omega, by omega⟩

set_option maxRecDepth 100000 in
set_option maxHeartbeats 4000000 in
theorem ns_X12_tails_120_w1 {l : Launch} {K : EC} {M0 : Mem} {G126_1 : Int} (hI : In Tru M0) (k126_1 : rd M0 126 1 = G126_1) (en_120_12 : rd M0 120 12 = 1) (a1 : Int) (ha1 : 0 ≤ a1 ∧ a1 ≤ 5)  (hF_Bk1 : Bk1 M0) : Tr l K 1 mX12_tails 0 [(0, (2, 120)), (1, (0, a1))] [] M0 (fun M' r => St Tru ws_X12_tails_120_w1 as_X12_tails_120_w1 M0 M' ∧ ∃ v : Int, r = some (0, v) ∧ (-2147483648) ≤ v ∧ v ≤ 2147483647 ∧ Hd (G126_1 ≤ a1 ∨ v ≤ 50)) := by
  subst k126_1
  refine Tr.imp (sp_X12_tails_120_w1 hI en_120_12 a1 ha1 hF_Bk1) ?_
  rintro M' _ ⟨hS, v, rfl, lr, ur, z0⟩
  rewrite [show rd M' 126 1 = rd M0 126 1 from ((St.kp hS (by decide) (by decide) (by decide)).trans rfl)] at z0
  exact ⟨hS, v, rfl, lr, ur, hd_i z0⟩

def ws_X12_wasted_120_w1 : List (Int × Int) := [(120, 97), (120, 98), (120, 99)]
def as_X12_wasted_120_w1 : List Int := []
def q_X12_wasted_120_w1 (M0 M' : Mem) (r : Option PV) : Prop := St Tru ws_X12_wasted_120_w1 as_X12_wasted_120_w1 M0 M' ∧ ∃ v : Int, r = some (0, v) ∧ (-2147483648) ≤ v ∧ v ≤ 2147483647
set_option maxRecDepth 100000 in
set_option maxHeartbeats 4000000 in
theorem sp_X12_wasted_120_w1 {l : Launch} {K : EC} {M0 : Mem} (hI : In Tru M0) (en_120_12 : rd M0 120 12 = 1) (a1 : Int) (ha1 : (-2147483648) ≤ a1 ∧ a1 ≤ 2147483647)  (hF_Bk1 : Bk1 M0) : Tr l K 2 mX12_wasted 0 [(0, (2, 120)), (1, (0, a1))] [] M0 (q_X12_wasted_120_w1 M0) := by
  have hS : St Tru ws_X12_wasted_120_w1 as_X12_wasted_120_w1 M0 M0 := St.rf hI
  refine Tr.aload_n (pc := 0) (i := 0) d_X12_wasted_0 rfl rfl ?_
  refine Tr.getz (pc := 1) d_X12_wasted_1 f_12_270 (by decide) (ty_120 hS.1.1) ?_
  refine Tr.gen (P := fun v => 0 ≤ v ∧ v ≤ 1) (ir_120_85 hS.1.2.1) (fun r1 er1 br1 => ?_)
  refine Tr.if_eq (pc := 4) (tgt := 15) d_X12_wasted_4 rfl (fun c4 => ?_) (fun c4 => ?_)
  · refine Tr.iconst (pc := 15) d_X12_wasted_15 (by decide) ?_
    exact Tr.iret (pc := 16) d_X12_wasted_16 rfl ⟨hS, _, rfl, by omega, by omega⟩
  · refine Tr.aload_n (pc := 7) (i := 0) d_X12_wasted_7 rfl rfl ?_
    refine Tr.iload_n (pc := 8) (i := 1) d_X12_wasted_8 rfl rfl ?_
    refine Tr.callV (pc := 9) (as := [_]) d_X12_wasted_9 s_12_656 ok_X12_isLine rfl rfl (Nat.le_of_ble_eq_true rfl) (Nat.le_of_ble_eq_true rfl) (by decide) (ty_120 hS.1.1) ?_
    refine Tr.imp (Tr.deep (by decide) (sp_X12_isLine_120_w1 hS.1 ((St.kp hS (by decide) (by decide) (by decide)).trans en_120_12) a1 (by omega))) ?_
    rintro M9 _ ⟨h9, r9, rfl, lr9, ur9, z9_0⟩
    have hS := St.tr hS h9 (by decide) (by decide)
    obtain ⟨w9_129_1, ew9_129_1⟩ : ∃ v, rd M9 129 1 = v := ⟨_, rfl⟩
    have bw9_129_1 : 0 ≤ w9_129_1 ∧ w9_129_1 ≤ 60 := by rw [← ew9_129_1]; exact ir_129_1 hS.1.2.1
    have ka9_129_1 : rd M9 129 1 = w9_129_1 := ew9_129_1
    refine Tr.sc [(0, r9)] rfl ?_
    refine Tr.if_ne (pc := 12) (tgt := 17) d_X12_wasted_12 rfl (fun c12 => ?_) (fun c12 => ?_)
    · refine Tr.iconst (pc := 17) d_X12_wasted_17 (by decide) ?_
      refine Tr.istore_n (pc := 18) (i := 2) (ls2 := [(2, (0, 0)), (0, (2, 120)), (1, (0, a1))]) d_X12_wasted_18 rfl (by decide) rfl ?_
      refine Tr.iconst (pc := 19) d_X12_wasted_19 (by decide) ?_
      refine Tr.istore_n (pc := 20) (i := 3) (ls2 := [(3, (0, 0)), (2, (0, 0)), (0, (2, 120)), (1, (0, a1))]) d_X12_wasted_20 rfl (by decide) rfl ?_
      have J21 : ∀ (n21 : Nat) (M : Mem) (p21_2 p21_3 : Int), St Tru ws_X12_wasted_120_w1 as_X12_wasted_120_w1 M0 M → ((-2147483648) ≤ p21_2 ∧ p21_2 ≤ 2147483647) → (0 ≤ p21_3 ∧ p21_3 ≤ 6) → rd M 120 85 = r1 → rd M 129 1 = w9_129_1 → (6 - p21_3).toNat < n21 → Tr l K 2 mX12_wasted 21 [(0, (2, 120)), (1, (0, a1)), (2, (0, p21_2)), (3, (0, p21_3))] [] M (q_X12_wasted_120_w1 M0) := by
        intro n21
        induction n21 with
        | zero => intro M p21_2 p21_3 hS bp21_2 bp21_3 k21_120_85 k21_129_1 hm21; exact absurd hm21 (Nat.not_lt_zero _)
        | succ n21 J21 =>
          intro M p21_2 p21_3 hS bp21_2 bp21_3 k21_120_85 k21_129_1 hm21
          refine Tr.iload_n (pc := 21) (i := 3) d_X12_wasted_21 rfl rfl ?_
          refine Tr.aload_n (pc := 22) (i := 0) d_X12_wasted_22 rfl rfl ?_
          refine Tr.getf (pc := 23) d_X12_wasted_23 f_12_63 (by decide) (by decide) (ty_120 hS.1.1) ?_
          refine Tr.tp 126 (fx_120_17 hS.1.1) ?_
          refine Tr.aload_n (pc := 26) (i := 0) d_X12_wasted_26 rfl rfl ?_
          refine Tr.getf (pc := 27) d_X12_wasted_27 f_12_48 (by decide) (by decide) (ty_120 hS.1.1) ?_
          refine Tr.tp 1 ((St.kp hS (by decide) (by decide) (by decide)).trans en_120_12) ?_
          refine Tr.iald (pc := 30) d_X12_wasted_30 (ty_126 hS.1.1) (by omega) (by omega) ?_
          refine Tr.gen (P := fun v => 0 ≤ v ∧ v ≤ 6) (ir_126_1 hS.1.2.1) (fun r30 er30 br30 => ?_)
          refine Tr.icmp_ge (pc := 31) (tgt := 236) d_X12_wasted_31 rfl (fun c31 => ?_) (fun c31 => ?_)
          · refine Tr.iload_n (pc := 236) (i := 2) d_X12_wasted_236 rfl rfl ?_
            exact Tr.iret (pc := 237) d_X12_wasted_237 rfl ⟨hS, _, rfl, by omega, by omega⟩
          · refine Tr.iconst (pc := 34) d_X12_wasted_34 (by decide) ?_
            refine Tr.istore (pc := 35) (i := 4) (ls2 := [(4, (0, 1)), (0, (2, 120)), (1, (0, a1)), (2, (0, p21_2)), (3, (0, p21_3))]) d_X12_wasted_35 (by decide) rfl ?_
            refine Tr.iconst (pc := 37) d_X12_wasted_37 (by decide) ?_
            refine Tr.istore (pc := 38) (i := 5) (ls2 := [(5, (0, 0)), (4, (0, 1)), (0, (2, 120)), (1, (0, a1)), (2, (0, p21_2)), (3, (0, p21_3))]) d_X12_wasted_38 (by decide) rfl ?_
            have J40 : ∀ (n40 : Nat) (M : Mem) (p40_2 p40_4 p40_5 : Int), St Tru ws_X12_wasted_120_w1 as_X12_wasted_120_w1 M0 M → ((-2147483648) ≤ p40_2 ∧ p40_2 ≤ 2147483647) → (0 ≤ p40_4 ∧ p40_4 ≤ 1) → (0 ≤ p40_5 ∧ p40_5 ≤ 2147483647) → rd M 120 85 = r1 → rd M 126 1 = r30 → rd M 129 1 = w9_129_1 → (p40_5 ≤ 2102 ∧ (p40_4 = 0 ∨ p40_5 ≤ 2101)) → (2300 - p40_5).toNat < n40 → Tr l K 2 mX12_wasted 40 [(0, (2, 120)), (1, (0, a1)), (2, (0, p40_2)), (3, (0, p21_3)), (4, (0, p40_4)), (5, (0, p40_5))] [] M (q_X12_wasted_120_w1 M0) := by
              intro n40
              induction n40 with
              | zero => intro M p40_2 p40_4 p40_5 hS bp40_2 bp40_4 bp40_5 k40_120_85 k40_126_1 k40_129_1 t40_0 hm40; exact absurd hm40 (Nat.not_lt_zero _)
              | succ n40 J40 =>
                intro M p40_2 p40_4 p40_5 hS bp40_2 bp40_4 bp40_5 k40_120_85 k40_126_1 k40_129_1 t40_0 hm40
                refine Tr.iload (pc := 40) (i := 4) d_X12_wasted_40 rfl ?_
                refine Tr.if_eq (pc := 42) (tgt := 230) d_X12_wasted_42 rfl (fun c42 => ?_) (fun c42 => ?_)
                · refine Tr.iincV (pc := 230) (n2 := (p21_3 + 1)) (ls2 := [(3, (0, (p21_3 + 1))), (0, (2, 120)), (1, (0, a1)), (2, (0, p40_2)), (4, (0, p40_4)), (5, (0, p40_5))]) d_X12_wasted_230 rfl (by decide) ((w32_id (by omega)).trans (by omega)) rfl ?_
                  refine Tr.goto (pc := 233) (tgt := 21) d_X12_wasted_233 rfl ?_
                  refine Tr.pick [1, 2, 3, 0] (ls2 := [(0, (2, 120)), (1, (0, a1)), (2, (0, p40_2)), (3, (0, (p21_3 + 1)))]) rfl ?_
                  exact J21 _ _ _ hS (by omega) (by omega) k40_120_85 k40_129_1 (by omega)
                · refine Tr.aload_n (pc := 45) (i := 0) d_X12_wasted_45 rfl rfl ?_
                  refine Tr.iload_n (pc := 46) (i := 3) d_X12_wasted_46 rfl rfl ?_
                  refine Tr.iload (pc := 47) (i := 5) d_X12_wasted_47 rfl ?_
                  refine Tr.callV (pc := 49) (as := [_, _]) d_X12_wasted_49 s_12_644 ok_X12_finds rfl rfl (Nat.le_of_ble_eq_true rfl) (Nat.le_of_ble_eq_true rfl) (by decide) (ty_120 hS.1.1) ?_
                  refine Tr.imp (Tr.deep (by decide) (sp_X12_finds_120 hS.1 p21_3 (by omega) p40_5 (by omega))) ?_
                  rintro M49 _ ⟨h49, r49, rfl, lr49, ur49, z49_0⟩
                  have hS := St.tr hS h49 (by decide) (by decide)
                  refine Tr.sc [(0, r49)] rfl ?_
                  refine Tr.istore (pc := 52) (i := 4) (ls2 := [(4, (0, r49)), (0, (2, 120)), (1, (0, a1)), (2, (0, p40_2)), (3, (0, p21_3)), (5, (0, p40_5))]) d_X12_wasted_52 (by decide) rfl ?_
                  refine Tr.iload (pc := 54) (i := 4) d_X12_wasted_54 rfl ?_
                  have J224 : ∀ (M : Mem) (p224_2 : Int), St Tru ws_X12_wasted_120_w1 as_X12_wasted_120_w1 M0 M → ((-2147483648) ≤ p224_2 ∧ p224_2 ≤ 2147483647) → rd M 120 85 = r1 → rd M 126 1 = r30 → rd M 129 1 = w9_129_1 → (p40_5 ≤ 2101 ∧ (r49 = 0 ∨ p40_5 ≤ 2100)) → Tr l K 2 mX12_wasted 224 [(0, (2, 120)), (1, (0, a1)), (2, (0, p224_2)), (3, (0, p21_3)), (4, (0, r49)), (5, (0, p40_5))] [] M (q_X12_wasted_120_w1 M0) := by
                    intro M p224_2 hS bp224_2 k224_120_85 k224_126_1 k224_129_1 t224_0
                    refine Tr.iincV (pc := 224) (n2 := (p40_5 + 1)) (ls2 := [(5, (0, (p40_5 + 1))), (0, (2, 120)), (1, (0, a1)), (2, (0, p224_2)), (3, (0, p21_3)), (4, (0, r49))]) d_X12_wasted_224 rfl (by decide) ((w32_id (by omega)).trans (by omega)) rfl ?_
                    refine Tr.goto (pc := 227) (tgt := 40) d_X12_wasted_227 rfl ?_
                    refine Tr.pick [1, 2, 3, 4, 5, 0] (ls2 := [(0, (2, 120)), (1, (0, a1)), (2, (0, p224_2)), (3, (0, p21_3)), (4, (0, r49)), (5, (0, (p40_5 + 1)))]) rfl ?_
                    exact J40 _ _ _ _ hS (by omega) (by omega) (by omega) k224_120_85 k224_126_1 k224_129_1 (by first | assumption | omega) (by omega)
                  refine Tr.if_eq (pc := 56) (tgt := 224) d_X12_wasted_56 rfl (fun c56 => ?_) (fun c56 => ?_)
                  · refine Tr.pick [1, 2, 3, 4, 0, 5] (ls2 := [(0, (2, 120)), (1, (0, a1)), (2, (0, p40_2)), (3, (0, p21_3)), (4, (0, r49)), (5, (0, p40_5))]) rfl ?_
                    exact J224 _ _ hS (by omega) ((St.kp h49 (by decide) (by decide) (by decide)).trans k40_120_85) ((St.kp h49 (by decide) (by decide) (by decide)).trans k40_126_1) ((St.kp h49 (by decide) (by decide) (by decide)).trans k40_129_1) (by first | assumption | omega)
                  · refine Tr.aload_n (pc := 59) (i := 0) d_X12_wasted_59 rfl rfl ?_
                    refine Tr.getf (pc := 60) d_X12_wasted_60 f_12_309 (by decide) (by decide) (ty_120 hS.1.1) ?_
                    refine Tr.gen (P := fun v => 0 ≤ v ∧ v ≤ 2100) (ir_120_98 hS.1.2.1) (fun r60 er60 br60 => ?_)
                    refine Tr.aload_n (pc := 63) (i := 0) d_X12_wasted_63 rfl rfl ?_
                    refine Tr.getf (pc := 64) d_X12_wasted_64 f_12_273 (by decide) (by decide) (ty_120 hS.1.1) ?_
                    refine Tr.gen (P := fun v => 0 ≤ v ∧ v ≤ 2060) (ir_120_86 hS.1.2.1) (fun r64 er64 br64 => ?_)
                    have J82 : ∀ (M : Mem), St Tru ws_X12_wasted_120_w1 as_X12_wasted_120_w1 M0 M → rd M 120 85 = r1 → rd M 120 86 = r64 → rd M 120 98 = r60 → rd M 126 1 = r30 → rd M 129 1 = w9_129_1 → Tr l K 2 mX12_wasted 82 [(0, (2, 120)), (1, (0, a1)), (2, (0, p40_2)), (3, (0, p21_3)), (4, (0, r49)), (5, (0, p40_5))] [] M (q_X12_wasted_120_w1 M0) := by
                      intro M  hS  k82_120_85 k82_120_86 k82_120_98 k82_126_1 k82_129_1
                      refine Tr.iconst (pc := 82) d_X12_wasted_82 (by decide) ?_
                      refine Tr.istore (pc := 83) (i := 6) (ls2 := [(6, (0, (-1))), (0, (2, 120)), (1, (0, a1)), (2, (0, p40_2)), (3, (0, p21_3)), (4, (0, r49)), (5, (0, p40_5))]) d_X12_wasted_83 (by decide) rfl ?_
                      refine Tr.iconst (pc := 85) d_X12_wasted_85 (by decide) ?_
                      refine Tr.istore (pc := 86) (i := 7) (ls2 := [(7, (0, 0)), (6, (0, (-1))), (0, (2, 120)), (1, (0, a1)), (2, (0, p40_2)), (3, (0, p21_3)), (4, (0, r49)), (5, (0, p40_5))]) d_X12_wasted_86 (by decide) rfl ?_
                      have J88 : ∀ (n88 : Nat) (M : Mem) (p88_6 p88_7 : Int), St Tru ws_X12_wasted_120_w1 as_X12_wasted_120_w1 M0 M → ((-1) ≤ p88_6 ∧ p88_6 ≤ 59) → (0 ≤ p88_7 ∧ p88_7 ≤ 2100) → rd M 120 85 = r1 → rd M 120 86 = r64 → rd M 120 98 = r60 → rd M 126 1 = r30 → rd M 129 1 = w9_129_1 → (2100 - p88_7).toNat < n88 → Tr l K 2 mX12_wasted 88 [(0, (2, 120)), (1, (0, a1)), (2, (0, p40_2)), (3, (0, p21_3)), (4, (0, r49)), (5, (0, p40_5)), (6, (0, p88_6)), (7, (0, p88_7))] [] M (q_X12_wasted_120_w1 M0) := by
                        intro n88
                        induction n88 with
                        | zero => intro M p88_6 p88_7 hS bp88_6 bp88_7 k88_120_85 k88_120_86 k88_120_98 k88_126_1 k88_129_1 hm88; exact absurd hm88 (Nat.not_lt_zero _)
                        | succ n88 J88 =>
                          intro M p88_6 p88_7 hS bp88_6 bp88_7 k88_120_85 k88_120_86 k88_120_98 k88_126_1 k88_129_1 hm88
                          refine Tr.iload (pc := 88) (i := 7) d_X12_wasted_88 rfl ?_
                          refine Tr.aload_n (pc := 90) (i := 0) d_X12_wasted_90 rfl rfl ?_
                          refine Tr.getf (pc := 91) d_X12_wasted_91 f_12_300 (by decide) (by decide) (ty_120 hS.1.1) ?_
                          refine Tr.gen (P := fun v => 0 ≤ v ∧ v ≤ 2100) (ir_120_95 hS.1.2.1) (fun r91 er91 br91 => ?_)
                          refine Tr.icmp_ge (pc := 94) (tgt := 153) d_X12_wasted_94 rfl (fun c94 => ?_) (fun c94 => ?_)
                          · refine Tr.iload (pc := 153) (i := 6) d_X12_wasted_153 rfl ?_
                            refine Tr.iload_n (pc := 155) (i := 1) d_X12_wasted_155 rfl rfl ?_
                            refine Tr.icmp_eq (pc := 156) (tgt := 162) d_X12_wasted_156 rfl (fun c156 => ?_) (fun c156 => ?_)
                            · refine Tr.aload_n (pc := 162) (i := 0) d_X12_wasted_162 rfl rfl ?_
                              refine Tr.getf (pc := 163) d_X12_wasted_163 f_12_309 (by decide) (by decide) (ty_120 hS.1.1) ?_
                              refine Tr.tp r60 k88_120_98 ?_
                              refine Tr.iconst (pc := 166) d_X12_wasted_166 (by decide) ?_
                              refine Tr.isub (pc := 167) d_X12_wasted_167 ?_
                              refine Tr.tp (r60 - 1) ((w32_id (by omega)).trans (by omega)) ?_
                              refine Tr.istore (pc := 168) (i := 7) (ls2 := [(7, (0, (r60 - 1))), (0, (2, 120)), (1, (0, a1)), (2, (0, p40_2)), (3, (0, p21_3)), (4, (0, r49)), (5, (0, p40_5)), (6, (0, p88_6))]) d_X12_wasted_168 (by decide) rfl ?_
                              have J170 : ∀ (n170 : Nat) (M : Mem) (p170_2 p170_7 : Int), St Tru ws_X12_wasted_120_w1 as_X12_wasted_120_w1 M0 M → ((-2147483648) ≤ p170_2 ∧ p170_2 ≤ 2147483647) → ((-1) ≤ p170_7 ∧ p170_7 ≤ 2099) → rd M 120 85 = r1 → rd M 120 86 = r64 → rd M 120 95 = r91 → rd M 120 98 = r60 → rd M 126 1 = r30 → rd M 129 1 = w9_129_1 → (p170_7 - (-1)).toNat < n170 → Tr l K 2 mX12_wasted 170 [(0, (2, 120)), (1, (0, a1)), (2, (0, p170_2)), (3, (0, p21_3)), (4, (0, r49)), (5, (0, p40_5)), (7, (0, p170_7))] [] M (q_X12_wasted_120_w1 M0) := by
                                intro n170
                                induction n170 with
                                | zero => intro M p170_2 p170_7 hS bp170_2 bp170_7 k170_120_85 k170_120_86 k170_120_95 k170_120_98 k170_126_1 k170_129_1 hm170; exact absurd hm170 (Nat.not_lt_zero _)
                                | succ n170 J170 =>
                                  intro M p170_2 p170_7 hS bp170_2 bp170_7 k170_120_85 k170_120_86 k170_120_95 k170_120_98 k170_126_1 k170_129_1 hm170
                                  refine Tr.iload (pc := 170) (i := 7) d_X12_wasted_170 rfl ?_
                                  refine Tr.aload_n (pc := 172) (i := 0) d_X12_wasted_172 rfl rfl ?_
                                  refine Tr.getf (pc := 173) d_X12_wasted_173 f_12_306 (by decide) (by decide) (ty_120 hS.1.1) ?_
                                  refine Tr.gen (P := fun v => 0 ≤ v ∧ v ≤ 2100) (ir_120_97 hS.1.2.1) (fun r173 er173 br173 => ?_)
                                  refine Tr.icmp_lt (pc := 176) (tgt := 224) d_X12_wasted_176 rfl (fun c176 => ?_) (fun c176 => ?_)
                                  · refine Tr.pick [0, 1, 2, 3, 4, 5] (ls2 := [(0, (2, 120)), (1, (0, a1)), (2, (0, p170_2)), (3, (0, p21_3)), (4, (0, r49)), (5, (0, p40_5))]) rfl ?_
                                    exact J224 _ _ hS (by omega) k170_120_85 k170_126_1 k170_129_1 (by first | assumption | omega)
                                  · refine Tr.iload (pc := 179) (i := 7) d_X12_wasted_179 rfl ?_
                                    refine Tr.aload_n (pc := 181) (i := 0) d_X12_wasted_181 rfl rfl ?_
                                    refine Tr.getf (pc := 182) d_X12_wasted_182 f_12_309 (by decide) (by decide) (ty_120 hS.1.1) ?_
                                    refine Tr.tp r60 k170_120_98 ?_
                                    refine Tr.aload_n (pc := 185) (i := 0) d_X12_wasted_185 rfl rfl ?_
                                    refine Tr.iload_n (pc := 186) (i := 3) d_X12_wasted_186 rfl rfl ?_
                                    refine Tr.callV (pc := 187) (as := [_]) d_X12_wasted_187 s_12_591 ok_X12_tails rfl rfl (Nat.le_of_ble_eq_true rfl) (Nat.le_of_ble_eq_true rfl) (by decide) (ty_120 hS.1.1) ?_
                                    refine Tr.imp (Tr.deep (by decide) (sp_X12_tails_120_w1 hS.1 ((St.kp hS (by decide) (by decide) (by decide)).trans en_120_12) p21_3 (by omega) (Bk1.of hF_Bk1 (fun j => (St.ka hS (by decide) (by decide) (by decide))) (fun j => (St.ka hS (by decide) (by decide) (by decide))) (fun j => (St.ka hS (by decide) (by decide) (by decide))) (fun j => (St.ka hS (by decide) (by decide) (by decide))) (fun j => (St.ka hS (by decide) (by decide) (by decide))) (fun j => (St.ka hS (by decide) (by decide) (by decide))) (fun j => (St.ka hS (by decide) (by decide) (by decide))) (fun j => (St.ka hS (by decide) (by decide) (by decide))) (St.kp hS (by decide) (by decide) (by decide)) (St.kp hS (by decide) (by decide) (by decide)) (St.kp hS (by decide) (by decide) (by decide)) (St.kp hS (by decide) (by decide) (by decide))))) ?_
                                    rintro M187 _ ⟨h187, r187, rfl, lr187, ur187, z187_0⟩
                                    have hS := St.tr hS h187 (by decide) (by decide)
                                    have ka187_126_1 : rd M187 126 1 = r30 := ((St.kp h187 (by decide) (by decide) (by decide)).trans k170_126_1)
                                    refine Tr.sc [(0, r187), (0, r60), (0, p170_7)] rfl ?_
                                    refine Tr.isub (pc := 190) d_X12_wasted_190 ?_
                                    refine Tr.gen (P := fun v => (-2147483648) ≤ v ∧ v ≤ 2147483647) (w32_b _) (fun r190 er190 br190 => ?_)
                                    refine Tr.icmp_lt (pc := 191) (tgt := 224) d_X12_wasted_191 rfl (fun c191 => ?_) (fun c191 => ?_)
                                    · refine Tr.pick [0, 1, 2, 3, 4, 5] (ls2 := [(0, (2, 120)), (1, (0, a1)), (2, (0, p170_2)), (3, (0, p21_3)), (4, (0, r49)), (5, (0, p40_5))]) rfl ?_
                                      exact J224 _ _ hS (by omega) ((St.kp h187 (by decide) (by decide) (by decide)).trans k170_120_85) ((St.kp h187 (by decide) (by decide) (by decide)).trans k170_126_1) ((St.kp h187 (by decide) (by decide) (by decide)).trans k170_129_1) (by first | assumption | omega)
                                    · refine Tr.iload_n (pc := 194) (i := 2) d_X12_wasted_194 rfl rfl ?_
                                      refine Tr.aload_n (pc := 195) (i := 0) d_X12_wasted_195 rfl rfl ?_
                                      refine Tr.iload_n (pc := 196) (i := 3) d_X12_wasted_196 rfl rfl ?_
                                      refine Tr.iload (pc := 197) (i := 7) d_X12_wasted_197 rfl ?_
                                      refine Tr.callV (pc := 199) (as := [_, _]) d_X12_wasted_199 s_12_641 ok_X12_stateAt rfl rfl (Nat.le_of_ble_eq_true rfl) (Nat.le_of_ble_eq_true rfl) (by decide) (ty_120 hS.1.1) ?_
                                      refine Tr.imp (Tr.deep (by decide) (sp_X12_stateAt_120 hS.1 p21_3 (by omega) p170_7 (by omega))) ?_
                                      rintro M199 _ ⟨h199, r199, rfl, lr199, ur199, z199_0⟩
                                      have hS := St.tr hS h199 (by decide) (by decide)
                                      refine Tr.sc [(0, r199), (0, p170_2)] rfl ?_
                                      have qs199 : rd M187 163 (p170_7 + 2100 * p21_3) = r199 := (congrArg (rd M187 163) (by omega)).trans z199_0.symm
                                      refine Tr.iconst (pc := 202) d_X12_wasted_202 (by decide) ?_
                                      have J216 : ∀ (M : Mem) (q216_1 : Int), St Tru ws_X12_wasted_120_w1 as_X12_wasted_120_w1 M0 M → ((-2147483648) ≤ q216_1 ∧ q216_1 ≤ 2147483647) → rd M 120 85 = r1 → rd M 120 86 = r64 → rd M 120 95 = r91 → rd M 120 97 = r173 → rd M 120 98 = r60 → rd M 126 1 = r30 → rd M 129 1 = w9_129_1 → rd M 163 (p170_7 + 2100 * p21_3) = r199 → Tr l K 2 mX12_wasted 216 [(0, (2, 120)), (1, (0, a1)), (3, (0, p21_3)), (4, (0, r49)), (5, (0, p40_5)), (7, (0, p170_7))] [(0, q216_1), (0, p170_2)] M (q_X12_wasted_120_w1 M0) := by
                                        intro M q216_1 hS bq216_1 k216_120_85 k216_120_86 k216_120_95 k216_120_97 k216_120_98 k216_126_1 k216_129_1 k216_163_p170_71p21_321000
                                        refine Tr.iadd (pc := 216) d_X12_wasted_216 ?_
                                        refine Tr.gen (P := fun v => (-2147483648) ≤ v ∧ v ≤ 2147483647) (w32_b _) (fun r216 er216 br216 => ?_)
                                        refine Tr.istore_n (pc := 217) (i := 2) (ls2 := [(2, (0, r216)), (0, (2, 120)), (1, (0, a1)), (3, (0, p21_3)), (4, (0, r49)), (5, (0, p40_5)), (7, (0, p170_7))]) d_X12_wasted_217 rfl (by decide) rfl ?_
                                        refine Tr.iincV (pc := 218) (n2 := (p170_7 - 1)) (ls2 := [(7, (0, (p170_7 - 1))), (2, (0, r216)), (0, (2, 120)), (1, (0, a1)), (3, (0, p21_3)), (4, (0, r49)), (5, (0, p40_5))]) d_X12_wasted_218 rfl (by decide) ((w32_id (by omega)).trans (by omega)) rfl ?_
                                        refine Tr.goto (pc := 221) (tgt := 170) d_X12_wasted_221 rfl ?_
                                        refine Tr.pick [2, 3, 1, 4, 5, 6, 0] (ls2 := [(0, (2, 120)), (1, (0, a1)), (2, (0, r216)), (3, (0, p21_3)), (4, (0, r49)), (5, (0, p40_5)), (7, (0, (p170_7 - 1)))]) rfl ?_
                                        exact J170 _ _ _ hS (by omega) (by omega) k216_120_85 k216_120_86 k216_120_95 k216_120_98 k216_126_1 k216_129_1 (by omega)
                                      refine Tr.icmp_ne (pc := 203) (tgt := 215) d_X12_wasted_203 rfl (fun c203 => ?_) (fun c203 => ?_)
                                      · refine Tr.iconst (pc := 215) d_X12_wasted_215 (by decide) ?_
                                        refine Tr.pick [0, 1, 3, 4, 5, 6] (ls2 := [(0, (2, 120)), (1, (0, a1)), (3, (0, p21_3)), (4, (0, r49)), (5, (0, p40_5)), (7, (0, p170_7))]) rfl ?_
                                        exact J216 _ _ hS (by omega) ((St.kp h199 (by decide) (by decide) (by decide)).trans ((St.kp h187 (by decide) (by decide) (by decide)).trans k170_120_85)) ((St.kp h199 (by decide) (by decide) (by decide)).trans ((St.kp h187 (by decide) (by decide) (by decide)).trans k170_120_86)) ((St.kp h199 (by decide) (by decide) (by decide)).trans ((St.kp h187 (by decide) (by decide) (by decide)).trans k170_120_95)) ((St.kp h199 (by decide) (by decide) (by decide)).trans ((St.kp h187 (by decide) (by decide) (by decide)).trans er173)) ((St.kp h199 (by decide) (by decide) (by decide)).trans ((St.kp h187 (by decide) (by decide) (by decide)).trans k170_120_98)) ((St.kp h199 (by decide) (by decide) (by decide)).trans ((St.kp h187 (by decide) (by decide) (by decide)).trans k170_126_1)) ((St.kp h199 (by decide) (by decide) (by decide)).trans ((St.kp h187 (by decide) (by decide) (by decide)).trans k170_129_1)) ((St.ka h199 (by decide) (by decide) (by decide)).trans qs199)
                                      · refine Tr.aload_n (pc := 206) (i := 0) d_X12_wasted_206 rfl rfl ?_
                                        refine Tr.iload_n (pc := 207) (i := 3) d_X12_wasted_207 rfl rfl ?_
                                        refine Tr.iconst (pc := 208) d_X12_wasted_208 (by decide) ?_
                                        refine Tr.callV (pc := 209) (as := [_, _]) d_X12_wasted_209 s_12_565 ok_X12_rate rfl rfl (Nat.le_of_ble_eq_true rfl) (Nat.le_of_ble_eq_true rfl) (by decide) (ty_120 hS.1.1) ?_
                                        refine Tr.imp (Tr.deep (by decide) (sp_X12_rate_120_w1 hS.1 ((St.kp hS (by decide) (by decide) (by decide)).trans en_120_12) p21_3 (by omega) 3 (by omega) (Bk1.of hF_Bk1 (fun j => (St.ka hS (by decide) (by decide) (by decide))) (fun j => (St.ka hS (by decide) (by decide) (by decide))) (fun j => (St.ka hS (by decide) (by decide) (by decide))) (fun j => (St.ka hS (by decide) (by decide) (by decide))) (fun j => (St.ka hS (by decide) (by decide) (by decide))) (fun j => (St.ka hS (by decide) (by decide) (by decide))) (fun j => (St.ka hS (by decide) (by decide) (by decide))) (fun j => (St.ka hS (by decide) (by decide) (by decide))) (St.kp hS (by decide) (by decide) (by decide)) (St.kp hS (by decide) (by decide) (by decide)) (St.kp hS (by decide) (by decide) (by decide)) (St.kp hS (by decide) (by decide) (by decide))))) ?_
                                        rintro M209 _ ⟨h209, r209, rfl, lr209, ur209, z209_0⟩
                                        have hS := St.tr hS h209 (by decide) (by decide)
                                        have ka209_126_1 : rd M209 126 1 = r30 := ((St.kp h209 (by decide) (by decide) (by decide)).trans ((St.kp h199 (by decide) (by decide) (by decide)).trans ((St.kp h187 (by decide) (by decide) (by decide)).trans k170_126_1)))
                                        refine Tr.sc [(0, r209), (0, p170_2)] rfl ?_
                                        refine Tr.goto (pc := 212) (tgt := 216) d_X12_wasted_212 rfl ?_
                                        refine Tr.pick [0, 1, 3, 4, 5, 6] (ls2 := [(0, (2, 120)), (1, (0, a1)), (3, (0, p21_3)), (4, (0, r49)), (5, (0, p40_5)), (7, (0, p170_7))]) rfl ?_
                                        exact J216 _ _ hS (by omega) ((St.kp h209 (by decide) (by decide) (by decide)).trans ((St.kp h199 (by decide) (by decide) (by decide)).trans ((St.kp h187 (by decide) (by decide) (by decide)).trans k170_120_85))) ((St.kp h209 (by decide) (by decide) (by decide)).trans ((St.kp h199 (by decide) (by decide) (by decide)).trans ((St.kp h187 (by decide) (by decide) (by decide)).trans k170_120_86))) ((St.kp h209 (by decide) (by decide) (by decide)).trans ((St.kp h199 (by decide) (by decide) (by decide)).trans ((St.kp h187 (by decide) (by decide) (by decide)).trans k170_120_95))) ((St.kp h209 (by decide) (by decide) (by decide)).trans ((St.kp h199 (by decide) (by decide) (by decide)).trans ((St.kp h187 (by decide) (by decide) (by decide)).trans er173))) ((St.kp h209 (by decide) (by decide) (by decide)).trans ((St.kp h199 (by decide) (by decide) (by decide)).trans ((St.kp h187 (by decide) (by decide) (by decide)).trans k170_120_98))) ((St.kp h209 (by decide) (by decide) (by decide)).trans ((St.kp h199 (by decide) (by decide) (by decide)).trans ((St.kp h187 (by decide) (by decide) (by decide)).trans k170_126_1))) ((St.kp h209 (by decide) (by decide) (by decide)).trans ((St.kp h199 (by decide) (by decide) (by decide)).trans ((St.kp h187 (by decide) (by decide) (by decide)).trans k170_129_1))) ((St.ka h209 (by decide) (by decide) (by decide)).trans ((St.ka h199 (by decide) (by decide) (by decide)).trans qs199))
                              refine Tr.pick [1, 2, 3, 4, 5, 6, 0] (ls2 := [(0, (2, 120)), (1, (0, a1)), (2, (0, p40_2)), (3, (0, p21_3)), (4, (0, r49)), (5, (0, p40_5)), (7, (0, (r60 - 1)))]) rfl ?_
                              exact J170 _ _ _ _ hS (by omega) (by omega) k88_120_85 k88_120_86 er91 k88_120_98 k88_126_1 k88_129_1 (Nat.lt_succ_self _)
                            · refine Tr.goto (pc := 159) (tgt := 224) d_X12_wasted_159 rfl ?_
                              refine Tr.pick [0, 1, 2, 3, 4, 5] (ls2 := [(0, (2, 120)), (1, (0, a1)), (2, (0, p40_2)), (3, (0, p21_3)), (4, (0, r49)), (5, (0, p40_5))]) rfl ?_
                              exact J224 _ _ hS (by omega) k88_120_85 k88_126_1 k88_129_1 (by first | assumption | omega)
                          · refine Tr.aload_n (pc := 97) (i := 0) d_X12_wasted_97 rfl rfl ?_
                            refine Tr.getf (pc := 98) d_X12_wasted_98 f_12_243 (by decide) (by decide) (ty_120 hS.1.1) ?_
                            refine Tr.tp 166 (fx_120_76 hS.1.1) ?_
                            refine Tr.iload (pc := 101) (i := 7) d_X12_wasted_101 rfl ?_
                            refine Tr.iald (pc := 103) d_X12_wasted_103 (ty_166 hS.1.1) (by omega) (by omega) ?_
                            refine Tr.gen (P := fun v => 0 ≤ v ∧ v ≤ 5) (ar_166 hS.1.2.1 _) (fun r103 er103 br103 => ?_)
                            refine Tr.iload_n (pc := 104) (i := 3) d_X12_wasted_104 rfl rfl ?_
                            have J147 : ∀ (M : Mem) (p147_6 : Int), St Tru ws_X12_wasted_120_w1 as_X12_wasted_120_w1 M0 M → ((-1) ≤ p147_6 ∧ p147_6 ≤ 59) → rd M 120 85 = r1 → rd M 120 86 = r64 → rd M 120 95 = r91 → rd M 120 98 = r60 → rd M 126 1 = r30 → rd M 129 1 = w9_129_1 → rd M 166 p88_7 = r103 → Tr l K 2 mX12_wasted 147 [(0, (2, 120)), (1, (0, a1)), (2, (0, p40_2)), (3, (0, p21_3)), (4, (0, r49)), (5, (0, p40_5)), (6, (0, p147_6)), (7, (0, p88_7))] [] M (q_X12_wasted_120_w1 M0) := by
                              intro M p147_6 hS bp147_6 k147_120_85 k147_120_86 k147_120_95 k147_120_98 k147_126_1 k147_129_1 k147_166_p88_710
                              refine Tr.iincV (pc := 147) (n2 := (p88_7 + 1)) (ls2 := [(7, (0, (p88_7 + 1))), (0, (2, 120)), (1, (0, a1)), (2, (0, p40_2)), (3, (0, p21_3)), (4, (0, r49)), (5, (0, p40_5)), (6, (0, p147_6))]) d_X12_wasted_147 rfl (by decide) ((w32_id (by omega)).trans (by omega)) rfl ?_
                              refine Tr.goto (pc := 150) (tgt := 88) d_X12_wasted_150 rfl ?_
                              refine Tr.pick [1, 2, 3, 4, 5, 6, 7, 0] (ls2 := [(0, (2, 120)), (1, (0, a1)), (2, (0, p40_2)), (3, (0, p21_3)), (4, (0, r49)), (5, (0, p40_5)), (6, (0, p147_6)), (7, (0, (p88_7 + 1)))]) rfl ?_
                              exact J88 _ _ _ hS (by omega) (by omega) k147_120_85 k147_120_86 k147_120_98 k147_126_1 k147_129_1 (by omega)
                            refine Tr.icmp_ne (pc := 105) (tgt := 147) d_X12_wasted_105 rfl (fun c105 => ?_) (fun c105 => ?_)
                            · refine Tr.pick [0, 1, 2, 3, 4, 5, 6, 7] (ls2 := [(0, (2, 120)), (1, (0, a1)), (2, (0, p40_2)), (3, (0, p21_3)), (4, (0, r49)), (5, (0, p40_5)), (6, (0, p88_6)), (7, (0, p88_7))]) rfl ?_
                              exact J147 _ _ hS (by omega) k88_120_85 k88_120_86 er91 k88_120_98 k88_126_1 k88_129_1 er103
                            · refine Tr.aload_n (pc := 108) (i := 0) d_X12_wasted_108 rfl rfl ?_
                              refine Tr.getf (pc := 109) d_X12_wasted_109 f_12_249 (by decide) (by decide) (ty_120 hS.1.1) ?_
                              refine Tr.tp 168 (fx_120_78 hS.1.1) ?_
                              refine Tr.iload (pc := 112) (i := 7) d_X12_wasted_112 rfl ?_
                              refine Tr.iald (pc := 114) d_X12_wasted_114 (ty_168 hS.1.1) (by omega) (by omega) ?_
                              refine Tr.gen (P := fun v => (-2147483648) ≤ v ∧ v ≤ 2147483647) (ar_168 hS.1.2.1 _) (fun r114 er114 br114 => ?_)
                              refine Tr.aload_n (pc := 115) (i := 0) d_X12_wasted_115 rfl rfl ?_
                              refine Tr.getf (pc := 116) d_X12_wasted_116 f_12_306 (by decide) (by decide) (ty_120 hS.1.1) ?_
                              refine Tr.gen (P := fun v => 0 ≤ v ∧ v ≤ 2100) (ir_120_97 hS.1.2.1) (fun r116 er116 br116 => ?_)
                              refine Tr.iconst (pc := 119) d_X12_wasted_119 (by decide) ?_
                              refine Tr.isub (pc := 120) d_X12_wasted_120 ?_
                              refine Tr.tp (r116 - 1) ((w32_id (by omega)).trans (by omega)) ?_
                              refine Tr.icmp_lt (pc := 121) (tgt := 147) d_X12_wasted_121 rfl (fun c121 => ?_) (fun c121 => ?_)
                              · refine Tr.pick [0, 1, 2, 3, 4, 5, 6, 7] (ls2 := [(0, (2, 120)), (1, (0, a1)), (2, (0, p40_2)), (3, (0, p21_3)), (4, (0, r49)), (5, (0, p40_5)), (6, (0, p88_6)), (7, (0, p88_7))]) rfl ?_
                                exact J147 _ _ hS (by omega) k88_120_85 k88_120_86 er91 k88_120_98 k88_126_1 k88_129_1 er103
                              · refine Tr.aload_n (pc := 124) (i := 0) d_X12_wasted_124 rfl rfl ?_
                                refine Tr.getf (pc := 125) d_X12_wasted_125 f_12_249 (by decide) (by decide) (ty_120 hS.1.1) ?_
                                refine Tr.tp 168 (fx_120_78 hS.1.1) ?_
                                refine Tr.iload (pc := 128) (i := 7) d_X12_wasted_128 rfl ?_
                                refine Tr.iald (pc := 130) d_X12_wasted_130 (ty_168 hS.1.1) (by omega) (by omega) ?_
                                refine Tr.tp r114 er114 ?_
                                refine Tr.aload_n (pc := 131) (i := 0) d_X12_wasted_131 rfl rfl ?_
                                refine Tr.getf (pc := 132) d_X12_wasted_132 f_12_309 (by decide) (by decide) (ty_120 hS.1.1) ?_
                                refine Tr.tp r60 k88_120_98 ?_
                                refine Tr.icmp_ge (pc := 135) (tgt := 147) d_X12_wasted_135 rfl (fun c135 => ?_) (fun c135 => ?_)
                                · refine Tr.pick [0, 1, 2, 3, 4, 5, 6, 7] (ls2 := [(0, (2, 120)), (1, (0, a1)), (2, (0, p40_2)), (3, (0, p21_3)), (4, (0, r49)), (5, (0, p40_5)), (6, (0, p88_6)), (7, (0, p88_7))]) rfl ?_
                                  exact J147 _ _ hS (by omega) k88_120_85 k88_120_86 er91 k88_120_98 k88_126_1 k88_129_1 er103
                                · refine Tr.aload_n (pc := 138) (i := 0) d_X12_wasted_138 rfl rfl ?_
                                  refine Tr.getf (pc := 139) d_X12_wasted_139 f_12_246 (by decide) (by decide) (ty_120 hS.1.1) ?_
                                  refine Tr.tp 167 (fx_120_77 hS.1.1) ?_
                                  refine Tr.iload (pc := 142) (i := 7) d_X12_wasted_142 rfl ?_
                                  refine Tr.iald (pc := 144) d_X12_wasted_144 (ty_167 hS.1.1) (by omega) (by omega) ?_
                                  refine Tr.gen (P := fun v => (-1) ≤ v ∧ v ≤ 59) (ar_167 hS.1.2.1 _) (fun r144 er144 br144 => ?_)
                                  refine Tr.istore (pc := 145) (i := 6) (ls2 := [(6, (0, r144)), (0, (2, 120)), (1, (0, a1)), (2, (0, p40_2)), (3, (0, p21_3)), (4, (0, r49)), (5, (0, p40_5)), (7, (0, p88_7))]) d_X12_wasted_145 (by decide) rfl ?_
                                  refine Tr.pick [1, 2, 3, 4, 5, 6, 0, 7] (ls2 := [(0, (2, 120)), (1, (0, a1)), (2, (0, p40_2)), (3, (0, p21_3)), (4, (0, r49)), (5, (0, p40_5)), (6, (0, r144)), (7, (0, p88_7))]) rfl ?_
                                  exact J147 _ _ hS (by omega) k88_120_85 k88_120_86 er91 k88_120_98 k88_126_1 k88_129_1 er103
                      refine Tr.pick [2, 3, 4, 5, 6, 7, 1, 0] (ls2 := [(0, (2, 120)), (1, (0, a1)), (2, (0, p40_2)), (3, (0, p21_3)), (4, (0, r49)), (5, (0, p40_5)), (6, (0, (-1))), (7, (0, 0))]) rfl ?_
                      exact J88 _ _ _ _ hS (by omega) (by omega) k82_120_85 k82_120_86 k82_120_98 k82_126_1 k82_129_1 (Nat.lt_succ_self _)
                    refine Tr.icmp_ne (pc := 67) (tgt := 82) d_X12_wasted_67 rfl (fun c67 => ?_) (fun c67 => ?_)
                    · refine Tr.pick [1, 2, 3, 4, 0, 5] (ls2 := [(0, (2, 120)), (1, (0, a1)), (2, (0, p40_2)), (3, (0, p21_3)), (4, (0, r49)), (5, (0, p40_5))]) rfl ?_
                      exact J82 _ hS ((St.kp h49 (by decide) (by decide) (by decide)).trans k40_120_85) er64 er60 ((St.kp h49 (by decide) (by decide) (by decide)).trans k40_126_1) ((St.kp h49 (by decide) (by decide) (by decide)).trans k40_129_1)
                    · refine Tr.aload_n (pc := 70) (i := 0) d_X12_wasted_70 rfl rfl ?_
                      refine Tr.getf (pc := 71) d_X12_wasted_71 f_12_297 (by decide) (by decide) (ty_120 hS.1.1) ?_
                      refine Tr.tp 175 (fx_120_94 hS.1.1) ?_
                      refine Tr.iload_n (pc := 74) (i := 3) d_X12_wasted_74 rfl rfl ?_
                      refine Tr.zald (pc := 75) d_X12_wasted_75 (ty_175 hS.1.1) (by omega) (by omega) ?_
                      refine Tr.gen (P := fun v => 0 ≤ v ∧ v ≤ 1) (ar_175 hS.1.2.1 _) (fun r75 er75 br75 => ?_)
                      refine Tr.if_ne (pc := 76) (tgt := 82) d_X12_wasted_76 rfl (fun c76 => ?_) (fun c76 => ?_)
                      · refine Tr.pick [1, 2, 3, 4, 0, 5] (ls2 := [(0, (2, 120)), (1, (0, a1)), (2, (0, p40_2)), (3, (0, p21_3)), (4, (0, r49)), (5, (0, p40_5))]) rfl ?_
                        exact J82 _ hS ((St.kp h49 (by decide) (by decide) (by decide)).trans k40_120_85) er64 er60 ((St.kp h49 (by decide) (by decide) (by decide)).trans k40_126_1) ((St.kp h49 (by decide) (by decide) (by decide)).trans k40_129_1)
                      · refine Tr.goto (pc := 79) (tgt := 224) d_X12_wasted_79 rfl ?_
                        refine Tr.pick [1, 2, 3, 4, 0, 5] (ls2 := [(0, (2, 120)), (1, (0, a1)), (2, (0, p40_2)), (3, (0, p21_3)), (4, (0, r49)), (5, (0, p40_5))]) rfl ?_
                        exact J224 _ _ hS (by omega) ((St.kp h49 (by decide) (by decide) (by decide)).trans k40_120_85) ((St.kp h49 (by decide) (by decide) (by decide)).trans k40_126_1) ((St.kp h49 (by decide) (by decide) (by decide)).trans k40_129_1) (by first | assumption | omega)
            refine Tr.pick [2, 3, 4, 5, 1, 0] (ls2 := [(0, (2, 120)), (1, (0, a1)), (2, (0, p21_2)), (3, (0, p21_3)), (4, (0, 1)), (5, (0, 0))]) rfl ?_
            exact J40 _ _ _ _ _ hS (by omega) (by omega) (by omega) k21_120_85 er30 k21_129_1 (by first | assumption | omega) (Nat.lt_succ_self _)
      refine Tr.pick [2, 3, 1, 0] (ls2 := [(0, (2, 120)), (1, (0, a1)), (2, (0, 0)), (3, (0, 0))]) rfl ?_
      exact J21 _ _ _ _ hS (by omega) (by omega) ((St.kp h9 (by decide) (by decide) (by decide)).trans er1) ew9_129_1 (Nat.lt_succ_self _)
    · refine Tr.iconst (pc := 15) d_X12_wasted_15 (by decide) ?_
      exact Tr.iret (pc := 16) d_X12_wasted_16 rfl ⟨hS, _, rfl, by omega, by omega⟩
