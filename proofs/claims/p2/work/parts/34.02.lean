def ws_X5_part_6 : List (Int × Int) := [(6, 0), (6, 1), (6, 5), (28, 0)]
def as_X5_part_6 : List Int := [29, 30, 31, 34]
def q_X5_part_6 (M0 M' : Mem) (r : Option PV) : Prop := St Tru ws_X5_part_6 as_X5_part_6 M0 M' ∧ ∃ v : Int, r = some (0, v) ∧ 0 ≤ v ∧ v ≤ 1
set_option maxRecDepth 100000 in
set_option maxHeartbeats 4000000 in
theorem sp_X5_part_6 {l : Launch} {K : EC} {M0 : Mem} {xq : Int} (hI : In Tru M0) (hE : e_all K xq) (en_6_2 : rd M0 6 2 = 2) (en_6_3 : rd M0 6 3 = 27)   : Tr l K 3 mX5_part 0 [(0, (2, 6))] [] M0 (q_X5_part_6 M0) := by
  have hS : St Tru ws_X5_part_6 as_X5_part_6 M0 M0 := St.rf hI
  refine Tr.aload_n (pc := 0) (i := 0) d_X5_part_0 rfl rfl ?_
  refine Tr.getf (pc := 1) d_X5_part_1 f_5_22 (by decide) (by decide) (ty_6 hS.1.1) ?_
  refine Tr.tp 27 ((St.kp hS (by decide) (by decide) (by decide)).trans en_6_3) ?_
  refine Tr.getf (pc := 4) d_X5_part_4 f_5_133 (by decide) (by decide) (ty_27 hS.1.1) ?_
  refine Tr.tp 28 (fx_27_4 hS.1.1) ?_
  refine Tr.iconst (pc := 7) d_X5_part_7 (by decide) ?_
  refine Tr.iald (pc := 8) d_X5_part_8 (ty_28 hS.1.1) (by omega) (by omega) ?_
  refine Tr.gen (P := fun v => 0 ≤ v ∧ v ≤ 6) (ir_28_0 hS.1.2.1) (fun r8 er8 br8 => ?_)
  refine Tr.istore_n (pc := 9) (i := 1) (ls2 := [(1, (0, r8)), (0, (2, 6))]) d_X5_part_9 rfl (by decide) rfl ?_
  refine Tr.aload_n (pc := 10) (i := 0) d_X5_part_10 rfl rfl ?_
  refine Tr.iconst (pc := 11) d_X5_part_11 (by decide) ?_
  refine Tr.callV (pc := 12) (as := [_]) d_X5_part_12 s_5_112 ok_X5_beginNamed rfl rfl (Nat.le_of_ble_eq_true rfl) (Nat.le_of_ble_eq_true rfl) (by decide) (ty_6 hS.1.1) ?_
  refine Tr.imp (Tr.deep (by decide) (sp_X5_beginNamed_6_w2 hS.1 hE ((St.kp hS (by decide) (by decide) (by decide)).trans en_6_2) ((St.kp hS (by decide) (by decide) (by decide)).trans en_6_3) 0 (by omega))) ?_
  rintro M12 _ ⟨h12, r12, rfl, lr12, ur12⟩
  have hS := St.tr hS h12 (by decide) (by decide)
  refine Tr.sc [(0, r12)] rfl ?_
  refine Tr.if_eq (pc := 15) (tgt := 24) d_X5_part_15 rfl (fun c15 => ?_) (fun c15 => ?_)
  · refine Tr.iconst (pc := 24) d_X5_part_24 (by decide) ?_
    exact Tr.zret (pc := 25) d_X5_part_25 rfl (by omega) ⟨hS, _, rfl, by omega, by omega⟩
  · refine Tr.iload_n (pc := 18) (i := 1) d_X5_part_18 rfl rfl ?_
    refine Tr.bipush (pc := 19) d_X5_part_19 rfl (by decide) ?_
    refine Tr.icmp_lt (pc := 21) (tgt := 26) d_X5_part_21 rfl (fun c21 => ?_) (fun c21 => ?_)
    · refine Tr.aload_n (pc := 26) (i := 0) d_X5_part_26 rfl rfl ?_
      refine Tr.bipush (pc := 27) d_X5_part_27 rfl (by decide) ?_
      refine Tr.sipush (pc := 29) d_X5_part_29 rfl (by decide) ?_
      refine Tr.callV (pc := 32) (as := [_, _]) d_X5_part_32 s_5_136 ok_X5_takeTold rfl rfl (Nat.le_of_ble_eq_true rfl) (Nat.le_of_ble_eq_true rfl) (by decide) (ty_6 hS.1.1) ?_
      refine Tr.imp (Tr.deep (by decide) (sp_X5_takeTold_6 hS.1 ((St.kp hS (by decide) (by decide) (by decide)).trans en_6_2) 14 (by omega) 999 (by omega))) ?_
      rintro M32 _ ⟨h32, r32, rfl, lr32, ur32⟩
      have hS := St.tr hS h32 (by decide) (by decide)
      refine Tr.sc [(0, r32)] rfl ?_
      refine Tr.istore_n (pc := 35) (i := 2) (ls2 := [(2, (0, r32)), (1, (0, r8)), (0, (2, 6))]) d_X5_part_35 rfl (by decide) rfl ?_
      refine Tr.iload_n (pc := 36) (i := 2) d_X5_part_36 rfl rfl ?_
      have J52 : ∀ (M : Mem) (q52_0 : Int), St Tru ws_X5_part_6 as_X5_part_6 M0 M → ((-1) ≤ q52_0 ∧ q52_0 ≤ 20) → Tr l K 3 mX5_part 52 [(0, (2, 6)), (1, (0, r8)), (2, (0, r32))] [(0, q52_0)] M (q_X5_part_6 M0) := by
        intro M q52_0 hS bq52_0 
        refine Tr.istore_n (pc := 52) (i := 3) (ls2 := [(3, (0, q52_0)), (0, (2, 6)), (1, (0, r8)), (2, (0, r32))]) d_X5_part_52 rfl (by decide) rfl ?_
        refine Tr.iload_n (pc := 53) (i := 3) d_X5_part_53 rfl rfl ?_
        have J69 : ∀ (M : Mem) (q69_0 : Int), St Tru ws_X5_part_6 as_X5_part_6 M0 M → ((-1) ≤ q69_0 ∧ q69_0 ≤ 999) → Tr l K 3 mX5_part 69 [(0, (2, 6)), (1, (0, r8)), (2, (0, r32)), (3, (0, q52_0))] [(0, q69_0)] M (q_X5_part_6 M0) := by
          intro M q69_0 hS bq69_0 
          refine Tr.istore (pc := 69) (i := 4) (ls2 := [(4, (0, q69_0)), (0, (2, 6)), (1, (0, r8)), (2, (0, r32)), (3, (0, q52_0))]) d_X5_part_69 (by decide) rfl ?_
          refine Tr.iload (pc := 71) (i := 4) d_X5_part_71 rfl ?_
          have J89 : ∀ (M : Mem) (q89_0 : Int), St Tru ws_X5_part_6 as_X5_part_6 M0 M → ((-1) ≤ q89_0 ∧ q89_0 ≤ 999) → Tr l K 3 mX5_part 89 [(0, (2, 6)), (1, (0, r8)), (2, (0, r32)), (3, (0, q52_0)), (4, (0, q69_0))] [(0, q89_0)] M (q_X5_part_6 M0) := by
            intro M q89_0 hS bq89_0 
            refine Tr.istore (pc := 89) (i := 5) (ls2 := [(5, (0, q89_0)), (0, (2, 6)), (1, (0, r8)), (2, (0, r32)), (3, (0, q52_0)), (4, (0, q69_0))]) d_X5_part_89 (by decide) rfl ?_
            refine Tr.iload (pc := 91) (i := 5) d_X5_part_91 rfl ?_
            have J109 : ∀ (M : Mem) (q109_0 : Int), St Tru ws_X5_part_6 as_X5_part_6 M0 M → ((-1) ≤ q109_0 ∧ q109_0 ≤ 999) → Tr l K 3 mX5_part 109 [(0, (2, 6)), (1, (0, r8)), (2, (0, r32)), (3, (0, q52_0)), (4, (0, q69_0)), (5, (0, q89_0))] [(0, q109_0)] M (q_X5_part_6 M0) := by
              intro M q109_0 hS bq109_0 
              refine Tr.istore (pc := 109) (i := 6) (ls2 := [(6, (0, q109_0)), (0, (2, 6)), (1, (0, r8)), (2, (0, r32)), (3, (0, q52_0)), (4, (0, q69_0)), (5, (0, q89_0))]) d_X5_part_109 (by decide) rfl ?_
              refine Tr.iload (pc := 111) (i := 6) d_X5_part_111 rfl ?_
              have J128 : ∀ (M : Mem) (q128_0 : Int), St Tru ws_X5_part_6 as_X5_part_6 M0 M → ((-1) ≤ q128_0 ∧ q128_0 ≤ 50) → Tr l K 3 mX5_part 128 [(0, (2, 6)), (1, (0, r8)), (2, (0, r32)), (3, (0, q52_0)), (4, (0, q69_0)), (5, (0, q89_0)), (6, (0, q109_0))] [(0, q128_0)] M (q_X5_part_6 M0) := by
                intro M q128_0 hS bq128_0 
                refine Tr.istore (pc := 128) (i := 7) (ls2 := [(7, (0, q128_0)), (0, (2, 6)), (1, (0, r8)), (2, (0, r32)), (3, (0, q52_0)), (4, (0, q69_0)), (5, (0, q89_0)), (6, (0, q109_0))]) d_X5_part_128 (by decide) rfl ?_
                refine Tr.iload (pc := 130) (i := 7) d_X5_part_130 rfl ?_
                refine Tr.if_lt (pc := 132) (tgt := 144) d_X5_part_132 rfl (fun c132 => ?_) (fun c132 => ?_)
                · refine Tr.iconst (pc := 144) d_X5_part_144 (by decide) ?_
                  exact Tr.zret (pc := 145) d_X5_part_145 rfl (by omega) ⟨hS, _, rfl, by omega, by omega⟩
                · refine Tr.aload_n (pc := 135) (i := 0) d_X5_part_135 rfl rfl ?_
                  refine Tr.bipush (pc := 136) d_X5_part_136 rfl (by decide) ?_
                  refine Tr.callV (pc := 138) (as := [_]) d_X5_part_138 s_5_81 ok_X5_takeSign rfl rfl (Nat.le_of_ble_eq_true rfl) (Nat.le_of_ble_eq_true rfl) (by decide) (ty_6 hS.1.1) ?_
                  refine Tr.imp (Tr.deep (by decide) (sp_X5_takeSign_6 hS.1 ((St.kp hS (by decide) (by decide) (by decide)).trans en_6_2) 59 (by omega))) ?_
                  rintro M138 _ ⟨h138, r138, rfl, lr138, ur138⟩
                  have hS := St.tr hS h138 (by decide) (by decide)
                  refine Tr.sc [(0, r138)] rfl ?_
                  refine Tr.if_ne (pc := 141) (tgt := 146) d_X5_part_141 rfl (fun c141 => ?_) (fun c141 => ?_)
                  · refine Tr.aload_n (pc := 146) (i := 0) d_X5_part_146 rfl rfl ?_
                    refine Tr.getf (pc := 147) d_X5_part_147 f_5_22 (by decide) (by decide) (ty_6 hS.1.1) ?_
                    refine Tr.tp 27 ((St.kp hS (by decide) (by decide) (by decide)).trans en_6_3) ?_
                    refine Tr.getf (pc := 150) d_X5_part_150 f_5_139 (by decide) (by decide) (ty_27 hS.1.1) ?_
                    refine Tr.tp 29 (fx_27_5 hS.1.1) ?_
                    refine Tr.iload_n (pc := 153) (i := 1) d_X5_part_153 rfl rfl ?_
                    refine Tr.iconst (pc := 154) d_X5_part_154 (by decide) ?_
                    refine Tr.imul (pc := 155) d_X5_part_155 ?_
                    refine Tr.tp (4 * r8) ((w32_id (by omega)).trans (by omega)) ?_
                    refine Tr.iconst (pc := 156) d_X5_part_156 (by decide) ?_
                    refine Tr.iadd (pc := 157) d_X5_part_157 ?_
                    refine Tr.tp (4 * r8) ((w32_id (by omega)).trans (by omega)) ?_
                    refine Tr.iload_n (pc := 158) (i := 2) d_X5_part_158 rfl rfl ?_
                    refine Tr.iastS (pc := 159) (P := St Tru ws_X5_part_6 as_X5_part_6 M0) d_X5_part_159 (ty_29 hS.1.1) (by omega) (by omega) (sa_29 hS (by decide) (by omega) trivial) (fun M159 hS w159 => ?_)
                    refine Tr.aload_n (pc := 160) (i := 0) d_X5_part_160 rfl rfl ?_
                    refine Tr.getf (pc := 161) d_X5_part_161 f_5_22 (by decide) (by decide) (ty_6 hS.1.1) ?_
                    refine Tr.tp 27 ((St.kp hS (by decide) (by decide) (by decide)).trans en_6_3) ?_
                    refine Tr.getf (pc := 164) d_X5_part_164 f_5_139 (by decide) (by decide) (ty_27 hS.1.1) ?_
                    refine Tr.tp 29 (fx_27_5 hS.1.1) ?_
                    refine Tr.iload_n (pc := 167) (i := 1) d_X5_part_167 rfl rfl ?_
                    refine Tr.iconst (pc := 168) d_X5_part_168 (by decide) ?_
                    refine Tr.imul (pc := 169) d_X5_part_169 ?_
                    refine Tr.tp (4 * r8) ((w32_id (by omega)).trans (by omega)) ?_
                    refine Tr.iconst (pc := 170) d_X5_part_170 (by decide) ?_
                    refine Tr.iadd (pc := 171) d_X5_part_171 ?_
                    refine Tr.tp (4 * r8 + 1) ((w32_id (by omega)).trans (by omega)) ?_
                    refine Tr.iload (pc := 172) (i := 4) d_X5_part_172 rfl ?_
                    refine Tr.iastS (pc := 174) (P := St Tru ws_X5_part_6 as_X5_part_6 M0) d_X5_part_174 (ty_29 hS.1.1) (by omega) (by omega) (sa_29 hS (by decide) (by omega) trivial) (fun M174 hS w174 => ?_)
                    refine Tr.aload_n (pc := 175) (i := 0) d_X5_part_175 rfl rfl ?_
                    refine Tr.getf (pc := 176) d_X5_part_176 f_5_22 (by decide) (by decide) (ty_6 hS.1.1) ?_
                    refine Tr.tp 27 ((St.kp hS (by decide) (by decide) (by decide)).trans en_6_3) ?_
                    refine Tr.getf (pc := 179) d_X5_part_179 f_5_139 (by decide) (by decide) (ty_27 hS.1.1) ?_
                    refine Tr.tp 29 (fx_27_5 hS.1.1) ?_
                    refine Tr.iload_n (pc := 182) (i := 1) d_X5_part_182 rfl rfl ?_
                    refine Tr.iconst (pc := 183) d_X5_part_183 (by decide) ?_
                    refine Tr.imul (pc := 184) d_X5_part_184 ?_
                    refine Tr.tp (4 * r8) ((w32_id (by omega)).trans (by omega)) ?_
                    refine Tr.iconst (pc := 185) d_X5_part_185 (by decide) ?_
                    refine Tr.iadd (pc := 186) d_X5_part_186 ?_
                    refine Tr.tp (4 * r8 + 2) ((w32_id (by omega)).trans (by omega)) ?_
                    refine Tr.iload (pc := 187) (i := 5) d_X5_part_187 rfl ?_
                    refine Tr.iastS (pc := 189) (P := St Tru ws_X5_part_6 as_X5_part_6 M0) d_X5_part_189 (ty_29 hS.1.1) (by omega) (by omega) (sa_29 hS (by decide) (by omega) trivial) (fun M189 hS w189 => ?_)
                    refine Tr.aload_n (pc := 190) (i := 0) d_X5_part_190 rfl rfl ?_
                    refine Tr.getf (pc := 191) d_X5_part_191 f_5_22 (by decide) (by decide) (ty_6 hS.1.1) ?_
                    refine Tr.tp 27 ((St.kp hS (by decide) (by decide) (by decide)).trans en_6_3) ?_
                    refine Tr.getf (pc := 194) d_X5_part_194 f_5_139 (by decide) (by decide) (ty_27 hS.1.1) ?_
                    refine Tr.tp 29 (fx_27_5 hS.1.1) ?_
                    refine Tr.iload_n (pc := 197) (i := 1) d_X5_part_197 rfl rfl ?_
                    refine Tr.iconst (pc := 198) d_X5_part_198 (by decide) ?_
                    refine Tr.imul (pc := 199) d_X5_part_199 ?_
                    refine Tr.tp (4 * r8) ((w32_id (by omega)).trans (by omega)) ?_
                    refine Tr.iconst (pc := 200) d_X5_part_200 (by decide) ?_
                    refine Tr.iadd (pc := 201) d_X5_part_201 ?_
                    refine Tr.tp (4 * r8 + 3) ((w32_id (by omega)).trans (by omega)) ?_
                    refine Tr.iload (pc := 202) (i := 6) d_X5_part_202 rfl ?_
                    refine Tr.iastS (pc := 204) (P := St Tru ws_X5_part_6 as_X5_part_6 M0) d_X5_part_204 (ty_29 hS.1.1) (by omega) (by omega) (sa_29 hS (by decide) (by omega) trivial) (fun M204 hS w204 => ?_)
                    refine Tr.aload_n (pc := 205) (i := 0) d_X5_part_205 rfl rfl ?_
                    refine Tr.getf (pc := 206) d_X5_part_206 f_5_22 (by decide) (by decide) (ty_6 hS.1.1) ?_
                    refine Tr.tp 27 ((St.kp hS (by decide) (by decide) (by decide)).trans en_6_3) ?_
                    refine Tr.getf (pc := 209) d_X5_part_209 f_5_142 (by decide) (by decide) (ty_27 hS.1.1) ?_
                    refine Tr.tp 30 (fx_27_6 hS.1.1) ?_
                    refine Tr.iload_n (pc := 212) (i := 1) d_X5_part_212 rfl rfl ?_
                    refine Tr.iload_n (pc := 213) (i := 3) d_X5_part_213 rfl rfl ?_
                    refine Tr.iastS (pc := 214) (P := St Tru ws_X5_part_6 as_X5_part_6 M0) d_X5_part_214 (ty_30 hS.1.1) (by omega) (by omega) (sa_30 hS (by decide) (by omega) trivial) (fun M214 hS w214 => ?_)
                    refine Tr.aload_n (pc := 215) (i := 0) d_X5_part_215 rfl rfl ?_
                    refine Tr.getf (pc := 216) d_X5_part_216 f_5_22 (by decide) (by decide) (ty_6 hS.1.1) ?_
                    refine Tr.tp 27 ((St.kp hS (by decide) (by decide) (by decide)).trans en_6_3) ?_
                    refine Tr.getf (pc := 219) d_X5_part_219 f_5_145 (by decide) (by decide) (ty_27 hS.1.1) ?_
                    refine Tr.tp 31 (fx_27_7 hS.1.1) ?_
                    refine Tr.iload_n (pc := 222) (i := 1) d_X5_part_222 rfl rfl ?_
                    refine Tr.iload (pc := 223) (i := 7) d_X5_part_223 rfl ?_
                    refine Tr.iastS (pc := 225) (P := St Tru ws_X5_part_6 as_X5_part_6 M0) d_X5_part_225 (ty_31 hS.1.1) (by omega) (by omega) (sa_31 hS (by decide) (by omega) trivial) (fun M225 hS w225 => ?_)
                    refine Tr.iconst (pc := 226) d_X5_part_226 (by decide) ?_
                    exact Tr.zret (pc := 227) d_X5_part_227 rfl (by omega) ⟨hS, _, rfl, by omega, by omega⟩
                  · refine Tr.iconst (pc := 144) d_X5_part_144 (by decide) ?_
                    exact Tr.zret (pc := 145) d_X5_part_145 rfl (by omega) ⟨hS, _, rfl, by omega, by omega⟩
              refine Tr.if_ge (pc := 113) (tgt := 120) d_X5_part_113 rfl (fun c113 => ?_) (fun c113 => ?_)
              · refine Tr.aload_n (pc := 120) (i := 0) d_X5_part_120 rfl rfl ?_
                refine Tr.bipush (pc := 121) d_X5_part_121 rfl (by decide) ?_
                refine Tr.bipush (pc := 123) d_X5_part_123 rfl (by decide) ?_
                refine Tr.callV (pc := 125) (as := [_, _]) d_X5_part_125 s_5_136 ok_X5_takeTold rfl rfl (Nat.le_of_ble_eq_true rfl) (Nat.le_of_ble_eq_true rfl) (by decide) (ty_6 hS.1.1) ?_
                refine Tr.imp (Tr.deep (by decide) (sp_X5_takeTold_6_w4 hS.1 ((St.kp hS (by decide) (by decide) (by decide)).trans en_6_2) 18 (by omega) 50 (by omega))) ?_
                rintro M125 _ ⟨h125, r125, rfl, lr125, ur125⟩
                have hS := St.tr hS h125 (by decide) (by decide)
                refine Tr.sc [(0, r125)] rfl ?_
                refine Tr.pick [1, 2, 3, 4, 5, 6, 0] (ls2 := [(0, (2, 6)), (1, (0, r8)), (2, (0, r32)), (3, (0, q52_0)), (4, (0, q69_0)), (5, (0, q89_0)), (6, (0, q109_0))]) rfl ?_
                exact J128 _ _ hS (by omega)
              · refine Tr.iconst (pc := 116) d_X5_part_116 (by decide) ?_
                refine Tr.goto (pc := 117) (tgt := 128) d_X5_part_117 rfl ?_
                refine Tr.pick [1, 2, 3, 4, 5, 6, 0] (ls2 := [(0, (2, 6)), (1, (0, r8)), (2, (0, r32)), (3, (0, q52_0)), (4, (0, q69_0)), (5, (0, q89_0)), (6, (0, q109_0))]) rfl ?_
                exact J128 _ _ hS (by omega)
            refine Tr.if_ge (pc := 93) (tgt := 100) d_X5_part_93 rfl (fun c93 => ?_) (fun c93 => ?_)
            · refine Tr.aload_n (pc := 100) (i := 0) d_X5_part_100 rfl rfl ?_
              refine Tr.bipush (pc := 101) d_X5_part_101 rfl (by decide) ?_
              refine Tr.sipush (pc := 103) d_X5_part_103 rfl (by decide) ?_
              refine Tr.callV (pc := 106) (as := [_, _]) d_X5_part_106 s_5_136 ok_X5_takeTold rfl rfl (Nat.le_of_ble_eq_true rfl) (Nat.le_of_ble_eq_true rfl) (by decide) (ty_6 hS.1.1) ?_
              refine Tr.imp (Tr.deep (by decide) (sp_X5_takeTold_6_w3 hS.1 ((St.kp hS (by decide) (by decide) (by decide)).trans en_6_2) 17 (by omega) 999 (by omega))) ?_
              rintro M106 _ ⟨h106, r106, rfl, lr106, ur106⟩
              have hS := St.tr hS h106 (by decide) (by decide)
              refine Tr.sc [(0, r106)] rfl ?_
              refine Tr.pick [1, 2, 3, 4, 5, 0] (ls2 := [(0, (2, 6)), (1, (0, r8)), (2, (0, r32)), (3, (0, q52_0)), (4, (0, q69_0)), (5, (0, q89_0))]) rfl ?_
              exact J109 _ _ hS (by omega)
            · refine Tr.iconst (pc := 96) d_X5_part_96 (by decide) ?_
              refine Tr.goto (pc := 97) (tgt := 109) d_X5_part_97 rfl ?_
              refine Tr.pick [1, 2, 3, 4, 5, 0] (ls2 := [(0, (2, 6)), (1, (0, r8)), (2, (0, r32)), (3, (0, q52_0)), (4, (0, q69_0)), (5, (0, q89_0))]) rfl ?_
              exact J109 _ _ hS (by omega)
          refine Tr.if_ge (pc := 73) (tgt := 80) d_X5_part_73 rfl (fun c73 => ?_) (fun c73 => ?_)
          · refine Tr.aload_n (pc := 80) (i := 0) d_X5_part_80 rfl rfl ?_
            refine Tr.bipush (pc := 81) d_X5_part_81 rfl (by decide) ?_
            refine Tr.sipush (pc := 83) d_X5_part_83 rfl (by decide) ?_
            refine Tr.callV (pc := 86) (as := [_, _]) d_X5_part_86 s_5_136 ok_X5_takeTold rfl rfl (Nat.le_of_ble_eq_true rfl) (Nat.le_of_ble_eq_true rfl) (by decide) (ty_6 hS.1.1) ?_
            refine Tr.imp (Tr.deep (by decide) (sp_X5_takeTold_6_w2 hS.1 ((St.kp hS (by decide) (by decide) (by decide)).trans en_6_2) 16 (by omega) 999 (by omega))) ?_
            rintro M86 _ ⟨h86, r86, rfl, lr86, ur86⟩
            have hS := St.tr hS h86 (by decide) (by decide)
            refine Tr.sc [(0, r86)] rfl ?_
            refine Tr.pick [1, 2, 3, 4, 0] (ls2 := [(0, (2, 6)), (1, (0, r8)), (2, (0, r32)), (3, (0, q52_0)), (4, (0, q69_0))]) rfl ?_
            exact J89 _ _ hS (by omega)
          · refine Tr.iconst (pc := 76) d_X5_part_76 (by decide) ?_
            refine Tr.goto (pc := 77) (tgt := 89) d_X5_part_77 rfl ?_
            refine Tr.pick [1, 2, 3, 4, 0] (ls2 := [(0, (2, 6)), (1, (0, r8)), (2, (0, r32)), (3, (0, q52_0)), (4, (0, q69_0))]) rfl ?_
            exact J89 _ _ hS (by omega)
        refine Tr.if_ge (pc := 54) (tgt := 61) d_X5_part_54 rfl (fun c54 => ?_) (fun c54 => ?_)
        · refine Tr.aload_n (pc := 61) (i := 0) d_X5_part_61 rfl rfl ?_
          refine Tr.iconst (pc := 62) d_X5_part_62 (by decide) ?_
          refine Tr.sipush (pc := 63) d_X5_part_63 rfl (by decide) ?_
          refine Tr.callV (pc := 66) (as := [_, _]) d_X5_part_66 s_5_87 ok_X5_takeNumber rfl rfl (Nat.le_of_ble_eq_true rfl) (Nat.le_of_ble_eq_true rfl) (by decide) (ty_6 hS.1.1) ?_
          refine Tr.imp (Tr.deep (by decide) (sp_X5_takeNumber_6_w2 hS.1 ((St.kp hS (by decide) (by decide) (by decide)).trans en_6_2) 0 (by omega) 999 (by omega))) ?_
          rintro M66 _ ⟨h66, r66, rfl, lr66, ur66⟩
          have hS := St.tr hS h66 (by decide) (by decide)
          refine Tr.sc [(0, r66)] rfl ?_
          refine Tr.pick [1, 2, 3, 0] (ls2 := [(0, (2, 6)), (1, (0, r8)), (2, (0, r32)), (3, (0, q52_0))]) rfl ?_
          exact J69 _ _ hS (by omega)
        · refine Tr.iconst (pc := 57) d_X5_part_57 (by decide) ?_
          refine Tr.goto (pc := 58) (tgt := 69) d_X5_part_58 rfl ?_
          refine Tr.pick [1, 2, 3, 0] (ls2 := [(0, (2, 6)), (1, (0, r8)), (2, (0, r32)), (3, (0, q52_0))]) rfl ?_
          exact J69 _ _ hS (by omega)
      refine Tr.if_ge (pc := 37) (tgt := 44) d_X5_part_37 rfl (fun c37 => ?_) (fun c37 => ?_)
      · refine Tr.aload_n (pc := 44) (i := 0) d_X5_part_44 rfl rfl ?_
        refine Tr.bipush (pc := 45) d_X5_part_45 rfl (by decide) ?_
        refine Tr.bipush (pc := 47) d_X5_part_47 rfl (by decide) ?_
        refine Tr.callV (pc := 49) (as := [_, _]) d_X5_part_49 s_5_136 ok_X5_takeTold rfl rfl (Nat.le_of_ble_eq_true rfl) (Nat.le_of_ble_eq_true rfl) (by decide) (ty_6 hS.1.1) ?_
        refine Tr.imp (Tr.deep (by decide) (sp_X5_takeTold_6_w1 hS.1 ((St.kp hS (by decide) (by decide) (by decide)).trans en_6_2) 15 (by omega) 20 (by omega))) ?_
        rintro M49 _ ⟨h49, r49, rfl, lr49, ur49⟩
        have hS := St.tr hS h49 (by decide) (by decide)
        refine Tr.sc [(0, r49)] rfl ?_
        refine Tr.pick [2, 1, 0] (ls2 := [(0, (2, 6)), (1, (0, r8)), (2, (0, r32))]) rfl ?_
        exact J52 _ _ hS (by omega)
      · refine Tr.iconst (pc := 40) d_X5_part_40 (by decide) ?_
        refine Tr.goto (pc := 41) (tgt := 52) d_X5_part_41 rfl ?_
        refine Tr.pick [2, 1, 0] (ls2 := [(0, (2, 6)), (1, (0, r8)), (2, (0, r32))]) rfl ?_
        exact J52 _ _ hS (by omega)
    · refine Tr.iconst (pc := 24) d_X5_part_24 (by decide) ?_
      exact Tr.zret (pc := 25) d_X5_part_25 rfl (by omega) ⟨hS, _, rfl, by omega, by omega⟩

def ws_X5_declaration_6 : List (Int × Int) := [(6, 0), (6, 1), (6, 5), (27, 0), (27, 1), (27, 2), (27, 3), (28, 0), (28, 1), (28, 2)]
def as_X5_declaration_6 : List Int := [29, 30, 31, 32, 33, 34]
def q_X5_declaration_6 (M0 M' : Mem) (r : Option PV) : Prop := St Tru ws_X5_declaration_6 as_X5_declaration_6 M0 M' ∧ ∃ v : Int, r = some (0, v) ∧ 0 ≤ v ∧ v ≤ 1
set_option maxRecDepth 100000 in
set_option maxHeartbeats 4000000 in
theorem sp_X5_declaration_6 {l : Launch} {K : EC} {M0 : Mem} {xq : Int} (hI : In Tru M0) (hE : e_all K xq) (en_6_2 : rd M0 6 2 = 2) (en_6_3 : rd M0 6 3 = 27) (a1 : Int) (ha1 : (-2147483648) ≤ a1 ∧ a1 ≤ 5)  : Tr l K 4 mX5_declaration 0 [(0, (2, 6)), (1, (0, a1))] [] M0 (q_X5_declaration_6 M0) := by
  have hS : St Tru ws_X5_declaration_6 as_X5_declaration_6 M0 M0 := St.rf hI
  refine Tr.iload_n (pc := 0) (i := 1) d_X5_declaration_0 rfl rfl ?_
  rcases (show (a1 < 0 ∨ 3 < a1) ∨ a1 = 0 ∨ a1 = 1 ∨ a1 = 2 ∨ a1 = 3 by omega) with c1 | c1 | c1 | c1 | c1
  · refine Tr.tswOut (pc := 1) (tgt := 52) d_X5_declaration_1 c1 rfl ?_
    refine Tr.aload_n (pc := 52) (i := 0) d_X5_declaration_52 rfl rfl ?_
    refine Tr.iconst (pc := 53) d_X5_declaration_53 (by decide) ?_
    refine Tr.callV (pc := 54) (as := [_]) d_X5_declaration_54 s_5_112 ok_X5_beginNamed rfl rfl (Nat.le_of_ble_eq_true rfl) (Nat.le_of_ble_eq_true rfl) (by decide) (ty_6 hS.1.1) ?_
    refine Tr.imp (Tr.deep (by decide) (sp_X5_beginNamed_6 hS.1 hE ((St.kp hS (by decide) (by decide) (by decide)).trans en_6_2) ((St.kp hS (by decide) (by decide) (by decide)).trans en_6_3) 2 (by omega))) ?_
    rintro M54 _ ⟨h54, r54, rfl, lr54, ur54⟩
    have hS := St.tr hS h54 (by decide) (by decide)
    refine Tr.sc [(0, r54)] rfl ?_
    refine Tr.if_eq (pc := 57) (tgt := 73) d_X5_declaration_57 rfl (fun c57 => ?_) (fun c57 => ?_)
    · refine Tr.iconst (pc := 73) d_X5_declaration_73 (by decide) ?_
      exact Tr.zret (pc := 74) d_X5_declaration_74 rfl (by omega) ⟨hS, _, rfl, by omega, by omega⟩
    · refine Tr.aload_n (pc := 60) (i := 0) d_X5_declaration_60 rfl rfl ?_
      refine Tr.bipush (pc := 61) d_X5_declaration_61 rfl (by decide) ?_
      refine Tr.callV (pc := 63) (as := [_]) d_X5_declaration_63 s_5_81 ok_X5_takeSign rfl rfl (Nat.le_of_ble_eq_true rfl) (Nat.le_of_ble_eq_true rfl) (by decide) (ty_6 hS.1.1) ?_
      refine Tr.imp (Tr.deep (by decide) (sp_X5_takeSign_6 hS.1 ((St.kp hS (by decide) (by decide) (by decide)).trans en_6_2) 59 (by omega))) ?_
      rintro M63 _ ⟨h63, r63, rfl, lr63, ur63⟩
      have hS := St.tr hS h63 (by decide) (by decide)
      refine Tr.sc [(0, r63)] rfl ?_
      refine Tr.if_eq (pc := 66) (tgt := 73) d_X5_declaration_66 rfl (fun c66 => ?_) (fun c66 => ?_)
      · refine Tr.iconst (pc := 73) d_X5_declaration_73 (by decide) ?_
        exact Tr.zret (pc := 74) d_X5_declaration_74 rfl (by omega) ⟨hS, _, rfl, by omega, by omega⟩
      · refine Tr.iconst (pc := 69) d_X5_declaration_69 (by decide) ?_
        refine Tr.goto (pc := 70) (tgt := 74) d_X5_declaration_70 rfl ?_
        exact Tr.zret (pc := 74) d_X5_declaration_74 rfl (by omega) ⟨hS, _, rfl, by omega, by omega⟩
  · refine Tr.tp 0 c1 ?_
    refine Tr.tswIn (pc := 1) (off := 31) (tgt := 32) d_X5_declaration_1 (by decide) (by decide) rfl rfl ?_
    refine Tr.aload_n (pc := 32) (i := 0) d_X5_declaration_32 rfl rfl ?_
    refine Tr.callV (pc := 33) (as := []) d_X5_declaration_33 s_5_100 ok_X5_heart rfl rfl (Nat.le_of_ble_eq_true rfl) (Nat.le_of_ble_eq_true rfl) (by decide) (ty_6 hS.1.1) ?_
    refine Tr.imp (Tr.deep (by decide) (sp_X5_heart_6 hS.1 ((St.kp hS (by decide) (by decide) (by decide)).trans en_6_2) ((St.kp hS (by decide) (by decide) (by decide)).trans en_6_3))) ?_
    rintro M33 _ ⟨h33, r33, rfl, lr33, ur33⟩
    have hS := St.tr hS h33 (by decide) (by decide)
    refine Tr.sc [(0, r33)] rfl ?_
    exact Tr.zret (pc := 36) d_X5_declaration_36 rfl (by omega) ⟨hS, _, rfl, by omega, by omega⟩
  · refine Tr.tp 1 c1 ?_
    refine Tr.tswIn (pc := 1) (off := 36) (tgt := 37) d_X5_declaration_1 (by decide) (by decide) rfl rfl ?_
    refine Tr.aload_n (pc := 37) (i := 0) d_X5_declaration_37 rfl rfl ?_
    refine Tr.callV (pc := 38) (as := []) d_X5_declaration_38 s_5_103 ok_X5_cache rfl rfl (Nat.le_of_ble_eq_true rfl) (Nat.le_of_ble_eq_true rfl) (by decide) (ty_6 hS.1.1) ?_
    refine Tr.imp (Tr.deep (by decide) (sp_X5_cache_6 hS.1 ((St.kp hS (by decide) (by decide) (by decide)).trans en_6_2) ((St.kp hS (by decide) (by decide) (by decide)).trans en_6_3))) ?_
    rintro M38 _ ⟨h38, r38, rfl, lr38, ur38⟩
    have hS := St.tr hS h38 (by decide) (by decide)
    refine Tr.sc [(0, r38)] rfl ?_
    exact Tr.zret (pc := 41) d_X5_declaration_41 rfl (by omega) ⟨hS, _, rfl, by omega, by omega⟩
  · refine Tr.tp 2 c1 ?_
    refine Tr.tswIn (pc := 1) (off := 41) (tgt := 42) d_X5_declaration_1 (by decide) (by decide) rfl rfl ?_
    refine Tr.aload_n (pc := 42) (i := 0) d_X5_declaration_42 rfl rfl ?_
    refine Tr.callV (pc := 43) (as := []) d_X5_declaration_43 s_5_106 ok_X5_part rfl rfl (Nat.le_of_ble_eq_true rfl) (Nat.le_of_ble_eq_true rfl) (by decide) (ty_6 hS.1.1) ?_
    refine Tr.imp (Tr.deep (by decide) (sp_X5_part_6 hS.1 hE ((St.kp hS (by decide) (by decide) (by decide)).trans en_6_2) ((St.kp hS (by decide) (by decide) (by decide)).trans en_6_3))) ?_
    rintro M43 _ ⟨h43, r43, rfl, lr43, ur43⟩
    have hS := St.tr hS h43 (by decide) (by decide)
    refine Tr.sc [(0, r43)] rfl ?_
    exact Tr.zret (pc := 46) d_X5_declaration_46 rfl (by omega) ⟨hS, _, rfl, by omega, by omega⟩
  · refine Tr.tp 3 c1 ?_
    refine Tr.tswIn (pc := 1) (off := 46) (tgt := 47) d_X5_declaration_1 (by decide) (by decide) rfl rfl ?_
    refine Tr.aload_n (pc := 47) (i := 0) d_X5_declaration_47 rfl rfl ?_
    refine Tr.callV (pc := 48) (as := []) d_X5_declaration_48 s_5_109 ok_X5_input rfl rfl (Nat.le_of_ble_eq_true rfl) (Nat.le_of_ble_eq_true rfl) (by decide) (ty_6 hS.1.1) ?_
    refine Tr.imp (Tr.deep (by decide) (sp_X5_input_6 hS.1 hE ((St.kp hS (by decide) (by decide) (by decide)).trans en_6_2) ((St.kp hS (by decide) (by decide) (by decide)).trans en_6_3))) ?_
    rintro M48 _ ⟨h48, r48, rfl, lr48, ur48⟩
    have hS := St.tr hS h48 (by decide) (by decide)
    refine Tr.sc [(0, r48)] rfl ?_
    exact Tr.zret (pc := 51) d_X5_declaration_51 rfl (by omega) ⟨hS, _, rfl, by omega, by omega⟩

def ws_X5_declarations_6 : List (Int × Int) := [(6, 0), (6, 1), (6, 5), (27, 0), (27, 1), (27, 2), (27, 3), (28, 0), (28, 1), (28, 2)]
def as_X5_declarations_6 : List Int := [29, 30, 31, 32, 33, 34]
def q_X5_declarations_6 (M0 M' : Mem) (r : Option PV) : Prop := St Tru ws_X5_declarations_6 as_X5_declarations_6 M0 M' ∧ ∃ v : Int, r = some (0, v) ∧ 0 ≤ v ∧ v ≤ 1
set_option maxRecDepth 100000 in
set_option maxHeartbeats 4000000 in
theorem sp_X5_declarations_6 {l : Launch} {K : EC} {M0 : Mem} {xq : Int} (hI : In Tru M0) (hE : e_all K xq) (en_6_2 : rd M0 6 2 = 2) (en_6_3 : rd M0 6 3 = 27)   : Tr l K 5 mX5_declarations 0 [(0, (2, 6))] [] M0 (q_X5_declarations_6 M0) := by
  have hS : St Tru ws_X5_declarations_6 as_X5_declarations_6 M0 M0 := St.rf hI
  refine Tr.iconst (pc := 0) d_X5_declarations_0 (by decide) ?_
  refine Tr.istore_n (pc := 1) (i := 1) (ls2 := [(1, (0, 1)), (0, (2, 6))]) d_X5_declarations_1 rfl (by decide) rfl ?_
  refine Tr.iconst (pc := 2) d_X5_declarations_2 (by decide) ?_
  refine Tr.istore_n (pc := 3) (i := 2) (ls2 := [(2, (0, 0)), (1, (0, 1)), (0, (2, 6))]) d_X5_declarations_3 rfl (by decide) rfl ?_
  have J4 : ∀ (n4 : Nat) (M : Mem) (p4_1 p4_2 : Int), St Tru ws_X5_declarations_6 as_X5_declarations_6 M0 M → (0 ≤ p4_1 ∧ p4_1 ≤ 1) → (0 ≤ p4_2 ∧ p4_2 ≤ 900) → (900 - p4_2).toNat < n4 → Tr l K 5 mX5_declarations 4 [(0, (2, 6)), (1, (0, p4_1)), (2, (0, p4_2))] [] M (q_X5_declarations_6 M0) := by
    intro n4
    induction n4 with
    | zero => intro M p4_1 p4_2 hS bp4_1 bp4_2  hm4; exact absurd hm4 (Nat.not_lt_zero _)
    | succ n4 J4 =>
      intro M p4_1 p4_2 hS bp4_1 bp4_2  hm4
      refine Tr.iload_n (pc := 4) (i := 2) d_X5_declarations_4 rfl rfl ?_
      refine Tr.sipush (pc := 5) d_X5_declarations_5 rfl (by decide) ?_
      refine Tr.icmp_ge (pc := 8) (tgt := 70) d_X5_declarations_8 rfl (fun c8 => ?_) (fun c8 => ?_)
      · refine Tr.iload_n (pc := 70) (i := 1) d_X5_declarations_70 rfl rfl ?_
        exact Tr.zret (pc := 71) d_X5_declarations_71 rfl (by omega) ⟨hS, _, rfl, by omega, by omega⟩
      · refine Tr.iload_n (pc := 11) (i := 1) d_X5_declarations_11 rfl rfl ?_
        refine Tr.if_eq (pc := 12) (tgt := 70) d_X5_declarations_12 rfl (fun c12 => ?_) (fun c12 => ?_)
        · refine Tr.iload_n (pc := 70) (i := 1) d_X5_declarations_70 rfl rfl ?_
          exact Tr.zret (pc := 71) d_X5_declarations_71 rfl (by omega) ⟨hS, _, rfl, by omega, by omega⟩
        · refine Tr.aload_n (pc := 15) (i := 0) d_X5_declarations_15 rfl rfl ?_
          refine Tr.getf (pc := 16) d_X5_declarations_16 f_5_18 (by decide) (by decide) (ty_6 hS.1.1) ?_
          refine Tr.tp 2 ((St.kp hS (by decide) (by decide) (by decide)).trans en_6_2) ?_
          refine Tr.getf (pc := 19) d_X5_declarations_19 f_5_50 (by decide) (by decide) (ty_2 hS.1.1) ?_
          refine Tr.tp 3 (fx_2_0 hS.1.1) ?_
          refine Tr.aload_n (pc := 22) (i := 0) d_X5_declarations_22 rfl rfl ?_
          refine Tr.getf (pc := 23) d_X5_declarations_23 f_5_36 (by decide) (by decide) (ty_6 hS.1.1) ?_
          refine Tr.gen (P := fun v => 0 ≤ v ∧ v ≤ 900) (ir_6_5 hS.1.2.1) (fun r23 er23 br23 => ?_)
          refine Tr.iald (pc := 26) d_X5_declarations_26 (ty_3 hS.1.1) (by omega) (by omega) ?_
          refine Tr.gen (P := fun v => (-2147483648) ≤ v ∧ v ≤ 2147483647) (ar_3 hS.1.2.1 _) (fun r26 er26 br26 => ?_)
          refine Tr.iconst (pc := 27) d_X5_declarations_27 (by decide) ?_
          refine Tr.icmp_ne (pc := 28) (tgt := 70) d_X5_declarations_28 rfl (fun c28 => ?_) (fun c28 => ?_)
          · refine Tr.iload_n (pc := 70) (i := 1) d_X5_declarations_70 rfl rfl ?_
            exact Tr.zret (pc := 71) d_X5_declarations_71 rfl (by omega) ⟨hS, _, rfl, by omega, by omega⟩
          · refine Tr.aload_n (pc := 31) (i := 0) d_X5_declarations_31 rfl rfl ?_
            refine Tr.getf (pc := 32) d_X5_declarations_32 f_5_18 (by decide) (by decide) (ty_6 hS.1.1) ?_
            refine Tr.tp 2 ((St.kp hS (by decide) (by decide) (by decide)).trans en_6_2) ?_
            refine Tr.getf (pc := 35) d_X5_declarations_35 f_5_68 (by decide) (by decide) (ty_2 hS.1.1) ?_
            refine Tr.tp 5 (fx_2_2 hS.1.1) ?_
            refine Tr.aload_n (pc := 38) (i := 0) d_X5_declarations_38 rfl rfl ?_
            refine Tr.getf (pc := 39) d_X5_declarations_39 f_5_36 (by decide) (by decide) (ty_6 hS.1.1) ?_
            refine Tr.tp r23 er23 ?_
            refine Tr.iald (pc := 42) d_X5_declarations_42 (ty_5 hS.1.1) (by omega) (by omega) ?_
            refine Tr.gen (P := fun v => (-2147483648) ≤ v ∧ v ≤ 2147483647) (ar_5 hS.1.2.1 _) (fun r42 er42 br42 => ?_)
            refine Tr.iconst (pc := 43) d_X5_declarations_43 (by decide) ?_
            refine Tr.icmp_gt (pc := 44) (tgt := 70) d_X5_declarations_44 rfl (fun c44 => ?_) (fun c44 => ?_)
            · refine Tr.iload_n (pc := 70) (i := 1) d_X5_declarations_70 rfl rfl ?_
              exact Tr.zret (pc := 71) d_X5_declarations_71 rfl (by omega) ⟨hS, _, rfl, by omega, by omega⟩
            · refine Tr.aload_n (pc := 47) (i := 0) d_X5_declarations_47 rfl rfl ?_
              refine Tr.aload_n (pc := 48) (i := 0) d_X5_declarations_48 rfl rfl ?_
              refine Tr.getf (pc := 49) d_X5_declarations_49 f_5_18 (by decide) (by decide) (ty_6 hS.1.1) ?_
              refine Tr.tp 2 ((St.kp hS (by decide) (by decide) (by decide)).trans en_6_2) ?_
              refine Tr.getf (pc := 52) d_X5_declarations_52 f_5_68 (by decide) (by decide) (ty_2 hS.1.1) ?_
              refine Tr.tp 5 (fx_2_2 hS.1.1) ?_
              refine Tr.aload_n (pc := 55) (i := 0) d_X5_declarations_55 rfl rfl ?_
              refine Tr.getf (pc := 56) d_X5_declarations_56 f_5_36 (by decide) (by decide) (ty_6 hS.1.1) ?_
              refine Tr.tp r23 er23 ?_
              refine Tr.iald (pc := 59) d_X5_declarations_59 (ty_5 hS.1.1) (by omega) (by omega) ?_
              refine Tr.tp r42 er42 ?_
              refine Tr.callV (pc := 60) (as := [_]) d_X5_declarations_60 s_5_97 ok_X5_declaration rfl rfl (Nat.le_of_ble_eq_true rfl) (Nat.le_of_ble_eq_true rfl) (by decide) (ty_6 hS.1.1) ?_
              refine Tr.imp (Tr.deep (by decide) (sp_X5_declaration_6 hS.1 hE ((St.kp hS (by decide) (by decide) (by decide)).trans en_6_2) ((St.kp hS (by decide) (by decide) (by decide)).trans en_6_3) r42 (by omega))) ?_
              rintro M60 _ ⟨h60, r60, rfl, lr60, ur60⟩
              have hS := St.tr hS h60 (by decide) (by decide)
              refine Tr.sc [(0, r60)] rfl ?_
              refine Tr.istore_n (pc := 63) (i := 1) (ls2 := [(1, (0, r60)), (0, (2, 6)), (2, (0, p4_2))]) d_X5_declarations_63 rfl (by decide) rfl ?_
              refine Tr.iincV (pc := 64) (n2 := (p4_2 + 1)) (ls2 := [(2, (0, (p4_2 + 1))), (1, (0, r60)), (0, (2, 6))]) d_X5_declarations_64 rfl (by decide) ((w32_id (by omega)).trans (by omega)) rfl ?_
              refine Tr.goto (pc := 67) (tgt := 4) d_X5_declarations_67 rfl ?_
              refine Tr.pick [2, 1, 0] (ls2 := [(0, (2, 6)), (1, (0, r60)), (2, (0, (p4_2 + 1)))]) rfl ?_
              exact J4 _ _ _ hS (by omega) (by omega) (by omega)
  refine Tr.pick [2, 1, 0] (ls2 := [(0, (2, 6)), (1, (0, 1)), (2, (0, 0))]) rfl ?_
  exact J4 _ _ _ _ hS (by omega) (by omega) (Nat.lt_succ_self _)

def ws_X3_which_27_v1 : List (Int × Int) := []
def as_X3_which_27_v1 : List Int := []
def q_X3_which_27_v1 (a2 : Int) (M0 M' : Mem) (r : Option PV) : Prop := St Tru ws_X3_which_27_v1 as_X3_which_27_v1 M0 M' ∧ ∃ v : Int, r = some (0, v) ∧ (-1) ≤ v ∧ v ≤ 2 ∧ ((v = a2 - 6 ∧ 0 ≤ v ∧ v < rd M' 28 1) ∨ (v = -1 ∧ (a2 < 6 ∨ rd M' 28 1 ≤ a2 - 6)))
set_option maxRecDepth 100000 in
set_option maxHeartbeats 4000000 in
theorem sp_X3_which_27_v1 {l : Launch} {K : EC} {M0 : Mem} {xq : Int} (hI : In Tru M0) (hE : e_all K xq)  (a2 : Int) (ha2 : 0 ≤ a2 ∧ a2 ≤ 15)  : Tr l K 0 mX3_which 0 [(0, (2, 27)), (1, (0, 1)), (2, (0, a2))] [] M0 (q_X3_which_27_v1 a2 M0) := by
  have hS : St Tru ws_X3_which_27_v1 as_X3_which_27_v1 M0 M0 := St.rf hI
  obtain ⟨g28_1, eg28_1⟩ : ∃ v, rd M0 28 1 = v := ⟨_, rfl⟩
  have bg28_1 : 0 ≤ g28_1 ∧ g28_1 ≤ 3 := by rw [← eg28_1]; exact ir_28_1 hI.2.1
  refine Tr.iload_n (pc := 0) (i := 2) d_X3_which_0 rfl rfl ?_
  refine Tr.gets (pc := 1) d_X3_which_1 sl_3_65 hE.2.2.2.2.1 ?_
  refine Tr.iload_n (pc := 4) (i := 1) d_X3_which_4 rfl rfl ?_
  refine Tr.xld (pc := 5) (i := 2) d_X3_which_5 rfl hE.2.1 (by omega) (by omega) ?_
  refine Tr.tp 6 (by decide) ?_
  refine Tr.isub (pc := 6) d_X3_which_6 ?_
  refine Tr.tp (a2 - 6) ((w32_id (by omega)).trans (by omega)) ?_
  refine Tr.istore_n (pc := 7) (i := 3) (ls2 := [(3, (0, (a2 - 6))), (0, (2, 27)), (1, (0, 1)), (2, (0, a2))]) d_X3_which_7 rfl (by decide) rfl ?_
  refine Tr.iload_n (pc := 8) (i := 3) d_X3_which_8 rfl rfl ?_
  refine Tr.if_lt (pc := 9) (tgt := 26) d_X3_which_9 rfl (fun c9 => ?_) (fun c9 => ?_)
  · refine Tr.iconst (pc := 26) d_X3_which_26 (by decide) ?_
    have kr_28_1 : rd M0 28 1 = g28_1 := eg28_1
    exact Tr.iret (pc := 27) d_X3_which_27 rfl ⟨hS, _, rfl, by omega, by omega, by omega⟩
  · refine Tr.iload_n (pc := 12) (i := 3) d_X3_which_12 rfl rfl ?_
    refine Tr.aload_n (pc := 13) (i := 0) d_X3_which_13 rfl rfl ?_
    refine Tr.getf (pc := 14) d_X3_which_14 f_3_11 (by decide) (by decide) (ty_27 hS.1.1) ?_
    refine Tr.tp 28 (fx_27_4 hS.1.1) ?_
    refine Tr.iload_n (pc := 17) (i := 1) d_X3_which_17 rfl rfl ?_
    refine Tr.iald (pc := 18) d_X3_which_18 (ty_28 hS.1.1) (by omega) (by omega) ?_
    refine Tr.tp g28_1 eg28_1 ?_
    refine Tr.icmp_ge (pc := 19) (tgt := 26) d_X3_which_19 rfl (fun c19 => ?_) (fun c19 => ?_)
    · refine Tr.iconst (pc := 26) d_X3_which_26 (by decide) ?_
      have kr_28_1 : rd M0 28 1 = g28_1 := eg28_1
      exact Tr.iret (pc := 27) d_X3_which_27 rfl ⟨hS, _, rfl, by omega, by omega, by omega⟩
    · refine Tr.iload_n (pc := 22) (i := 3) d_X3_which_22 rfl rfl ?_
      refine Tr.goto (pc := 23) (tgt := 27) d_X3_which_23 rfl ?_
      have kr_28_1 : rd M0 28 1 = g28_1 := eg28_1
      exact Tr.iret (pc := 27) d_X3_which_27 rfl ⟨hS, _, rfl, by omega, by omega, by omega⟩

def ws_X3_which_27_v2 : List (Int × Int) := []
def as_X3_which_27_v2 : List Int := []
def q_X3_which_27_v2 (a2 : Int) (M0 M' : Mem) (r : Option PV) : Prop := St Tru ws_X3_which_27_v2 as_X3_which_27_v2 M0 M' ∧ ∃ v : Int, r = some (0, v) ∧ (-1) ≤ v ∧ v ≤ 5 ∧ ((v = a2 - 9 ∧ 0 ≤ v ∧ v < rd M' 28 2) ∨ (v = -1 ∧ (a2 < 9 ∨ rd M' 28 2 ≤ a2 - 9)))
set_option maxRecDepth 100000 in
set_option maxHeartbeats 4000000 in
theorem sp_X3_which_27_v2 {l : Launch} {K : EC} {M0 : Mem} {xq : Int} (hI : In Tru M0) (hE : e_all K xq)  (a2 : Int) (ha2 : 0 ≤ a2 ∧ a2 ≤ 15)  : Tr l K 0 mX3_which 0 [(0, (2, 27)), (1, (0, 2)), (2, (0, a2))] [] M0 (q_X3_which_27_v2 a2 M0) := by
  have hS : St Tru ws_X3_which_27_v2 as_X3_which_27_v2 M0 M0 := St.rf hI
  obtain ⟨g28_2, eg28_2⟩ : ∃ v, rd M0 28 2 = v := ⟨_, rfl⟩
  have bg28_2 : 0 ≤ g28_2 ∧ g28_2 ≤ 6 := by rw [← eg28_2]; exact ir_28_2 hI.2.1
  refine Tr.iload_n (pc := 0) (i := 2) d_X3_which_0 rfl rfl ?_
  refine Tr.gets (pc := 1) d_X3_which_1 sl_3_65 hE.2.2.2.2.1 ?_
  refine Tr.iload_n (pc := 4) (i := 1) d_X3_which_4 rfl rfl ?_
  refine Tr.xld (pc := 5) (i := 2) d_X3_which_5 rfl hE.2.1 (by omega) (by omega) ?_
  refine Tr.tp 9 (by decide) ?_
  refine Tr.isub (pc := 6) d_X3_which_6 ?_
  refine Tr.tp (a2 - 9) ((w32_id (by omega)).trans (by omega)) ?_
  refine Tr.istore_n (pc := 7) (i := 3) (ls2 := [(3, (0, (a2 - 9))), (0, (2, 27)), (1, (0, 2)), (2, (0, a2))]) d_X3_which_7 rfl (by decide) rfl ?_
  refine Tr.iload_n (pc := 8) (i := 3) d_X3_which_8 rfl rfl ?_
  refine Tr.if_lt (pc := 9) (tgt := 26) d_X3_which_9 rfl (fun c9 => ?_) (fun c9 => ?_)
  · refine Tr.iconst (pc := 26) d_X3_which_26 (by decide) ?_
    have kr_28_2 : rd M0 28 2 = g28_2 := eg28_2
    exact Tr.iret (pc := 27) d_X3_which_27 rfl ⟨hS, _, rfl, by omega, by omega, by omega⟩
  · refine Tr.iload_n (pc := 12) (i := 3) d_X3_which_12 rfl rfl ?_
    refine Tr.aload_n (pc := 13) (i := 0) d_X3_which_13 rfl rfl ?_
    refine Tr.getf (pc := 14) d_X3_which_14 f_3_11 (by decide) (by decide) (ty_27 hS.1.1) ?_
    refine Tr.tp 28 (fx_27_4 hS.1.1) ?_
    refine Tr.iload_n (pc := 17) (i := 1) d_X3_which_17 rfl rfl ?_
    refine Tr.iald (pc := 18) d_X3_which_18 (ty_28 hS.1.1) (by omega) (by omega) ?_
    refine Tr.tp g28_2 eg28_2 ?_
    refine Tr.icmp_ge (pc := 19) (tgt := 26) d_X3_which_19 rfl (fun c19 => ?_) (fun c19 => ?_)
    · refine Tr.iconst (pc := 26) d_X3_which_26 (by decide) ?_
      have kr_28_2 : rd M0 28 2 = g28_2 := eg28_2
      exact Tr.iret (pc := 27) d_X3_which_27 rfl ⟨hS, _, rfl, by omega, by omega, by omega⟩
    · refine Tr.iload_n (pc := 22) (i := 3) d_X3_which_22 rfl rfl ?_
      refine Tr.goto (pc := 23) (tgt := 27) d_X3_which_23 rfl ?_
      have kr_28_2 : rd M0 28 2 = g28_2 := eg28_2
      exact Tr.iret (pc := 27) d_X3_which_27 rfl ⟨hS, _, rfl, by omega, by omega, by omega⟩

def ws_X5_takeName_6_v2 : List (Int × Int) := [(6, 0), (6, 1), (6, 5)]
def as_X5_takeName_6_v2 : List Int := []
def q_X5_takeName_6_v2 (M0 M' : Mem) (r : Option PV) : Prop := St Tru ws_X5_takeName_6_v2 as_X5_takeName_6_v2 M0 M' ∧ ∃ v : Int, r = some (0, v) ∧ (-1) ≤ v ∧ v ≤ 5
set_option maxRecDepth 100000 in
set_option maxHeartbeats 4000000 in
theorem sp_X5_takeName_6_v2 {l : Launch} {K : EC} {M0 : Mem} {xq : Int} (hI : In Tru M0) (hE : e_all K xq) (en_6_2 : rd M0 6 2 = 2) (en_6_3 : rd M0 6 3 = 27)   : Tr l K 1 mX5_takeName 0 [(0, (2, 6)), (1, (0, 2))] [] M0 (q_X5_takeName_6_v2 M0) := by
  have hS : St Tru ws_X5_takeName_6_v2 as_X5_takeName_6_v2 M0 M0 := St.rf hI
  refine Tr.aload_n (pc := 0) (i := 0) d_X5_takeName_0 rfl rfl ?_
  refine Tr.getf (pc := 1) d_X5_takeName_1 f_5_18 (by decide) (by decide) (ty_6 hS.1.1) ?_
  refine Tr.tp 2 ((St.kp hS (by decide) (by decide) (by decide)).trans en_6_2) ?_
  refine Tr.getf (pc := 4) d_X5_takeName_4 f_5_50 (by decide) (by decide) (ty_2 hS.1.1) ?_
  refine Tr.tp 3 (fx_2_0 hS.1.1) ?_
  refine Tr.aload_n (pc := 7) (i := 0) d_X5_takeName_7 rfl rfl ?_
  refine Tr.getf (pc := 8) d_X5_takeName_8 f_5_36 (by decide) (by decide) (ty_6 hS.1.1) ?_
  refine Tr.gen (P := fun v => 0 ≤ v ∧ v ≤ 900) (ir_6_5 hS.1.2.1) (fun r8 er8 br8 => ?_)
  refine Tr.iald (pc := 11) d_X5_takeName_11 (ty_3 hS.1.1) (by omega) (by omega) ?_
  refine Tr.gen (P := fun v => (-2147483648) ≤ v ∧ v ≤ 2147483647) (ar_3 hS.1.2.1 _) (fun r11 er11 br11 => ?_)
  refine Tr.iconst (pc := 12) d_X5_takeName_12 (by decide) ?_
  refine Tr.icmp_eq (pc := 13) (tgt := 24) d_X5_takeName_13 rfl (fun c13 => ?_) (fun c13 => ?_)
  · refine Tr.aload_n (pc := 24) (i := 0) d_X5_takeName_24 rfl rfl ?_
    refine Tr.getf (pc := 25) d_X5_takeName_25 f_5_22 (by decide) (by decide) (ty_6 hS.1.1) ?_
    refine Tr.tp 27 ((St.kp hS (by decide) (by decide) (by decide)).trans en_6_3) ?_
    refine Tr.aload_n (pc := 28) (i := 0) d_X5_takeName_28 rfl rfl ?_
    refine Tr.getf (pc := 29) d_X5_takeName_29 f_5_18 (by decide) (by decide) (ty_6 hS.1.1) ?_
    refine Tr.tp 2 ((St.kp hS (by decide) (by decide) (by decide)).trans en_6_2) ?_
    refine Tr.getf (pc := 32) d_X5_takeName_32 f_5_68 (by decide) (by decide) (ty_2 hS.1.1) ?_
    refine Tr.tp 5 (fx_2_2 hS.1.1) ?_
    refine Tr.aload_n (pc := 35) (i := 0) d_X5_takeName_35 rfl rfl ?_
    refine Tr.getf (pc := 36) d_X5_takeName_36 f_5_36 (by decide) (by decide) (ty_6 hS.1.1) ?_
    refine Tr.tp r8 er8 ?_
    refine Tr.iald (pc := 39) d_X5_takeName_39 (ty_5 hS.1.1) (by omega) (by omega) ?_
    refine Tr.gen (P := fun v => (-2147483648) ≤ v ∧ v ≤ 2147483647) (ar_5 hS.1.2.1 _) (fun r39 er39 br39 => ?_)
    refine Tr.callV (pc := 40) (as := [_]) d_X5_takeName_40 s_5_91 ok_X3_find rfl rfl (Nat.le_of_ble_eq_true rfl) (Nat.le_of_ble_eq_true rfl) (by decide) (ty_27 hS.1.1) ?_
    refine Tr.imp (Tr.deep (by decide) (sp_X3_find_27 hS.1 r39 (by omega))) ?_
    rintro M40 _ ⟨h40, r40, rfl, lr40, ur40⟩
    have hS := St.tr hS h40 (by decide) (by decide)
    refine Tr.sc [(0, r40)] rfl ?_
    refine Tr.istore_n (pc := 43) (i := 2) (ls2 := [(2, (0, r40)), (0, (2, 6)), (1, (0, 2))]) d_X5_takeName_43 rfl (by decide) rfl ?_
    refine Tr.iload_n (pc := 44) (i := 2) d_X5_takeName_44 rfl rfl ?_
    have J61 : ∀ (M : Mem) (q61_0 : Int), St Tru ws_X5_takeName_6_v2 as_X5_takeName_6_v2 M0 M → ((-1) ≤ q61_0 ∧ q61_0 ≤ 5) → rd M 3 r8 = r11 → rd M 5 r8 = r39 → rd M 6 5 = r8 → Tr l K 1 mX5_takeName 61 [(0, (2, 6))] [(0, q61_0)] M (q_X5_takeName_6_v2 M0) := by
      intro M q61_0 hS bq61_0 k61_3_r810 k61_5_r810 k61_6_5
      refine Tr.istore_n (pc := 61) (i := 3) (ls2 := [(3, (0, q61_0)), (0, (2, 6))]) d_X5_takeName_61 rfl (by decide) rfl ?_
      refine Tr.iload_n (pc := 62) (i := 3) d_X5_takeName_62 rfl rfl ?_
      refine Tr.if_ge (pc := 63) (tgt := 74) d_X5_takeName_63 rfl (fun c63 => ?_) (fun c63 => ?_)
      · refine Tr.aload_n (pc := 74) (i := 0) d_X5_takeName_74 rfl rfl ?_
        refine Tr.callV (pc := 75) (as := []) d_X5_takeName_75 s_5_74 ok_X5_goOn rfl rfl (Nat.le_of_ble_eq_true rfl) (Nat.le_of_ble_eq_true rfl) (by decide) (ty_6 hS.1.1) ?_
        refine Tr.imp (Tr.deep (by decide) (sp_X5_goOn_6 hS.1 )) ?_
        rintro M75 _ ⟨h75, r75, rfl, lr75, ur75⟩
        have hS := St.tr hS h75 (by decide) (by decide)
        refine Tr.sc [(0, r75)] rfl ?_
        refine Tr.pop (pc := 78) d_X5_takeName_78 ne01 ?_
        refine Tr.iload_n (pc := 79) (i := 3) d_X5_takeName_79 rfl rfl ?_
        exact Tr.iret (pc := 80) d_X5_takeName_80 rfl ⟨hS, _, rfl, by omega, by omega⟩
      · refine Tr.aload_n (pc := 66) (i := 0) d_X5_takeName_66 rfl rfl ?_
        refine Tr.iconst (pc := 67) d_X5_takeName_67 (by decide) ?_
        refine Tr.callV (pc := 68) (as := [_]) d_X5_takeName_68 s_5_56 ok_X5_refuse rfl rfl (Nat.le_of_ble_eq_true rfl) (Nat.le_of_ble_eq_true rfl) (by decide) (ty_6 hS.1.1) ?_
        refine Tr.imp (Tr.deep (by decide) (sp_X5_refuse_6_w3 hS.1 ((St.kp hS (by decide) (by decide) (by decide)).trans en_6_2) 3 (by omega))) ?_
        rintro M68 _ ⟨h68, r68, rfl, lr68, ur68⟩
        have hS := St.tr hS h68 (by decide) (by decide)
        refine Tr.sc [(0, r68)] rfl ?_
        refine Tr.pop (pc := 71) d_X5_takeName_71 ne01 ?_
        refine Tr.iconst (pc := 72) d_X5_takeName_72 (by decide) ?_
        exact Tr.iret (pc := 73) d_X5_takeName_73 rfl ⟨hS, _, rfl, by omega, by omega⟩
    refine Tr.if_ge (pc := 45) (tgt := 52) d_X5_takeName_45 rfl (fun c45 => ?_) (fun c45 => ?_)
    · refine Tr.aload_n (pc := 52) (i := 0) d_X5_takeName_52 rfl rfl ?_
      refine Tr.getf (pc := 53) d_X5_takeName_53 f_5_22 (by decide) (by decide) (ty_6 hS.1.1) ?_
      refine Tr.tp 27 ((St.kp hS (by decide) (by decide) (by decide)).trans en_6_3) ?_
      refine Tr.iload_n (pc := 56) (i := 1) d_X5_takeName_56 rfl rfl ?_
      refine Tr.iload_n (pc := 57) (i := 2) d_X5_takeName_57 rfl rfl ?_
      refine Tr.callV (pc := 58) (as := [_, _]) d_X5_takeName_58 s_5_94 ok_X3_which rfl rfl (Nat.le_of_ble_eq_true rfl) (Nat.le_of_ble_eq_true rfl) (by decide) (ty_27 hS.1.1) ?_
      refine Tr.imp (Tr.deep (by decide) (sp_X3_which_27_v2 hS.1 hE r40 (by omega))) ?_
      rintro M58 _ ⟨h58, r58, rfl, lr58, ur58, z58_0⟩
      have hS := St.tr hS h58 (by decide) (by decide)
      obtain ⟨w58_28_2, ew58_28_2⟩ : ∃ v, rd M58 28 2 = v := ⟨_, rfl⟩
      have bw58_28_2 : 0 ≤ w58_28_2 ∧ w58_28_2 ≤ 6 := by rw [← ew58_28_2]; exact ir_28_2 hS.1.2.1
      have ka58_28_2 : rd M58 28 2 = w58_28_2 := ew58_28_2
      refine Tr.sc [(0, r58)] rfl ?_
      refine Tr.pick [1] (ls2 := [(0, (2, 6))]) rfl ?_
      exact J61 _ _ hS (by omega) ((St.ka h58 (by decide) (by decide) (by decide)).trans ((St.ka h40 (by decide) (by decide) (by decide)).trans er11)) ((St.ka h58 (by decide) (by decide) (by decide)).trans ((St.ka h40 (by decide) (by decide) (by decide)).trans er39)) ((St.kp h58 (by decide) (by decide) (by decide)).trans ((St.kp h40 (by decide) (by decide) (by decide)).trans er8))
    · refine Tr.iconst (pc := 48) d_X5_takeName_48 (by decide) ?_
      refine Tr.goto (pc := 49) (tgt := 61) d_X5_takeName_49 rfl ?_
      refine Tr.pick [1] (ls2 := [(0, (2, 6))]) rfl ?_
      exact J61 _ _ hS (by omega) ((St.ka h40 (by decide) (by decide) (by decide)).trans er11) ((St.ka h40 (by decide) (by decide) (by decide)).trans er39) ((St.kp h40 (by decide) (by decide) (by decide)).trans er8)
  · refine Tr.aload_n (pc := 16) (i := 0) d_X5_takeName_16 rfl rfl ?_
    refine Tr.iconst (pc := 17) d_X5_takeName_17 (by decide) ?_
    refine Tr.callV (pc := 18) (as := [_]) d_X5_takeName_18 s_5_56 ok_X5_refuse rfl rfl (Nat.le_of_ble_eq_true rfl) (Nat.le_of_ble_eq_true rfl) (by decide) (ty_6 hS.1.1) ?_
    refine Tr.imp (Tr.deep (by decide) (sp_X5_refuse_6_w1 hS.1 ((St.kp hS (by decide) (by decide) (by decide)).trans en_6_2) 1 (by omega))) ?_
    rintro M18 _ ⟨h18, r18, rfl, lr18, ur18⟩
    have hS := St.tr hS h18 (by decide) (by decide)
    refine Tr.sc [(0, r18)] rfl ?_
    refine Tr.pop (pc := 21) d_X5_takeName_21 ne01 ?_
    refine Tr.iconst (pc := 22) d_X5_takeName_22 (by decide) ?_
    exact Tr.iret (pc := 23) d_X5_takeName_23 rfl ⟨hS, _, rfl, by omega, by omega⟩

def ws_X5_namedPiece_6 : List (Int × Int) := [(6, 0), (6, 1), (6, 5), (35, 11)]
def as_X5_namedPiece_6 : List Int := [44, 45]
def q_X5_namedPiece_6 (M0 M' : Mem) (r : Option PV) : Prop := St Tru ws_X5_namedPiece_6 as_X5_namedPiece_6 M0 M' ∧ ∃ v : Int, r = some (0, v) ∧ 0 ≤ v ∧ v ≤ 1
set_option maxRecDepth 100000 in
set_option maxHeartbeats 4000000 in
theorem sp_X5_namedPiece_6 {l : Launch} {K : EC} {M0 : Mem} {xq : Int} (hI : In Tru M0) (hE : e_all K xq) (en_6_2 : rd M0 6 2 = 2) (en_6_3 : rd M0 6 3 = 27) (en_6_4 : rd M0 6 4 = 35)   : Tr l K 2 mX5_namedPiece 0 [(0, (2, 6))] [] M0 (q_X5_namedPiece_6 M0) := by
  have hS : St Tru ws_X5_namedPiece_6 as_X5_namedPiece_6 M0 M0 := St.rf hI
  refine Tr.aload_n (pc := 0) (i := 0) d_X5_namedPiece_0 rfl rfl ?_
  refine Tr.getf (pc := 1) d_X5_namedPiece_1 f_5_22 (by decide) (by decide) (ty_6 hS.1.1) ?_
  refine Tr.tp 27 ((St.kp hS (by decide) (by decide) (by decide)).trans en_6_3) ?_
  refine Tr.aload_n (pc := 4) (i := 0) d_X5_namedPiece_4 rfl rfl ?_
  refine Tr.getf (pc := 5) d_X5_namedPiece_5 f_5_18 (by decide) (by decide) (ty_6 hS.1.1) ?_
  refine Tr.tp 2 ((St.kp hS (by decide) (by decide) (by decide)).trans en_6_2) ?_
  refine Tr.getf (pc := 8) d_X5_namedPiece_8 f_5_68 (by decide) (by decide) (ty_2 hS.1.1) ?_
  refine Tr.tp 5 (fx_2_2 hS.1.1) ?_
  refine Tr.aload_n (pc := 11) (i := 0) d_X5_namedPiece_11 rfl rfl ?_
  refine Tr.getf (pc := 12) d_X5_namedPiece_12 f_5_36 (by decide) (by decide) (ty_6 hS.1.1) ?_
  refine Tr.gen (P := fun v => 0 ≤ v ∧ v ≤ 900) (ir_6_5 hS.1.2.1) (fun r12 er12 br12 => ?_)
  refine Tr.iald (pc := 15) d_X5_namedPiece_15 (ty_5 hS.1.1) (by omega) (by omega) ?_
  refine Tr.gen (P := fun v => (-2147483648) ≤ v ∧ v ≤ 2147483647) (ar_5 hS.1.2.1 _) (fun r15 er15 br15 => ?_)
  refine Tr.callV (pc := 16) (as := [_]) d_X5_namedPiece_16 s_5_91 ok_X3_find rfl rfl (Nat.le_of_ble_eq_true rfl) (Nat.le_of_ble_eq_true rfl) (by decide) (ty_27 hS.1.1) ?_
  refine Tr.imp (Tr.deep (by decide) (sp_X3_find_27 hS.1 r15 (by omega))) ?_
  rintro M16 _ ⟨h16, r16, rfl, lr16, ur16⟩
  have hS := St.tr hS h16 (by decide) (by decide)
  refine Tr.sc [(0, r16)] rfl ?_
  refine Tr.istore_n (pc := 19) (i := 1) (ls2 := [(1, (0, r16)), (0, (2, 6))]) d_X5_namedPiece_19 rfl (by decide) rfl ?_
  refine Tr.iload_n (pc := 20) (i := 1) d_X5_namedPiece_20 rfl rfl ?_
  have J58 : ∀ (M : Mem), St Tru ws_X5_namedPiece_6 as_X5_namedPiece_6 M0 M → rd M 5 r12 = r15 → rd M 6 5 = r12 → Tr l K 2 mX5_namedPiece 58 [(0, (2, 6))] [] M (q_X5_namedPiece_6 M0) := by
    intro M  hS  k58_5_r1210 k58_6_5
    refine Tr.aload_n (pc := 58) (i := 0) d_X5_namedPiece_58 rfl rfl ?_
    refine Tr.iconst (pc := 59) d_X5_namedPiece_59 (by decide) ?_
    refine Tr.callV (pc := 60) (as := [_]) d_X5_namedPiece_60 s_5_186 ok_X5_takeName rfl rfl (Nat.le_of_ble_eq_true rfl) (Nat.le_of_ble_eq_true rfl) (by decide) (ty_6 hS.1.1) ?_
    refine Tr.imp (Tr.deep (by decide) (sp_X5_takeName_6_v2 hS.1 hE ((St.kp hS (by decide) (by decide) (by decide)).trans en_6_2) ((St.kp hS (by decide) (by decide) (by decide)).trans en_6_3))) ?_
    rintro M60 _ ⟨h60, r60, rfl, lr60, ur60⟩
    have hS := St.tr hS h60 (by decide) (by decide)
    refine Tr.sc [(0, r60)] rfl ?_
    refine Tr.istore_n (pc := 63) (i := 2) (ls2 := [(2, (0, r60)), (0, (2, 6))]) d_X5_namedPiece_63 rfl (by decide) rfl ?_
    refine Tr.aload_n (pc := 64) (i := 0) d_X5_namedPiece_64 rfl rfl ?_
    refine Tr.getf (pc := 65) d_X5_namedPiece_65 f_5_32 (by decide) (by decide) (ty_6 hS.1.1) ?_
    refine Tr.tp 35 ((St.kp hS (by decide) (by decide) (by decide)).trans en_6_4) ?_
    refine Tr.iconst (pc := 68) d_X5_namedPiece_68 (by decide) ?_
    refine Tr.iload_n (pc := 69) (i := 2) d_X5_namedPiece_69 rfl rfl ?_
    refine Tr.iconst (pc := 70) d_X5_namedPiece_70 (by decide) ?_
    refine Tr.mmax (pc := 71) d_X5_namedPiece_71 ml_5_192 mw_mmax (Nat.le_of_ble_eq_true rfl) ?_
    refine Tr.gen (P := fun v => (v = r60 ∧ 0 ≤ r60) ∨ (v = 0 ∧ r60 ≤ 0)) (f_max_p _ _) (fun r71 er71 br71 => ?_)
    refine Tr.callV (pc := 74) (as := [_, _]) d_X5_namedPiece_74 s_5_215 ok_X4_emit rfl rfl (Nat.le_of_ble_eq_true rfl) (Nat.le_of_ble_eq_true rfl) (by decide) (ty_35 hS.1.1) ?_
    refine Tr.imp (Tr.deep (by decide) (sp_X4_emit_35_w2 hS.1.wk 2 (by omega) r71 (by omega) (by omega))) ?_
    rintro M74 _ ⟨h74, rfl⟩
    have hS := St.tr hS h74 (by decide) (by decide)
    refine Tr.sc [] rfl ?_
    refine Tr.iload_n (pc := 77) (i := 2) d_X5_namedPiece_77 rfl rfl ?_
    refine Tr.if_lt (pc := 78) (tgt := 85) d_X5_namedPiece_78 rfl (fun c78 => ?_) (fun c78 => ?_)
    · refine Tr.iconst (pc := 85) d_X5_namedPiece_85 (by decide) ?_
      exact Tr.zret (pc := 86) d_X5_namedPiece_86 rfl (by omega) ⟨hS, _, rfl, by omega, by omega⟩
    · refine Tr.iconst (pc := 81) d_X5_namedPiece_81 (by decide) ?_
      refine Tr.goto (pc := 82) (tgt := 86) d_X5_namedPiece_82 rfl ?_
      exact Tr.zret (pc := 86) d_X5_namedPiece_86 rfl (by omega) ⟨hS, _, rfl, by omega, by omega⟩
  refine Tr.if_lt (pc := 21) (tgt := 58) d_X5_namedPiece_21 rfl (fun c21 => ?_) (fun c21 => ?_)
  · refine Tr.pick [1] (ls2 := [(0, (2, 6))]) rfl ?_
    exact J58 _ hS ((St.ka h16 (by decide) (by decide) (by decide)).trans er15) ((St.kp h16 (by decide) (by decide) (by decide)).trans er12)
  · refine Tr.aload_n (pc := 24) (i := 0) d_X5_namedPiece_24 rfl rfl ?_
    refine Tr.getf (pc := 25) d_X5_namedPiece_25 f_5_22 (by decide) (by decide) (ty_6 hS.1.1) ?_
    refine Tr.tp 27 ((St.kp hS (by decide) (by decide) (by decide)).trans en_6_3) ?_
    refine Tr.iconst (pc := 28) d_X5_namedPiece_28 (by decide) ?_
    refine Tr.iload_n (pc := 29) (i := 1) d_X5_namedPiece_29 rfl rfl ?_
    refine Tr.callV (pc := 30) (as := [_, _]) d_X5_namedPiece_30 s_5_94 ok_X3_which rfl rfl (Nat.le_of_ble_eq_true rfl) (Nat.le_of_ble_eq_true rfl) (by decide) (ty_27 hS.1.1) ?_
    refine Tr.imp (Tr.deep (by decide) (sp_X3_which_27_v1 hS.1 hE r16 (by omega))) ?_
    rintro M30 _ ⟨h30, r30, rfl, lr30, ur30, z30_0⟩
    have hS := St.tr hS h30 (by decide) (by decide)
    obtain ⟨w30_28_1, ew30_28_1⟩ : ∃ v, rd M30 28 1 = v := ⟨_, rfl⟩
    have bw30_28_1 : 0 ≤ w30_28_1 ∧ w30_28_1 ≤ 3 := by rw [← ew30_28_1]; exact ir_28_1 hS.1.2.1
    have ka30_28_1 : rd M30 28 1 = w30_28_1 := ew30_28_1
    refine Tr.sc [(0, r30)] rfl ?_
    refine Tr.if_lt (pc := 33) (tgt := 58) d_X5_namedPiece_33 rfl (fun c33 => ?_) (fun c33 => ?_)
    · refine Tr.pick [1] (ls2 := [(0, (2, 6))]) rfl ?_
      exact J58 _ hS ((St.ka h30 (by decide) (by decide) (by decide)).trans ((St.ka h16 (by decide) (by decide) (by decide)).trans er15)) ((St.kp h30 (by decide) (by decide) (by decide)).trans ((St.kp h16 (by decide) (by decide) (by decide)).trans er12))
    · refine Tr.aload_n (pc := 36) (i := 0) d_X5_namedPiece_36 rfl rfl ?_
      refine Tr.getf (pc := 37) d_X5_namedPiece_37 f_5_32 (by decide) (by decide) (ty_6 hS.1.1) ?_
      refine Tr.tp 35 ((St.kp hS (by decide) (by decide) (by decide)).trans en_6_4) ?_
      refine Tr.iconst (pc := 40) d_X5_namedPiece_40 (by decide) ?_
      refine Tr.aload_n (pc := 41) (i := 0) d_X5_namedPiece_41 rfl rfl ?_
      refine Tr.getf (pc := 42) d_X5_namedPiece_42 f_5_22 (by decide) (by decide) (ty_6 hS.1.1) ?_
      refine Tr.tp 27 ((St.kp hS (by decide) (by decide) (by decide)).trans en_6_3) ?_
      refine Tr.iconst (pc := 45) d_X5_namedPiece_45 (by decide) ?_
      refine Tr.iload_n (pc := 46) (i := 1) d_X5_namedPiece_46 rfl rfl ?_
      refine Tr.callV (pc := 47) (as := [_, _]) d_X5_namedPiece_47 s_5_94 ok_X3_which rfl rfl (Nat.le_of_ble_eq_true rfl) (Nat.le_of_ble_eq_true rfl) (by decide) (ty_27 hS.1.1) ?_
      refine Tr.imp (Tr.deep (by decide) (sp_X3_which_27_v1 hS.1 hE r16 (by omega))) ?_
      rintro M47 _ ⟨h47, r47, rfl, lr47, ur47, z47_0⟩
      have hS := St.tr hS h47 (by decide) (by decide)
      have ka47_28_1 : rd M47 28 1 = w30_28_1 := ((St.kp h47 (by decide) (by decide) (by decide)).trans ew30_28_1)
      refine Tr.sc [(0, r47), (0, 1), (2, 35)] rfl ?_
      refine Tr.callV (pc := 50) (as := [_, _]) d_X5_namedPiece_50 s_5_215 ok_X4_emit rfl rfl (Nat.le_of_ble_eq_true rfl) (Nat.le_of_ble_eq_true rfl) (by decide) (ty_35 hS.1.1) ?_
      refine Tr.imp (Tr.deep (by decide) (sp_X4_emit_35_w1 hS.1.wk 1 (by omega) r47 (by omega) (by omega))) ?_
      rintro M50 _ ⟨h50, rfl⟩
      have hS := St.tr hS h50 (by decide) (by decide)
      refine Tr.sc [] rfl ?_
      refine Tr.aload_n (pc := 53) (i := 0) d_X5_namedPiece_53 rfl rfl ?_
      refine Tr.callV (pc := 54) (as := []) d_X5_namedPiece_54 s_5_74 ok_X5_goOn rfl rfl (Nat.le_of_ble_eq_true rfl) (Nat.le_of_ble_eq_true rfl) (by decide) (ty_6 hS.1.1) ?_
      refine Tr.imp (Tr.deep (by decide) (sp_X5_goOn_6 hS.1 )) ?_
      rintro M54 _ ⟨h54, r54, rfl, lr54, ur54⟩
      have hS := St.tr hS h54 (by decide) (by decide)
      refine Tr.sc [(0, r54)] rfl ?_
      exact Tr.zret (pc := 57) d_X5_namedPiece_57 rfl (by omega) ⟨hS, _, rfl, by omega, by omega⟩

def ws_X5_piece_6_w8 : List (Int × Int) := [(6, 0), (6, 1), (6, 5), (35, 11)]
def as_X5_piece_6_w8 : List Int := [44, 45]
def q_X5_piece_6_w8 (M0 M' : Mem) (r : Option PV) : Prop := St Tru ws_X5_piece_6_w8 as_X5_piece_6_w8 M0 M' ∧ ∃ v : Int, r = some (0, v) ∧ 0 ≤ v ∧ v ≤ 1
set_option maxRecDepth 100000 in
set_option maxHeartbeats 4000000 in
theorem sp_X5_piece_6_w8 {l : Launch} {K : EC} {M0 : Mem} {xq : Int} (hI : In Tru M0) (hE : e_all K xq) (en_6_2 : rd M0 6 2 = 2) (en_6_3 : rd M0 6 3 = 27) (en_6_4 : rd M0 6 4 = 35) (en_6_6 : rd M0 6 6 = 8)   : Tr l K 3 mX5_piece 0 [(0, (2, 6))] [] M0 (q_X5_piece_6_w8 M0) := by
  have hS : St Tru ws_X5_piece_6_w8 as_X5_piece_6_w8 M0 M0 := St.rf hI
  refine Tr.aload_n (pc := 0) (i := 0) d_X5_piece_0 rfl rfl ?_
  refine Tr.getf (pc := 1) d_X5_piece_1 f_5_18 (by decide) (by decide) (ty_6 hS.1.1) ?_
  refine Tr.tp 2 ((St.kp hS (by decide) (by decide) (by decide)).trans en_6_2) ?_
  refine Tr.getf (pc := 4) d_X5_piece_4 f_5_50 (by decide) (by decide) (ty_2 hS.1.1) ?_
  refine Tr.tp 3 (fx_2_0 hS.1.1) ?_
  refine Tr.aload_n (pc := 7) (i := 0) d_X5_piece_7 rfl rfl ?_
  refine Tr.getf (pc := 8) d_X5_piece_8 f_5_36 (by decide) (by decide) (ty_6 hS.1.1) ?_
  refine Tr.gen (P := fun v => 0 ≤ v ∧ v ≤ 900) (ir_6_5 hS.1.2.1) (fun r8 er8 br8 => ?_)
  refine Tr.iald (pc := 11) d_X5_piece_11 (ty_3 hS.1.1) (by omega) (by omega) ?_
  refine Tr.gen (P := fun v => (-2147483648) ≤ v ∧ v ≤ 2147483647) (ar_3 hS.1.2.1 _) (fun r11 er11 br11 => ?_)
  refine Tr.iconst (pc := 12) d_X5_piece_12 (by decide) ?_
  refine Tr.icmp_ne (pc := 13) (tgt := 44) d_X5_piece_13 rfl (fun c13 => ?_) (fun c13 => ?_)
  · refine Tr.aload_n (pc := 44) (i := 0) d_X5_piece_44 rfl rfl ?_
    refine Tr.getf (pc := 45) d_X5_piece_45 f_5_18 (by decide) (by decide) (ty_6 hS.1.1) ?_
    refine Tr.tp 2 ((St.kp hS (by decide) (by decide) (by decide)).trans en_6_2) ?_
    refine Tr.getf (pc := 48) d_X5_piece_48 f_5_50 (by decide) (by decide) (ty_2 hS.1.1) ?_
    refine Tr.tp 3 (fx_2_0 hS.1.1) ?_
    refine Tr.aload_n (pc := 51) (i := 0) d_X5_piece_51 rfl rfl ?_
    refine Tr.getf (pc := 52) d_X5_piece_52 f_5_36 (by decide) (by decide) (ty_6 hS.1.1) ?_
    refine Tr.tp r8 er8 ?_
    refine Tr.iald (pc := 55) d_X5_piece_55 (ty_3 hS.1.1) (by omega) (by omega) ?_
    refine Tr.tp r11 er11 ?_
    refine Tr.iconst (pc := 56) d_X5_piece_56 (by decide) ?_
    refine Tr.icmp_ne (pc := 57) (tgt := 65) d_X5_piece_57 rfl (fun c57 => ?_) (fun c57 => ?_)
    · refine Tr.aload_n (pc := 65) (i := 0) d_X5_piece_65 rfl rfl ?_
      refine Tr.bipush (pc := 66) d_X5_piece_66 rfl (by decide) ?_
      refine Tr.callV (pc := 68) (as := [_]) d_X5_piece_68 s_5_77 ok_X5_isSign rfl rfl (Nat.le_of_ble_eq_true rfl) (Nat.le_of_ble_eq_true rfl) (by decide) (ty_6 hS.1.1) ?_
      refine Tr.imp (Tr.deep (by decide) (sp_X5_isSign_6_w2 hS.1 ((St.kp hS (by decide) (by decide) (by decide)).trans en_6_2) 40 (by omega))) ?_
      rintro M68 _ ⟨h68, r68, rfl, lr68, ur68⟩
      have hS := St.tr hS h68 (by decide) (by decide)
      refine Tr.sc [(0, r68)] rfl ?_
      refine Tr.if_eq (pc := 71) (tgt := 105) d_X5_piece_71 rfl (fun c71 => ?_) (fun c71 => ?_)
      · refine Tr.aload_n (pc := 105) (i := 0) d_X5_piece_105 rfl rfl ?_
        refine Tr.bipush (pc := 106) d_X5_piece_106 rfl (by decide) ?_
        refine Tr.callV (pc := 108) (as := [_]) d_X5_piece_108 s_5_71 ok_X5_isOwn rfl rfl (Nat.le_of_ble_eq_true rfl) (Nat.le_of_ble_eq_true rfl) (by decide) (ty_6 hS.1.1) ?_
        refine Tr.imp (Tr.deep (by decide) (sp_X5_isOwn_6_w4 hS.1 ((St.kp hS (by decide) (by decide) (by decide)).trans en_6_2) 24 (by omega))) ?_
        rintro M108 _ ⟨h108, r108, rfl, lr108, ur108⟩
        have hS := St.tr hS h108 (by decide) (by decide)
        refine Tr.sc [(0, r108)] rfl ?_
        refine Tr.if_eq (pc := 111) (tgt := 128) d_X5_piece_111 rfl (fun c111 => ?_) (fun c111 => ?_)
        · refine Tr.aload_n (pc := 128) (i := 0) d_X5_piece_128 rfl rfl ?_
          refine Tr.bipush (pc := 129) d_X5_piece_129 rfl (by decide) ?_
          refine Tr.callV (pc := 131) (as := [_]) d_X5_piece_131 s_5_71 ok_X5_isOwn rfl rfl (Nat.le_of_ble_eq_true rfl) (Nat.le_of_ble_eq_true rfl) (by decide) (ty_6 hS.1.1) ?_
          refine Tr.imp (Tr.deep (by decide) (sp_X5_isOwn_6_w4 hS.1 ((St.kp hS (by decide) (by decide) (by decide)).trans en_6_2) 25 (by omega))) ?_
          rintro M131 _ ⟨h131, r131, rfl, lr131, ur131⟩
          have hS := St.tr hS h131 (by decide) (by decide)
          refine Tr.sc [(0, r131)] rfl ?_
          have J146 : ∀ (M : Mem), St Tru ws_X5_piece_6_w8 as_X5_piece_6_w8 M0 M → rd M 3 r8 = r11 → rd M 6 5 = r8 → rd M 6 6 = 8 → Tr l K 3 mX5_piece 146 [(0, (2, 6))] [] M (q_X5_piece_6_w8 M0) := by
            intro M  hS  k146_3_r810 k146_6_5 k146_6_6
            refine Tr.aload_n (pc := 146) (i := 0) d_X5_piece_146 rfl rfl ?_
            refine Tr.aload_n (pc := 147) (i := 0) d_X5_piece_147 rfl rfl ?_
            refine Tr.bipush (pc := 148) d_X5_piece_148 rfl (by decide) ?_
            refine Tr.callV (pc := 150) (as := [_]) d_X5_piece_150 s_5_71 ok_X5_isOwn rfl rfl (Nat.le_of_ble_eq_true rfl) (Nat.le_of_ble_eq_true rfl) (by decide) (ty_6 hS.1.1) ?_
            refine Tr.imp (Tr.deep (by decide) (sp_X5_isOwn_6_w4 hS.1 ((St.kp hS (by decide) (by decide) (by decide)).trans en_6_2) 25 (by omega))) ?_
            rintro M150 _ ⟨h150, r150, rfl, lr150, ur150⟩
            have hS := St.tr hS h150 (by decide) (by decide)
            refine Tr.sc [(0, r150), (2, 6)] rfl ?_
            have J163 : ∀ (M : Mem) (q163_1 : Int), St Tru ws_X5_piece_6_w8 as_X5_piece_6_w8 M0 M → (11 ≤ q163_1 ∧ q163_1 ≤ 12) → rd M 3 r8 = r11 → rd M 6 5 = r8 → rd M 6 6 = 8 → Tr l K 3 mX5_piece 163 [] [(0, q163_1), (2, 6)] M (q_X5_piece_6_w8 M0) := by
              intro M q163_1 hS bq163_1 k163_3_r810 k163_6_5 k163_6_6
              refine Tr.callV (pc := 163) (as := [_]) d_X5_piece_163 s_5_233 ok_X5_choice rfl rfl (Nat.le_of_ble_eq_true rfl) (Nat.le_of_ble_eq_true rfl) (by decide) (ty_6 hS.1.1) ?_
              refine Tr.imp (Tr.deep (by decide) (sp_X5_choice_6 hS.1 ((St.kp hS (by decide) (by decide) (by decide)).trans en_6_2) ((St.kp hS (by decide) (by decide) (by decide)).trans en_6_4) k163_6_6 q163_1 (by omega))) ?_
              rintro M163 _ ⟨h163, r163, rfl, lr163, ur163⟩
              have hS := St.tr hS h163 (by decide) (by decide)
              refine Tr.sc [(0, r163)] rfl ?_
              exact Tr.zret (pc := 166) d_X5_piece_166 rfl (by omega) ⟨hS, _, rfl, by omega, by omega⟩
            refine Tr.if_eq (pc := 153) (tgt := 161) d_X5_piece_153 rfl (fun c153 => ?_) (fun c153 => ?_)
            · refine Tr.bipush (pc := 161) d_X5_piece_161 rfl (by decide) ?_
              refine Tr.pick [] (ls2 := []) rfl ?_
              exact J163 _ _ hS (by omega) ((St.ka h150 (by decide) (by decide) (by decide)).trans k146_3_r810) ((St.kp h150 (by decide) (by decide) (by decide)).trans k146_6_5) ((St.kp h150 (by decide) (by decide) (by decide)).trans k146_6_6)
            · refine Tr.bipush (pc := 156) d_X5_piece_156 rfl (by decide) ?_
              refine Tr.goto (pc := 158) (tgt := 163) d_X5_piece_158 rfl ?_
              refine Tr.pick [] (ls2 := []) rfl ?_
              exact J163 _ _ hS (by omega) ((St.ka h150 (by decide) (by decide) (by decide)).trans k146_3_r810) ((St.kp h150 (by decide) (by decide) (by decide)).trans k146_6_5) ((St.kp h150 (by decide) (by decide) (by decide)).trans k146_6_6)
          refine Tr.if_ne (pc := 134) (tgt := 146) d_X5_piece_134 rfl (fun c134 => ?_) (fun c134 => ?_)
          · refine Tr.pick [0] (ls2 := [(0, (2, 6))]) rfl ?_
            exact J146 _ hS ((St.ka h131 (by decide) (by decide) (by decide)).trans ((St.ka h108 (by decide) (by decide) (by decide)).trans ((St.ka h68 (by decide) (by decide) (by decide)).trans er11))) ((St.kp h131 (by decide) (by decide) (by decide)).trans ((St.kp h108 (by decide) (by decide) (by decide)).trans ((St.kp h68 (by decide) (by decide) (by decide)).trans er8))) ((St.kp h131 (by decide) (by decide) (by decide)).trans ((St.kp h108 (by decide) (by decide) (by decide)).trans ((St.kp h68 (by decide) (by decide) (by decide)).trans en_6_6)))
          · refine Tr.aload_n (pc := 137) (i := 0) d_X5_piece_137 rfl rfl ?_
            refine Tr.bipush (pc := 138) d_X5_piece_138 rfl (by decide) ?_
            refine Tr.callV (pc := 140) (as := [_]) d_X5_piece_140 s_5_71 ok_X5_isOwn rfl rfl (Nat.le_of_ble_eq_true rfl) (Nat.le_of_ble_eq_true rfl) (by decide) (ty_6 hS.1.1) ?_
            refine Tr.imp (Tr.deep (by decide) (sp_X5_isOwn_6_w4 hS.1 ((St.kp hS (by decide) (by decide) (by decide)).trans en_6_2) 26 (by omega))) ?_
            rintro M140 _ ⟨h140, r140, rfl, lr140, ur140⟩
            have hS := St.tr hS h140 (by decide) (by decide)
            refine Tr.sc [(0, r140)] rfl ?_
            refine Tr.if_eq (pc := 143) (tgt := 167) d_X5_piece_143 rfl (fun c143 => ?_) (fun c143 => ?_)
            · refine Tr.aload_n (pc := 167) (i := 0) d_X5_piece_167 rfl rfl ?_
              refine Tr.iconst (pc := 168) d_X5_piece_168 (by decide) ?_
              refine Tr.callV (pc := 169) (as := [_]) d_X5_piece_169 s_5_56 ok_X5_refuse rfl rfl (Nat.le_of_ble_eq_true rfl) (Nat.le_of_ble_eq_true rfl) (by decide) (ty_6 hS.1.1) ?_
              refine Tr.imp (Tr.deep (by decide) (sp_X5_refuse_6_w1 hS.1 ((St.kp hS (by decide) (by decide) (by decide)).trans en_6_2) 1 (by omega))) ?_
              rintro M169 _ ⟨h169, r169, rfl, lr169, ur169⟩
              have hS := St.tr hS h169 (by decide) (by decide)
              refine Tr.sc [(0, r169)] rfl ?_
              exact Tr.zret (pc := 172) d_X5_piece_172 rfl (by omega) ⟨hS, _, rfl, by omega, by omega⟩
            · refine Tr.pick [0] (ls2 := [(0, (2, 6))]) rfl ?_
              exact J146 _ hS ((St.ka h140 (by decide) (by decide) (by decide)).trans ((St.ka h131 (by decide) (by decide) (by decide)).trans ((St.ka h108 (by decide) (by decide) (by decide)).trans ((St.ka h68 (by decide) (by decide) (by decide)).trans er11)))) ((St.kp h140 (by decide) (by decide) (by decide)).trans ((St.kp h131 (by decide) (by decide) (by decide)).trans ((St.kp h108 (by decide) (by decide) (by decide)).trans ((St.kp h68 (by decide) (by decide) (by decide)).trans er8)))) ((St.kp h140 (by decide) (by decide) (by decide)).trans ((St.kp h131 (by decide) (by decide) (by decide)).trans ((St.kp h108 (by decide) (by decide) (by decide)).trans ((St.kp h68 (by decide) (by decide) (by decide)).trans en_6_6))))
        · refine Tr.aload_n (pc := 114) (i := 0) d_X5_piece_114 rfl rfl ?_
          refine Tr.getf (pc := 115) d_X5_piece_115 f_5_32 (by decide) (by decide) (ty_6 hS.1.1) ?_
          refine Tr.tp 35 ((St.kp hS (by decide) (by decide) (by decide)).trans en_6_4) ?_
          refine Tr.iconst (pc := 118) d_X5_piece_118 (by decide) ?_
          refine Tr.iconst (pc := 119) d_X5_piece_119 (by decide) ?_
          refine Tr.callV (pc := 120) (as := [_, _]) d_X5_piece_120 s_5_215 ok_X4_emit rfl rfl (Nat.le_of_ble_eq_true rfl) (Nat.le_of_ble_eq_true rfl) (by decide) (ty_35 hS.1.1) ?_
          refine Tr.imp (Tr.deep (by decide) (sp_X4_emit_35 hS.1.wk 3 (by omega) 0 (by omega) (by omega))) ?_
          rintro M120 _ ⟨h120, rfl⟩
          have hS := St.tr hS h120 (by decide) (by decide)
          refine Tr.sc [] rfl ?_
          refine Tr.aload_n (pc := 123) (i := 0) d_X5_piece_123 rfl rfl ?_
          refine Tr.callV (pc := 124) (as := []) d_X5_piece_124 s_5_74 ok_X5_goOn rfl rfl (Nat.le_of_ble_eq_true rfl) (Nat.le_of_ble_eq_true rfl) (by decide) (ty_6 hS.1.1) ?_
          refine Tr.imp (Tr.deep (by decide) (sp_X5_goOn_6 hS.1 )) ?_
          rintro M124 _ ⟨h124, r124, rfl, lr124, ur124⟩
          have hS := St.tr hS h124 (by decide) (by decide)
          refine Tr.sc [(0, r124)] rfl ?_
          exact Tr.zret (pc := 127) d_X5_piece_127 rfl (by omega) ⟨hS, _, rfl, by omega, by omega⟩
      · refine Tr.aload_n (pc := 74) (i := 0) d_X5_piece_74 rfl rfl ?_
        refine Tr.bipush (pc := 75) d_X5_piece_75 rfl (by decide) ?_
        refine Tr.callV (pc := 77) (as := [_]) d_X5_piece_77 s_5_206 ok_X5_takeOpening rfl rfl (Nat.le_of_ble_eq_true rfl) (Nat.le_of_ble_eq_true rfl) (by decide) (ty_6 hS.1.1) ?_
        refine Tr.imp (Tr.deep (by decide) (sp_X5_takeOpening_6_w8 hS.1 ((St.kp hS (by decide) (by decide) (by decide)).trans en_6_2) ((St.kp h68 (by decide) (by decide) (by decide)).trans en_6_6) 40 (by omega))) ?_
        rintro M77 _ ⟨h77, r77, rfl, lr77, ur77⟩
        have hS := St.tr hS h77 (by decide) (by decide)
        refine Tr.sc [(0, r77)] rfl ?_
        refine Tr.if_eq (pc := 80) (tgt := 103) d_X5_piece_80 rfl (fun _ => ?_) (fun hc => absurd (by omega) hc)
        refine Tr.iconst (pc := 103) d_X5_piece_103 (by decide) ?_
        exact Tr.zret (pc := 104) d_X5_piece_104 rfl (by omega) ⟨hS, _, rfl, by omega, by omega⟩
    · refine Tr.aload_n (pc := 60) (i := 0) d_X5_piece_60 rfl rfl ?_
      refine Tr.callV (pc := 61) (as := []) d_X5_piece_61 s_5_230 ok_X5_namedPiece rfl rfl (Nat.le_of_ble_eq_true rfl) (Nat.le_of_ble_eq_true rfl) (by decide) (ty_6 hS.1.1) ?_
      refine Tr.imp (Tr.deep (by decide) (sp_X5_namedPiece_6 hS.1 hE ((St.kp hS (by decide) (by decide) (by decide)).trans en_6_2) ((St.kp hS (by decide) (by decide) (by decide)).trans en_6_3) ((St.kp hS (by decide) (by decide) (by decide)).trans en_6_4))) ?_
      rintro M61 _ ⟨h61, r61, rfl, lr61, ur61⟩
      have hS := St.tr hS h61 (by decide) (by decide)
      refine Tr.sc [(0, r61)] rfl ?_
      exact Tr.zret (pc := 64) d_X5_piece_64 rfl (by omega) ⟨hS, _, rfl, by omega, by omega⟩
  · refine Tr.aload_n (pc := 16) (i := 0) d_X5_piece_16 rfl rfl ?_
    refine Tr.iconst (pc := 17) d_X5_piece_17 (by decide) ?_
    refine Tr.sipush (pc := 18) d_X5_piece_18 rfl (by decide) ?_
    refine Tr.callV (pc := 21) (as := [_, _]) d_X5_piece_21 s_5_87 ok_X5_takeNumber rfl rfl (Nat.le_of_ble_eq_true rfl) (Nat.le_of_ble_eq_true rfl) (by decide) (ty_6 hS.1.1) ?_
    refine Tr.imp (Tr.deep (by decide) (sp_X5_takeNumber_6_w2 hS.1 ((St.kp hS (by decide) (by decide) (by decide)).trans en_6_2) 0 (by omega) 999 (by omega))) ?_
    rintro M21 _ ⟨h21, r21, rfl, lr21, ur21⟩
    have hS := St.tr hS h21 (by decide) (by decide)
    refine Tr.sc [(0, r21)] rfl ?_
    refine Tr.istore_n (pc := 24) (i := 1) (ls2 := [(1, (0, r21)), (0, (2, 6))]) d_X5_piece_24 rfl (by decide) rfl ?_
    refine Tr.aload_n (pc := 25) (i := 0) d_X5_piece_25 rfl rfl ?_
    refine Tr.getf (pc := 26) d_X5_piece_26 f_5_32 (by decide) (by decide) (ty_6 hS.1.1) ?_
    refine Tr.tp 35 ((St.kp hS (by decide) (by decide) (by decide)).trans en_6_4) ?_
    refine Tr.iconst (pc := 29) d_X5_piece_29 (by decide) ?_
    refine Tr.iload_n (pc := 30) (i := 1) d_X5_piece_30 rfl rfl ?_
    refine Tr.callV (pc := 31) (as := [_, _]) d_X5_piece_31 s_5_215 ok_X4_emit rfl rfl (Nat.le_of_ble_eq_true rfl) (Nat.le_of_ble_eq_true rfl) (by decide) (ty_35 hS.1.1) ?_
    refine Tr.imp (Tr.deep (by decide) (sp_X4_emit_35_w3 hS.1.wk 0 (by omega) r21 (by omega) (by omega))) ?_
    rintro M31 _ ⟨h31, rfl⟩
    have hS := St.tr hS h31 (by decide) (by decide)
    refine Tr.sc [] rfl ?_
    refine Tr.iload_n (pc := 34) (i := 1) d_X5_piece_34 rfl rfl ?_
    refine Tr.if_lt (pc := 35) (tgt := 42) d_X5_piece_35 rfl (fun c35 => ?_) (fun c35 => ?_)
    · refine Tr.iconst (pc := 42) d_X5_piece_42 (by decide) ?_
      exact Tr.zret (pc := 43) d_X5_piece_43 rfl (by omega) ⟨hS, _, rfl, by omega, by omega⟩
    · refine Tr.iconst (pc := 38) d_X5_piece_38 (by decide) ?_
      refine Tr.goto (pc := 39) (tgt := 43) d_X5_piece_39 rfl ?_
      exact Tr.zret (pc := 43) d_X5_piece_43 rfl (by omega) ⟨hS, _, rfl, by omega, by omega⟩
