/-! 40.16 -/
section
def ws_X12_costOf_120_w1 : List (Int × Int) := []
def as_X12_costOf_120_w1 : List Int := [177]
def q_X12_costOf_120_w1 (M0 M' : Mem) (r : Option PV) : Prop := St Tru ws_X12_costOf_120_w1 as_X12_costOf_120_w1 M0 M' ∧ ∃ v : Int, r = some (1, v) ∧ (-9223372036854775808) ≤ v ∧ v ≤ 9223372036854775807
theorem kp_X12_costOf_120_w1_120_12 {q : Mem → Prop} {M0 M : Mem} (h : St q ws_X12_costOf_120_w1 as_X12_costOf_120_w1 M0 M) : rd M 120 12 = rd M0 120 12 := St.kp h (by decide) (by decide) (by decide)
theorem ka_X12_costOf_120_w1_131 {q : Mem → Prop} {M0 M : Mem} (h : St q ws_X12_costOf_120_w1 as_X12_costOf_120_w1 M0 M) (j : Int) : rd M 131 j = rd M0 131 j := St.ka h (by decide) (by decide) (by decide)
theorem ka_X12_costOf_120_w1_137 {q : Mem → Prop} {M0 M : Mem} (h : St q ws_X12_costOf_120_w1 as_X12_costOf_120_w1 M0 M) (j : Int) : rd M 137 j = rd M0 137 j := St.ka h (by decide) (by decide) (by decide)
theorem ka_X12_costOf_120_w1_138 {q : Mem → Prop} {M0 M : Mem} (h : St q ws_X12_costOf_120_w1 as_X12_costOf_120_w1 M0 M) (j : Int) : rd M 138 j = rd M0 138 j := St.ka h (by decide) (by decide) (by decide)
theorem ka_X12_costOf_120_w1_139 {q : Mem → Prop} {M0 M : Mem} (h : St q ws_X12_costOf_120_w1 as_X12_costOf_120_w1 M0 M) (j : Int) : rd M 139 j = rd M0 139 j := St.ka h (by decide) (by decide) (by decide)
theorem ka_X12_costOf_120_w1_140 {q : Mem → Prop} {M0 M : Mem} (h : St q ws_X12_costOf_120_w1 as_X12_costOf_120_w1 M0 M) (j : Int) : rd M 140 j = rd M0 140 j := St.ka h (by decide) (by decide) (by decide)
theorem ka_X12_costOf_120_w1_141 {q : Mem → Prop} {M0 M : Mem} (h : St q ws_X12_costOf_120_w1 as_X12_costOf_120_w1 M0 M) (j : Int) : rd M 141 j = rd M0 141 j := St.ka h (by decide) (by decide) (by decide)
theorem ka_X12_costOf_120_w1_142 {q : Mem → Prop} {M0 M : Mem} (h : St q ws_X12_costOf_120_w1 as_X12_costOf_120_w1 M0 M) (j : Int) : rd M 142 j = rd M0 142 j := St.ka h (by decide) (by decide) (by decide)
theorem ka_X12_costOf_120_w1_143 {q : Mem → Prop} {M0 M : Mem} (h : St q ws_X12_costOf_120_w1 as_X12_costOf_120_w1 M0 M) (j : Int) : rd M 143 j = rd M0 143 j := St.ka h (by decide) (by decide) (by decide)
theorem kp_X12_costOf_120_w1_126_1 {q : Mem → Prop} {M0 M : Mem} (h : St q ws_X12_costOf_120_w1 as_X12_costOf_120_w1 M0 M) : rd M 126 1 = rd M0 126 1 := St.kp h (by decide) (by decide) (by decide)
theorem kp_X12_costOf_120_w1_136_1 {q : Mem → Prop} {M0 M : Mem} (h : St q ws_X12_costOf_120_w1 as_X12_costOf_120_w1 M0 M) : rd M 136 1 = rd M0 136 1 := St.kp h (by decide) (by decide) (by decide)
theorem kp_X12_costOf_120_w1_123_1 {q : Mem → Prop} {M0 M : Mem} (h : St q ws_X12_costOf_120_w1 as_X12_costOf_120_w1 M0 M) : rd M 123 1 = rd M0 123 1 := St.kp h (by decide) (by decide) (by decide)
theorem kp_X12_costOf_120_w1_124_1 {q : Mem → Prop} {M0 M : Mem} (h : St q ws_X12_costOf_120_w1 as_X12_costOf_120_w1 M0 M) : rd M 124 1 = rd M0 124 1 := St.kp h (by decide) (by decide) (by decide)
theorem kp_X12_tails_120_w1_120_96 {q : Mem → Prop} {M0 M : Mem} (h : St q ws_X12_tails_120_w1 as_X12_tails_120_w1 M0 M) : rd M 120 96 = rd M0 120 96 := St.kp h (by decide) (by decide) (by decide)
theorem kp_X12_tails_120_w1_120_97 {q : Mem → Prop} {M0 M : Mem} (h : St q ws_X12_tails_120_w1 as_X12_tails_120_w1 M0 M) : rd M 120 97 = rd M0 120 97 := St.kp h (by decide) (by decide) (by decide)
theorem kp_X12_tails_120_w1_120_98 {q : Mem → Prop} {M0 M : Mem} (h : St q ws_X12_tails_120_w1 as_X12_tails_120_w1 M0 M) : rd M 120 98 = rd M0 120 98 := St.kp h (by decide) (by decide) (by decide)
theorem ka_X12_tails_120_w1_169 {q : Mem → Prop} {M0 M : Mem} (h : St q ws_X12_tails_120_w1 as_X12_tails_120_w1 M0 M) (j : Int) : rd M 169 j = rd M0 169 j := St.ka h (by decide) (by decide) (by decide)
theorem ka_X12_tails_120_w1_170 {q : Mem → Prop} {M0 M : Mem} (h : St q ws_X12_tails_120_w1 as_X12_tails_120_w1 M0 M) (j : Int) : rd M 170 j = rd M0 170 j := St.ka h (by decide) (by decide) (by decide)
theorem ka_X12_tails_120_w1_171 {q : Mem → Prop} {M0 M : Mem} (h : St q ws_X12_tails_120_w1 as_X12_tails_120_w1 M0 M) (j : Int) : rd M 171 j = rd M0 171 j := St.ka h (by decide) (by decide) (by decide)
theorem ka_X12_tails_120_w1_163 {q : Mem → Prop} {M0 M : Mem} (h : St q ws_X12_tails_120_w1 as_X12_tails_120_w1 M0 M) (j : Int) : rd M 163 j = rd M0 163 j := St.ka h (by decide) (by decide) (by decide)
set_option maxRecDepth 100000 in
set_option maxHeartbeats 4000000 in
theorem sp_X12_costOf_120_w1 {l : Launch} {K : EC} {M0 : Mem} (hI : In Tru M0) (en_120_12 : rd M0 120 12 = 1) (a1 : Int) (ha1 : 0 ≤ a1 ∧ a1 ≤ 5) (a2 : Int) (ha2 : (-2147483648) ≤ a2 ∧ a2 ≤ 2147483647)  (hF_Bk1 : Bk1 M0) : Tr l K 3 mX12_costOf 0 [(0, (2, 120)), (1, (0, a1)), (2, (0, a2))] [] M0 (q_X12_costOf_120_w1 M0) := by
  have hS : St Tru ws_X12_costOf_120_w1 as_X12_costOf_120_w1 M0 M0 := St.rf hI
  refine Tr.iconst (pc := 0) d_X12_costOf_0 (by decide) ?_
  refine Tr.istore_n (pc := 1) (i := 3) (ls2 := [(3, (0, 0)), (0, (2, 120)), (1, (0, a1)), (2, (0, a2))]) d_X12_costOf_1 rfl (by decide) rfl ?_
  refine Tr.aload_n (pc := 2) (i := 0) d_X12_costOf_2 rfl rfl ?_
  refine Tr.getf (pc := 3) d_X12_costOf_3 f_12_306 (by decide) (by decide) (ty_120 hS.1.1) ?_
  refine Tr.gen (P := fun v => 0 ≤ v ∧ v ≤ 2100) (ir_120_97 hS.1.2.1) (fun r3 er3 br3 => ?_)
  refine Tr.istore (pc := 6) (i := 4) (ls2 := [(4, (0, r3)), (3, (0, 0)), (0, (2, 120)), (1, (0, a1)), (2, (0, a2))]) d_X12_costOf_6 (by decide) rfl ?_
  have J8 : ∀ (n8 : Nat) (M : Mem) (p8_3 p8_4 : Int), St Tru ws_X12_costOf_120_w1 as_X12_costOf_120_w1 M0 M → ((-2147483648) ≤ p8_3 ∧ p8_3 ≤ 2147483647) → (0 ≤ p8_4 ∧ p8_4 ≤ 2100) → rd M 120 97 = r3 → (2100 - p8_4).toNat < n8 → Tr l K 3 mX12_costOf 8 [(0, (2, 120)), (1, (0, a1)), (2, (0, a2)), (3, (0, p8_3)), (4, (0, p8_4))] [] M (q_X12_costOf_120_w1 M0) := by
    intro n8
    induction n8 with
    | zero => intro M p8_3 p8_4 hS bp8_3 bp8_4 k8_120_97 hm8; exact absurd hm8 (Nat.not_lt_zero _)
    | succ n8 J8 =>
      intro M p8_3 p8_4 hS bp8_3 bp8_4 k8_120_97 hm8
      clear er3
      refine Tr.iload (pc := 8) (i := 4) d_X12_costOf_8 rfl ?_
      refine Tr.aload_n (pc := 10) (i := 0) d_X12_costOf_10 rfl rfl ?_
      refine Tr.getf (pc := 11) d_X12_costOf_11 f_12_309 (by decide) (by decide) (ty_120 hS.1.1) ?_
      refine Tr.gen (P := fun v => 0 ≤ v ∧ v ≤ 2100) (ir_120_98 hS.1.2.1) (fun r11 er11 br11 => ?_)
      refine Tr.icmp_ge (pc := 14) (tgt := 158) d_X12_costOf_14 rfl (fun c14 => ?_) (fun c14 => ?_)
      · refine Tr.iconst (pc := 158) d_X12_costOf_158 (by decide) ?_
        refine Tr.istore (pc := 159) (i := 4) (ls2 := [(4, (0, 0)), (0, (2, 120)), (1, (0, a1)), (2, (0, a2)), (3, (0, p8_3))]) d_X12_costOf_159 (by decide) rfl ?_
        have J161 : ∀ (n161 : Nat) (M : Mem) (p161_4 : Int), St Tru ws_X12_costOf_120_w1 as_X12_costOf_120_w1 M0 M → (0 ≤ p161_4 ∧ p161_4 ≤ 2100) → rd M 120 97 = r3 → rd M 120 98 = r11 → (2100 - p161_4).toNat < n161 → Tr l K 3 mX12_costOf 161 [(0, (2, 120)), (1, (0, a1)), (2, (0, a2)), (4, (0, p161_4))] [] M (q_X12_costOf_120_w1 M0) := by
          intro n161
          induction n161 with
          | zero => intro M p161_4 hS bp161_4 k161_120_97 k161_120_98 hm161; exact absurd hm161 (Nat.not_lt_zero _)
          | succ n161 J161 =>
            intro M p161_4 hS bp161_4 k161_120_97 k161_120_98 hm161
            clear k8_120_97 er11
            refine Tr.iload (pc := 161) (i := 4) d_X12_costOf_161 rfl ?_
            refine Tr.aload_n (pc := 163) (i := 0) d_X12_costOf_163 rfl rfl ?_
            refine Tr.getf (pc := 164) d_X12_costOf_164 f_12_303 (by decide) (by decide) (ty_120 hS.1.1) ?_
            refine Tr.gen (P := fun v => 0 ≤ v ∧ v ≤ 2100) (ir_120_96 hS.1.2.1) (fun r164 er164 br164 => ?_)
            refine Tr.icmp_ge (pc := 167) (tgt := 283) d_X12_costOf_167 rfl (fun c167 => ?_) (fun c167 => ?_)
            · refine Tr.aload_n (pc := 283) (i := 0) d_X12_costOf_283 rfl rfl ?_
              refine Tr.iload_n (pc := 284) (i := 1) d_X12_costOf_284 rfl rfl ?_
              refine Tr.aload_n (pc := 285) (i := 0) d_X12_costOf_285 rfl rfl ?_
              refine Tr.getf (pc := 286) d_X12_costOf_286 f_12_306 (by decide) (by decide) (ty_120 hS.1.1) ?_
              refine Tr.tp r3 k161_120_97 ?_
              refine Tr.aload_n (pc := 289) (i := 0) d_X12_costOf_289 rfl rfl ?_
              refine Tr.getf (pc := 290) d_X12_costOf_290 f_12_309 (by decide) (by decide) (ty_120 hS.1.1) ?_
              refine Tr.tp r11 k161_120_98 ?_
              refine Tr.callV (pc := 293) (as := [_, _, _]) d_X12_costOf_293 s_12_665 ok_X12_rows rfl rfl (Nat.le_of_ble_eq_true rfl) (Nat.le_of_ble_eq_true rfl) (by decide) (ty_120 hS.1.1) ?_
              refine Tr.imp (Tr.deep (by decide) (sp_X12_rows_120_w1 hS.1 ((kp_X12_costOf_120_w1_120_12 hS).trans en_120_12) a1 (by and_intros <;> omega) r3 (by and_intros <;> omega) r11 (by and_intros <;> omega) (Bk1.of hF_Bk1 (fun j => (ka_X12_costOf_120_w1_131 hS _)) (fun j => (ka_X12_costOf_120_w1_137 hS _)) (fun j => (ka_X12_costOf_120_w1_138 hS _)) (fun j => (ka_X12_costOf_120_w1_139 hS _)) (fun j => (ka_X12_costOf_120_w1_140 hS _)) (fun j => (ka_X12_costOf_120_w1_141 hS _)) (fun j => (ka_X12_costOf_120_w1_142 hS _)) (fun j => (ka_X12_costOf_120_w1_143 hS _)) (kp_X12_costOf_120_w1_126_1 hS) (kp_X12_costOf_120_w1_136_1 hS) (kp_X12_costOf_120_w1_123_1 hS) (kp_X12_costOf_120_w1_124_1 hS)))) ?_
              rintro M293 _ ⟨h293, r293, rfl, lr293, ur293⟩
              have hS := St.tr hS h293 (by decide) (by decide)
              refine Tr.sc [(1, r293)] rfl ?_
              exact Tr.lret (pc := 296) d_X12_costOf_296 rfl ⟨hS, _, rfl, (by omega), (by omega)⟩
            · refine Tr.aload_n (pc := 170) (i := 0) d_X12_costOf_170 rfl rfl ?_
              refine Tr.getf (pc := 171) d_X12_costOf_171 f_12_255 (by decide) (by decide) (ty_120 hS.1.1) ?_
              refine Tr.tp 169 (fx_120_80 hS.1.1) ?_
              refine Tr.iload (pc := 174) (i := 4) d_X12_costOf_174 rfl ?_
              refine Tr.iald (pc := 176) d_X12_costOf_176 (ty_169 hS.1.1) (by omega) (by omega) ?_
              refine Tr.gen (P := fun v => 0 ≤ v ∧ v ≤ 5) (ar_169 hS.1.2.1 _) (fun r176 er176 br176 => ?_)
              refine Tr.iload_n (pc := 177) (i := 1) d_X12_costOf_177 rfl rfl ?_
              have J277 : ∀ (M : Mem), St Tru ws_X12_costOf_120_w1 as_X12_costOf_120_w1 M0 M → rd M 120 96 = r164 → rd M 120 97 = r3 → rd M 120 98 = r11 → rd M 169 p161_4 = r176 → Tr l K 3 mX12_costOf 277 [(0, (2, 120)), (1, (0, a1)), (2, (0, a2)), (4, (0, p161_4))] [] M (q_X12_costOf_120_w1 M0) := by
                intro M  hS  k277_120_96 k277_120_97 k277_120_98 k277_169_p161_410
                clear k161_120_97 k161_120_98 er164 er176
                refine Tr.iincV (pc := 277) (n2 := (p161_4 + 1)) (ls2 := [(4, (0, (p161_4 + 1))), (0, (2, 120)), (1, (0, a1)), (2, (0, a2))]) d_X12_costOf_277 rfl (by decide) ((w32_id (by and_intros <;> omega)).trans (by omega)) rfl ?_
                refine Tr.goto (pc := 280) (tgt := 161) d_X12_costOf_280 rfl ?_
                refine Tr.pick [1, 2, 3, 0] (ls2 := [(0, (2, 120)), (1, (0, a1)), (2, (0, a2)), (4, (0, (p161_4 + 1)))]) rfl ?_
                exact J161 _ _ hS (by and_intros <;> omega) k277_120_97 k277_120_98 (me_lt hm161 (by omega) (by omega))
              refine Tr.icmp_ne (pc := 178) (tgt := 277) d_X12_costOf_178 rfl (fun c178 => ?_) (fun c178 => ?_)
              · replace c178 := hd_i c178
                refine Tr.pick [0, 1, 2, 3] (ls2 := [(0, (2, 120)), (1, (0, a1)), (2, (0, a2)), (4, (0, p161_4))]) rfl ?_
                exact J277 _ hS er164 k161_120_97 k161_120_98 er176
              · refine Tr.aload_n (pc := 181) (i := 0) d_X12_costOf_181 rfl rfl ?_
                refine Tr.getf (pc := 182) d_X12_costOf_182 f_12_261 (by decide) (by decide) (ty_120 hS.1.1) ?_
                refine Tr.tp 171 (fx_120_82 hS.1.1) ?_
                refine Tr.iload (pc := 185) (i := 4) d_X12_costOf_185 rfl ?_
                refine Tr.iald (pc := 187) d_X12_costOf_187 (ty_171 hS.1.1) (by omega) (by omega) ?_
                refine Tr.gen (P := fun v => 0 ≤ v ∧ v ≤ 2060) (ar_171 hS.1.2.1 _) (fun r187 er187 br187 => ?_)
                refine Tr.aload_n (pc := 188) (i := 0) d_X12_costOf_188 rfl rfl ?_
                refine Tr.getf (pc := 189) d_X12_costOf_189 f_12_306 (by decide) (by decide) (ty_120 hS.1.1) ?_
                refine Tr.tp r3 k161_120_97 ?_
                refine Tr.icmp_lt (pc := 192) (tgt := 277) d_X12_costOf_192 rfl (fun c192 => ?_) (fun c192 => ?_)
                · refine Tr.pick [0, 1, 2, 3] (ls2 := [(0, (2, 120)), (1, (0, a1)), (2, (0, a2)), (4, (0, p161_4))]) rfl ?_
                  exact J277 _ hS er164 k161_120_97 k161_120_98 er176
                · refine Tr.aload_n (pc := 195) (i := 0) d_X12_costOf_195 rfl rfl ?_
                  refine Tr.getf (pc := 196) d_X12_costOf_196 f_12_261 (by decide) (by decide) (ty_120 hS.1.1) ?_
                  refine Tr.tp 171 (fx_120_82 hS.1.1) ?_
                  refine Tr.iload (pc := 199) (i := 4) d_X12_costOf_199 rfl ?_
                  refine Tr.iald (pc := 201) d_X12_costOf_201 (ty_171 hS.1.1) (by omega) (by omega) ?_
                  refine Tr.tp r187 er187 ?_
                  refine Tr.aload_n (pc := 202) (i := 0) d_X12_costOf_202 rfl rfl ?_
                  refine Tr.getf (pc := 203) d_X12_costOf_203 f_12_309 (by decide) (by decide) (ty_120 hS.1.1) ?_
                  refine Tr.tp r11 k161_120_98 ?_
                  refine Tr.icmp_ge (pc := 206) (tgt := 277) d_X12_costOf_206 rfl (fun c206 => ?_) (fun c206 => ?_)
                  · refine Tr.pick [0, 1, 2, 3] (ls2 := [(0, (2, 120)), (1, (0, a1)), (2, (0, a2)), (4, (0, p161_4))]) rfl ?_
                    exact J277 _ hS er164 k161_120_97 k161_120_98 er176
                  · refine Tr.aload_n (pc := 209) (i := 0) d_X12_costOf_209 rfl rfl ?_
                    refine Tr.aload_n (pc := 210) (i := 0) d_X12_costOf_210 rfl rfl ?_
                    refine Tr.getf (pc := 211) d_X12_costOf_211 f_12_258 (by decide) (by decide) (ty_120 hS.1.1) ?_
                    refine Tr.tp 170 (fx_120_81 hS.1.1) ?_
                    refine Tr.iload (pc := 214) (i := 4) d_X12_costOf_214 rfl ?_
                    refine Tr.iald (pc := 216) d_X12_costOf_216 (ty_170 hS.1.1) (by omega) (by omega) ?_
                    refine Tr.gen (P := fun v => (-1) ≤ v ∧ v ≤ 59) (ar_170 hS.1.2.1 _) (fun r216 er216 br216 => ?_)
                    refine Tr.iload_n (pc := 217) (i := 2) d_X12_costOf_217 rfl rfl ?_
                    refine Tr.callV (pc := 218) (as := [_, _]) d_X12_costOf_218 s_12_662 ok_X12_isAmong rfl rfl (Nat.le_of_ble_eq_true rfl) (Nat.le_of_ble_eq_true rfl) (by decide) (ty_120 hS.1.1) ?_
                    refine Tr.imp (Tr.deep (by decide) (sp_X12_isAmong_120 hS.1 r216 (by and_intros <;> omega) a2 (by and_intros <;> omega))) ?_
                    rintro M218 _ ⟨h218, r218, rfl, lr218, ur218⟩
                    have hS := St.tr hS h218 (by decide) (by decide)
                    refine Tr.sc [(0, r218)] rfl ?_
                    refine Tr.if_ne (pc := 221) (tgt := 227) d_X12_costOf_221 rfl (fun c221 => ?_) (fun c221 => ?_)
                    · have c221b : 1 ≤ r218 ∧ r218 ≤ 1 := by omega
                      replace c221 := hd_i c221
                      refine Tr.aload_n (pc := 227) (i := 0) d_X12_costOf_227 rfl rfl ?_
                      refine Tr.getf (pc := 228) d_X12_costOf_228 f_12_261 (by decide) (by decide) (ty_120 hS.1.1) ?_
                      refine Tr.tp 171 (fx_120_82 hS.1.1) ?_
                      refine Tr.iload (pc := 231) (i := 4) d_X12_costOf_231 rfl ?_
                      refine Tr.iald (pc := 233) d_X12_costOf_233 (ty_171 hS.1.1) (by omega) (by omega) ?_
                      refine Tr.tp r187 ((ka_X12_isAmong_120_171 h218 _).trans er187) ?_
                      refine Tr.istore (pc := 234) (i := 5) (ls2 := [(5, (0, r187)), (0, (2, 120)), (1, (0, a1)), (2, (0, a2)), (4, (0, p161_4))]) d_X12_costOf_234 (by decide) rfl ?_
                      have J236 : ∀ (n236 : Nat) (M : Mem) (p236_5 : Int), St Tru ws_X12_costOf_120_w1 as_X12_costOf_120_w1 M0 M → (0 ≤ p236_5 ∧ p236_5 ≤ 2100) → rd M 120 96 = r164 → rd M 120 97 = r3 → rd M 120 98 = r11 → rd M 169 p161_4 = r176 → rd M 170 p161_4 = r216 → rd M 171 p161_4 = r187 → (2100 - p236_5).toNat < n236 → Tr l K 3 mX12_costOf 236 [(0, (2, 120)), (1, (0, a1)), (2, (0, a2)), (4, (0, p161_4)), (5, (0, p236_5))] [] M (q_X12_costOf_120_w1 M0) := by
                        intro n236
                        induction n236 with
                        | zero => intro M p236_5 hS bp236_5 k236_120_96 k236_120_97 k236_120_98 k236_169_p161_410 k236_170_p161_410 k236_171_p161_410 hm236; exact absurd hm236 (Nat.not_lt_zero _)
                        | succ n236 J236 =>
                          intro M p236_5 hS bp236_5 k236_120_96 k236_120_97 k236_120_98 k236_169_p161_410 k236_170_p161_410 k236_171_p161_410 hm236
                          clear k161_120_97 k161_120_98 er164 er176 er187 er216
                          refine Tr.iload (pc := 236) (i := 5) d_X12_costOf_236 rfl ?_
                          refine Tr.aload_n (pc := 238) (i := 0) d_X12_costOf_238 rfl rfl ?_
                          refine Tr.getf (pc := 239) d_X12_costOf_239 f_12_261 (by decide) (by decide) (ty_120 hS.1.1) ?_
                          refine Tr.tp 171 (fx_120_82 hS.1.1) ?_
                          refine Tr.iload (pc := 242) (i := 4) d_X12_costOf_242 rfl ?_
                          refine Tr.iald (pc := 244) d_X12_costOf_244 (ty_171 hS.1.1) (by omega) (by omega) ?_
                          refine Tr.tp r187 k236_171_p161_410 ?_
                          refine Tr.aload_n (pc := 245) (i := 0) d_X12_costOf_245 rfl rfl ?_
                          refine Tr.iload_n (pc := 246) (i := 1) d_X12_costOf_246 rfl rfl ?_
                          refine Tr.callV (pc := 247) (as := [_]) d_X12_costOf_247 s_12_591 ok_X12_tails rfl rfl (Nat.le_of_ble_eq_true rfl) (Nat.le_of_ble_eq_true rfl) (by decide) (ty_120 hS.1.1) ?_
                          obtain ⟨w247_126_1, ew247_126_1⟩ : ∃ v, rd M 126 1 = v := ⟨_, rfl⟩
                          have bw247_126_1 : 0 ≤ w247_126_1 ∧ w247_126_1 ≤ 6 := by rw [← ew247_126_1]; exact ir_126_1 hS.1.2.1
                          refine Tr.imp (Tr.deep (by decide) (ns_X12_tails_120_w1 (G126_1 := w247_126_1) hS.1 (ew247_126_1) ((kp_X12_costOf_120_w1_120_12 hS).trans en_120_12) a1 (by and_intros <;> omega) (Bk1.of hF_Bk1 (fun j => (ka_X12_costOf_120_w1_131 hS _)) (fun j => (ka_X12_costOf_120_w1_137 hS _)) (fun j => (ka_X12_costOf_120_w1_138 hS _)) (fun j => (ka_X12_costOf_120_w1_139 hS _)) (fun j => (ka_X12_costOf_120_w1_140 hS _)) (fun j => (ka_X12_costOf_120_w1_141 hS _)) (fun j => (ka_X12_costOf_120_w1_142 hS _)) (fun j => (ka_X12_costOf_120_w1_143 hS _)) (kp_X12_costOf_120_w1_126_1 hS) (kp_X12_costOf_120_w1_136_1 hS) (kp_X12_costOf_120_w1_123_1 hS) (kp_X12_costOf_120_w1_124_1 hS)))) ?_
                          rintro M247 _ ⟨h247, r247, rfl, lr247, ur247, z247_0⟩
                          have hS := St.tr hS h247 (by decide) (by decide)
                          refine Tr.sc [(0, r247), (0, r187), (0, p236_5)] rfl ?_
                          refine Tr.iadd (pc := 250) d_X12_costOf_250 ?_
                          refine Tr.gen (P := fun v => (-2147483648) ≤ v ∧ v ≤ 2147483647) (w32_b _) (fun r250 er250 br250 => ?_)
                          refine Tr.icmp_ge (pc := 251) (tgt := 277) d_X12_costOf_251 rfl (fun c251 => ?_) (fun c251 => ?_)
                          · refine Tr.pick [0, 1, 2, 3] (ls2 := [(0, (2, 120)), (1, (0, a1)), (2, (0, a2)), (4, (0, p161_4))]) rfl ?_
                            exact J277 _ hS ((kp_X12_tails_120_w1_120_96 h247).trans k236_120_96) ((kp_X12_tails_120_w1_120_97 h247).trans k236_120_97) ((kp_X12_tails_120_w1_120_98 h247).trans k236_120_98) ((ka_X12_tails_120_w1_169 h247 _).trans k236_169_p161_410)
                          · refine Tr.iload (pc := 254) (i := 5) d_X12_costOf_254 rfl ?_
                            refine Tr.aload_n (pc := 256) (i := 0) d_X12_costOf_256 rfl rfl ?_
                            refine Tr.getf (pc := 257) d_X12_costOf_257 f_12_309 (by decide) (by decide) (ty_120 hS.1.1) ?_
                            refine Tr.tp r11 ((kp_X12_tails_120_w1_120_98 h247).trans k236_120_98) ?_
                            refine Tr.icmp_ge (pc := 260) (tgt := 277) d_X12_costOf_260 rfl (fun c260 => ?_) (fun c260 => ?_)
                            · refine Tr.pick [0, 1, 2, 3] (ls2 := [(0, (2, 120)), (1, (0, a1)), (2, (0, a2)), (4, (0, p161_4))]) rfl ?_
                              exact J277 _ hS ((kp_X12_tails_120_w1_120_96 h247).trans k236_120_96) ((kp_X12_tails_120_w1_120_97 h247).trans k236_120_97) ((kp_X12_tails_120_w1_120_98 h247).trans k236_120_98) ((ka_X12_tails_120_w1_169 h247 _).trans k236_169_p161_410)
                            · refine Tr.aload_n (pc := 263) (i := 0) d_X12_costOf_263 rfl rfl ?_
                              refine Tr.getf (pc := 264) d_X12_costOf_264 f_12_321 (by decide) (by decide) (ty_120 hS.1.1) ?_
                              refine Tr.tp 177 (fx_120_102 hS.1.1) ?_
                              refine Tr.iload (pc := 267) (i := 5) d_X12_costOf_267 rfl ?_
                              refine Tr.iconst (pc := 269) d_X12_costOf_269 (by decide) ?_
                              refine Tr.zastS (pc := 270) (P := St Tru ws_X12_costOf_120_w1 as_X12_costOf_120_w1 M0) d_X12_costOf_270 (ty_177 hS.1.1) (by omega) (by omega) (by omega) (sa_177 hS (by decide) (by omega) trivial) (fun M270 hS w270 => ?_)
                              refine Tr.iincV (pc := 271) (n2 := (p236_5 + 1)) (ls2 := [(5, (0, (p236_5 + 1))), (0, (2, 120)), (1, (0, a1)), (2, (0, a2)), (4, (0, p161_4))]) d_X12_costOf_271 rfl (by decide) ((w32_id (by and_intros <;> omega)).trans (by omega)) rfl ?_
                              refine Tr.goto (pc := 274) (tgt := 236) d_X12_costOf_274 rfl ?_
                              refine Tr.pick [1, 2, 3, 4, 0] (ls2 := [(0, (2, 120)), (1, (0, a1)), (2, (0, a2)), (4, (0, p161_4)), (5, (0, (p236_5 + 1)))]) rfl ?_
                              exact J236 _ _ hS (by and_intros <;> omega) ((Wr.b w270 rfl).trans ((kp_X12_tails_120_w1_120_96 h247).trans k236_120_96)) ((Wr.b w270 rfl).trans ((kp_X12_tails_120_w1_120_97 h247).trans k236_120_97)) ((Wr.b w270 rfl).trans ((kp_X12_tails_120_w1_120_98 h247).trans k236_120_98)) ((Wr.b w270 rfl).trans ((ka_X12_tails_120_w1_169 h247 _).trans k236_169_p161_410)) ((Wr.b w270 rfl).trans ((ka_X12_tails_120_w1_170 h247 _).trans k236_170_p161_410)) ((Wr.b w270 rfl).trans ((ka_X12_tails_120_w1_171 h247 _).trans k236_171_p161_410)) (me_lt hm236 (by omega) (by omega))
                      refine Tr.pick [1, 2, 3, 4, 0] (ls2 := [(0, (2, 120)), (1, (0, a1)), (2, (0, a2)), (4, (0, p161_4)), (5, (0, r187))]) rfl ?_
                      exact J236 _ _ _ hS (by and_intros <;> omega) ((kp_X12_isAmong_120_120_96 h218).trans er164) ((kp_X12_isAmong_120_120_97 h218).trans k161_120_97) ((kp_X12_isAmong_120_120_98 h218).trans k161_120_98) ((ka_X12_isAmong_120_169 h218 _).trans er176) ((ka_X12_isAmong_120_170 h218 _).trans er216) ((ka_X12_isAmong_120_171 h218 _).trans er187) (Nat.lt_succ_self _)
                    · refine Tr.goto (pc := 224) (tgt := 277) d_X12_costOf_224 rfl ?_
                      refine Tr.pick [0, 1, 2, 3] (ls2 := [(0, (2, 120)), (1, (0, a1)), (2, (0, a2)), (4, (0, p161_4))]) rfl ?_
                      exact J277 _ hS ((kp_X12_isAmong_120_120_96 h218).trans er164) ((kp_X12_isAmong_120_120_97 h218).trans k161_120_97) ((kp_X12_isAmong_120_120_98 h218).trans k161_120_98) ((ka_X12_isAmong_120_169 h218 _).trans er176)
        refine Tr.pick [1, 2, 3, 0] (ls2 := [(0, (2, 120)), (1, (0, a1)), (2, (0, a2)), (4, (0, 0))]) rfl ?_
        exact J161 _ _ _ hS (by omega) k8_120_97 er11 (Nat.lt_succ_self _)
      · refine Tr.aload_n (pc := 17) (i := 0) d_X12_costOf_17 rfl rfl ?_
        refine Tr.iload_n (pc := 18) (i := 1) d_X12_costOf_18 rfl rfl ?_
        refine Tr.iload (pc := 19) (i := 4) d_X12_costOf_19 rfl ?_
        refine Tr.callV (pc := 21) (as := [_, _]) d_X12_costOf_21 s_12_641 ok_X12_stateAt rfl rfl (Nat.le_of_ble_eq_true rfl) (Nat.le_of_ble_eq_true rfl) (by decide) (ty_120 hS.1.1) ?_
        refine Tr.imp (Tr.deep (by decide) (ns_X12_stateAt_120 hS.1 a1 (by and_intros <;> omega) p8_4 (by and_intros <;> omega))) ?_
        rintro M21 _ ⟨h21, r21, rfl, lr21, ur21, z21_0⟩
        have hS := St.tr hS h21 (by decide) (by decide)
        refine Tr.sc [(0, r21)] rfl ?_
        have qs21 : rd M 163 (2100 * a1 + p8_4) = r21 := (congrArg (rd M 163) (by omega)).trans z21_0.symm
        refine Tr.iconst (pc := 24) d_X12_costOf_24 (by decide) ?_
        have J92 : ∀ (M : Mem) (q92_0 : Int), St Tru ws_X12_costOf_120_w1 as_X12_costOf_120_w1 M0 M → (0 ≤ q92_0 ∧ q92_0 ≤ 1) → rd M 120 97 = r3 → rd M 120 98 = r11 → rd M 163 (2100 * a1 + p8_4) = r21 → Tr l K 3 mX12_costOf 92 [(0, (2, 120)), (1, (0, a1)), (2, (0, a2)), (3, (0, p8_3)), (4, (0, p8_4))] [(0, q92_0)] M (q_X12_costOf_120_w1 M0) := by
          intro M q92_0 hS bq92_0 k92_120_97 k92_120_98 k92_163_a12100p8_410
          clear k8_120_97 er11
          refine Tr.istore (pc := 92) (i := 5) (ls2 := [(5, (0, q92_0)), (0, (2, 120)), (1, (0, a1)), (2, (0, a2)), (3, (0, p8_3)), (4, (0, p8_4))]) d_X12_costOf_92 (by decide) rfl ?_
          refine Tr.iload_n (pc := 94) (i := 3) d_X12_costOf_94 rfl rfl ?_
          have J103 : ∀ (M : Mem) (q103_0 : Int), St Tru ws_X12_costOf_120_w1 as_X12_costOf_120_w1 M0 M → (0 ≤ q103_0 ∧ q103_0 ≤ 1) → rd M 120 97 = r3 → rd M 120 98 = r11 → rd M 163 (2100 * a1 + p8_4) = r21 → Tr l K 3 mX12_costOf 103 [(0, (2, 120)), (1, (0, a1)), (2, (0, a2)), (3, (0, p8_3)), (4, (0, p8_4)), (5, (0, q92_0))] [(0, q103_0)] M (q_X12_costOf_120_w1 M0) := by
            intro M q103_0 hS bq103_0 k103_120_97 k103_120_98 k103_163_a12100p8_410
            clear k92_120_97 k92_120_98 k92_163_a12100p8_410
            refine Tr.istore (pc := 103) (i := 6) (ls2 := [(6, (0, q103_0)), (0, (2, 120)), (1, (0, a1)), (2, (0, a2)), (3, (0, p8_3)), (4, (0, p8_4)), (5, (0, q92_0))]) d_X12_costOf_103 (by decide) rfl ?_
            refine Tr.iload (pc := 105) (i := 5) d_X12_costOf_105 rfl ?_
            have J129 : ∀ (M : Mem) (q129_0 : Int), St Tru ws_X12_costOf_120_w1 as_X12_costOf_120_w1 M0 M → ((-2147483648) ≤ q129_0 ∧ q129_0 ≤ 2147483647) → rd M 120 97 = r3 → rd M 120 98 = r11 → rd M 163 (2100 * a1 + p8_4) = r21 → Tr l K 3 mX12_costOf 129 [(0, (2, 120)), (1, (0, a1)), (2, (0, a2)), (4, (0, p8_4)), (5, (0, q92_0)), (6, (0, q103_0))] [(0, q129_0)] M (q_X12_costOf_120_w1 M0) := by
              intro M q129_0 hS bq129_0 k129_120_97 k129_120_98 k129_163_a12100p8_410
              clear k103_120_97 k103_120_98 k103_163_a12100p8_410
              refine Tr.istore_n (pc := 129) (i := 3) (ls2 := [(3, (0, q129_0)), (0, (2, 120)), (1, (0, a1)), (2, (0, a2)), (4, (0, p8_4)), (5, (0, q92_0)), (6, (0, q103_0))]) d_X12_costOf_129 rfl (by decide) rfl ?_
              refine Tr.aload_n (pc := 130) (i := 0) d_X12_costOf_130 rfl rfl ?_
              refine Tr.getf (pc := 131) d_X12_costOf_131 f_12_321 (by decide) (by decide) (ty_120 hS.1.1) ?_
              refine Tr.tp 177 (fx_120_102 hS.1.1) ?_
              refine Tr.iload (pc := 134) (i := 4) d_X12_costOf_134 rfl ?_
              refine Tr.iload (pc := 136) (i := 5) d_X12_costOf_136 rfl ?_
              have J151 : ∀ (M : Mem) (q151_2 : Int), St Tru ws_X12_costOf_120_w1 as_X12_costOf_120_w1 M0 M → (0 ≤ q151_2 ∧ q151_2 ≤ 1) → rd M 120 97 = r3 → rd M 120 98 = r11 → rd M 163 (2100 * a1 + p8_4) = r21 → Tr l K 3 mX12_costOf 151 [(0, (2, 120)), (1, (0, a1)), (2, (0, a2)), (3, (0, q129_0)), (4, (0, p8_4))] [(0, q151_2), (0, p8_4), (2, 177)] M (q_X12_costOf_120_w1 M0) := by
                intro M q151_2 hS bq151_2 k151_120_97 k151_120_98 k151_163_a12100p8_410
                clear k129_120_97 k129_120_98 k129_163_a12100p8_410
                refine Tr.zastS (pc := 151) (P := St Tru ws_X12_costOf_120_w1 as_X12_costOf_120_w1 M0) d_X12_costOf_151 (ty_177 hS.1.1) (by omega) (by omega) (by omega) (sa_177 hS (by decide) (by and_intros <;> omega) trivial) (fun M151 hS w151 => ?_)
                refine Tr.iincV (pc := 152) (n2 := (p8_4 + 1)) (ls2 := [(4, (0, (p8_4 + 1))), (0, (2, 120)), (1, (0, a1)), (2, (0, a2)), (3, (0, q129_0))]) d_X12_costOf_152 rfl (by decide) ((w32_id (by and_intros <;> omega)).trans (by omega)) rfl ?_
                refine Tr.goto (pc := 155) (tgt := 8) d_X12_costOf_155 rfl ?_
                refine Tr.pick [1, 2, 3, 4, 0] (ls2 := [(0, (2, 120)), (1, (0, a1)), (2, (0, a2)), (3, (0, q129_0)), (4, (0, (p8_4 + 1)))]) rfl ?_
                exact J8 _ _ _ hS (by and_intros <;> omega) (by and_intros <;> omega) ((Wr.b w151 rfl).trans k151_120_97) (me_lt hm8 (by omega) (by omega))
              have J146 : ∀ (M : Mem), St Tru ws_X12_costOf_120_w1 as_X12_costOf_120_w1 M0 M → rd M 120 97 = r3 → rd M 120 98 = r11 → rd M 163 (2100 * a1 + p8_4) = r21 → Tr l K 3 mX12_costOf 146 [(0, (2, 120)), (1, (0, a1)), (2, (0, a2)), (3, (0, q129_0)), (4, (0, p8_4))] [(0, p8_4), (2, 177)] M (q_X12_costOf_120_w1 M0) := by
                intro M  hS  k146_120_97 k146_120_98 k146_163_a12100p8_410
                clear k129_120_97 k129_120_98 k129_163_a12100p8_410
                refine Tr.iconst (pc := 146) d_X12_costOf_146 (by decide) ?_
                refine Tr.goto (pc := 147) (tgt := 151) d_X12_costOf_147 rfl ?_
                refine Tr.pick [0, 1, 2, 3, 4] (ls2 := [(0, (2, 120)), (1, (0, a1)), (2, (0, a2)), (3, (0, q129_0)), (4, (0, p8_4))]) rfl ?_
                exact J151 _ _ hS (by omega) k146_120_97 k146_120_98 k146_163_a12100p8_410
              refine Tr.if_ne (pc := 138) (tgt := 146) d_X12_costOf_138 rfl (fun c138 => ?_) (fun c138 => ?_)
              · have c138b : 1 ≤ q92_0 ∧ q92_0 ≤ 1 := by omega
                replace c138 := hd_i c138
                refine Tr.pick [1, 2, 3, 0, 4] (ls2 := [(0, (2, 120)), (1, (0, a1)), (2, (0, a2)), (3, (0, q129_0)), (4, (0, p8_4))]) rfl ?_
                exact J146 _ hS k129_120_97 k129_120_98 k129_163_a12100p8_410
              · refine Tr.iload (pc := 141) (i := 6) d_X12_costOf_141 rfl ?_
                refine Tr.if_eq (pc := 143) (tgt := 150) d_X12_costOf_143 rfl (fun c143 => ?_) (fun c143 => ?_)
                · refine Tr.iconst (pc := 150) d_X12_costOf_150 (by decide) ?_
                  refine Tr.pick [1, 2, 3, 0, 4] (ls2 := [(0, (2, 120)), (1, (0, a1)), (2, (0, a2)), (3, (0, q129_0)), (4, (0, p8_4))]) rfl ?_
                  exact J151 _ _ hS (by omega) k129_120_97 k129_120_98 k129_163_a12100p8_410
                · have c143b : 1 ≤ q103_0 ∧ q103_0 ≤ 1 := by omega
                  replace c143 := hd_i c143
                  refine Tr.pick [1, 2, 3, 0, 4] (ls2 := [(0, (2, 120)), (1, (0, a1)), (2, (0, a2)), (3, (0, q129_0)), (4, (0, p8_4))]) rfl ?_
                  exact J146 _ hS k129_120_97 k129_120_98 k129_163_a12100p8_410
            refine Tr.if_eq (pc := 107) (tgt := 118) d_X12_costOf_107 rfl (fun c107 => ?_) (fun c107 => ?_)
            · refine Tr.iload_n (pc := 118) (i := 3) d_X12_costOf_118 rfl rfl ?_
              refine Tr.if_le (pc := 119) (tgt := 128) d_X12_costOf_119 rfl (fun c119 => ?_) (fun c119 => ?_)
              · refine Tr.iconst (pc := 128) d_X12_costOf_128 (by decide) ?_
                refine Tr.pick [1, 2, 3, 5, 6, 0] (ls2 := [(0, (2, 120)), (1, (0, a1)), (2, (0, a2)), (4, (0, p8_4)), (5, (0, q92_0)), (6, (0, q103_0))]) rfl ?_
                exact J129 _ _ hS (by omega) k103_120_97 k103_120_98 k103_163_a12100p8_410
              · refine Tr.iload_n (pc := 122) (i := 3) d_X12_costOf_122 rfl rfl ?_
                refine Tr.iconst (pc := 123) d_X12_costOf_123 (by decide) ?_
                refine Tr.isub (pc := 124) d_X12_costOf_124 ?_
                refine Tr.tp (p8_3 - 1) ((w32_id (by and_intros <;> omega)).trans (by omega)) ?_
                refine Tr.goto (pc := 125) (tgt := 129) d_X12_costOf_125 rfl ?_
                refine Tr.pick [1, 2, 3, 5, 6, 0] (ls2 := [(0, (2, 120)), (1, (0, a1)), (2, (0, a2)), (4, (0, p8_4)), (5, (0, q92_0)), (6, (0, q103_0))]) rfl ?_
                exact J129 _ _ hS (by and_intros <;> omega) k103_120_97 k103_120_98 k103_163_a12100p8_410
            · have c107b : 1 ≤ q92_0 ∧ q92_0 ≤ 1 := by omega
              replace c107 := hd_i c107
              refine Tr.aload_n (pc := 110) (i := 0) d_X12_costOf_110 rfl rfl ?_
              refine Tr.iload_n (pc := 111) (i := 1) d_X12_costOf_111 rfl rfl ?_
              refine Tr.callV (pc := 112) (as := [_]) d_X12_costOf_112 s_12_591 ok_X12_tails rfl rfl (Nat.le_of_ble_eq_true rfl) (Nat.le_of_ble_eq_true rfl) (by decide) (ty_120 hS.1.1) ?_
              obtain ⟨w112_126_1, ew112_126_1⟩ : ∃ v, rd M 126 1 = v := ⟨_, rfl⟩
              have bw112_126_1 : 0 ≤ w112_126_1 ∧ w112_126_1 ≤ 6 := by rw [← ew112_126_1]; exact ir_126_1 hS.1.2.1
              refine Tr.imp (Tr.deep (by decide) (ns_X12_tails_120_w1 (G126_1 := w112_126_1) hS.1 (ew112_126_1) ((kp_X12_costOf_120_w1_120_12 hS).trans en_120_12) a1 (by and_intros <;> omega) (Bk1.of hF_Bk1 (fun j => (ka_X12_costOf_120_w1_131 hS _)) (fun j => (ka_X12_costOf_120_w1_137 hS _)) (fun j => (ka_X12_costOf_120_w1_138 hS _)) (fun j => (ka_X12_costOf_120_w1_139 hS _)) (fun j => (ka_X12_costOf_120_w1_140 hS _)) (fun j => (ka_X12_costOf_120_w1_141 hS _)) (fun j => (ka_X12_costOf_120_w1_142 hS _)) (fun j => (ka_X12_costOf_120_w1_143 hS _)) (kp_X12_costOf_120_w1_126_1 hS) (kp_X12_costOf_120_w1_136_1 hS) (kp_X12_costOf_120_w1_123_1 hS) (kp_X12_costOf_120_w1_124_1 hS)))) ?_
              rintro M112 _ ⟨h112, r112, rfl, lr112, ur112, z112_0⟩
              have hS := St.tr hS h112 (by decide) (by decide)
              refine Tr.sc [(0, r112)] rfl ?_
              refine Tr.goto (pc := 115) (tgt := 129) d_X12_costOf_115 rfl ?_
              refine Tr.pick [1, 2, 3, 5, 6, 0] (ls2 := [(0, (2, 120)), (1, (0, a1)), (2, (0, a2)), (4, (0, p8_4)), (5, (0, q92_0)), (6, (0, q103_0))]) rfl ?_
              exact J129 _ _ hS (by and_intros <;> omega) ((kp_X12_tails_120_w1_120_97 h112).trans k103_120_97) ((kp_X12_tails_120_w1_120_98 h112).trans k103_120_98) ((ka_X12_tails_120_w1_163 h112 _).trans k103_163_a12100p8_410)
          refine Tr.if_le (pc := 95) (tgt := 102) d_X12_costOf_95 rfl (fun c95 => ?_) (fun c95 => ?_)
          · refine Tr.iconst (pc := 102) d_X12_costOf_102 (by decide) ?_
            refine Tr.pick [1, 2, 3, 4, 5, 0] (ls2 := [(0, (2, 120)), (1, (0, a1)), (2, (0, a2)), (3, (0, p8_3)), (4, (0, p8_4)), (5, (0, q92_0))]) rfl ?_
            exact J103 _ _ hS (by omega) k92_120_97 k92_120_98 k92_163_a12100p8_410
          · refine Tr.iconst (pc := 98) d_X12_costOf_98 (by decide) ?_
            refine Tr.goto (pc := 99) (tgt := 103) d_X12_costOf_99 rfl ?_
            refine Tr.pick [1, 2, 3, 4, 5, 0] (ls2 := [(0, (2, 120)), (1, (0, a1)), (2, (0, a2)), (3, (0, p8_3)), (4, (0, p8_4)), (5, (0, q92_0))]) rfl ?_
            exact J103 _ _ hS (by omega) k92_120_97 k92_120_98 k92_163_a12100p8_410
        have J87 : ∀ (M : Mem), St Tru ws_X12_costOf_120_w1 as_X12_costOf_120_w1 M0 M → rd M 120 97 = r3 → rd M 120 98 = r11 → rd M 163 (2100 * a1 + p8_4) = r21 → Tr l K 3 mX12_costOf 87 [(0, (2, 120)), (1, (0, a1)), (2, (0, a2)), (3, (0, p8_3)), (4, (0, p8_4))] [] M (q_X12_costOf_120_w1 M0) := by
          intro M  hS  k87_120_97 k87_120_98 k87_163_a12100p8_410
          clear k8_120_97 er11
          refine Tr.iconst (pc := 87) d_X12_costOf_87 (by decide) ?_
          refine Tr.goto (pc := 88) (tgt := 92) d_X12_costOf_88 rfl ?_
          refine Tr.pick [0, 1, 2, 3, 4] (ls2 := [(0, (2, 120)), (1, (0, a1)), (2, (0, a2)), (3, (0, p8_3)), (4, (0, p8_4))]) rfl ?_
          exact J92 _ _ hS (by omega) k87_120_97 k87_120_98 k87_163_a12100p8_410
        have J49 : ∀ (M : Mem), St Tru ws_X12_costOf_120_w1 as_X12_costOf_120_w1 M0 M → rd M 120 97 = r3 → rd M 120 98 = r11 → rd M 163 (2100 * a1 + p8_4) = r21 → Tr l K 3 mX12_costOf 49 [(0, (2, 120)), (1, (0, a1)), (2, (0, a2)), (3, (0, p8_3)), (4, (0, p8_4))] [] M (q_X12_costOf_120_w1 M0) := by
          intro M  hS  k49_120_97 k49_120_98 k49_163_a12100p8_410
          clear k8_120_97 er11
          refine Tr.aload_n (pc := 49) (i := 0) d_X12_costOf_49 rfl rfl ?_
          refine Tr.getf (pc := 50) d_X12_costOf_50 f_12_237 (by decide) (by decide) (ty_120 hS.1.1) ?_
          refine Tr.tp 165 (fx_120_74 hS.1.1) ?_
          refine Tr.sipush (pc := 53) d_X12_costOf_53 rfl (by decide) ?_
          refine Tr.iload_n (pc := 56) (i := 1) d_X12_costOf_56 rfl rfl ?_
          refine Tr.imul (pc := 57) d_X12_costOf_57 ?_
          refine Tr.tp (2100 * a1) ((w32_id (by and_intros <;> omega)).trans (by omega)) ?_
          refine Tr.iload (pc := 58) (i := 4) d_X12_costOf_58 rfl ?_
          refine Tr.iadd (pc := 60) d_X12_costOf_60 ?_
          refine Tr.tp (2100 * a1 + p8_4) ((w32_id (by and_intros <;> omega)).trans (by omega)) ?_
          refine Tr.iald (pc := 61) d_X12_costOf_61 (ty_165 hS.1.1) (by omega) (by omega) ?_
          refine Tr.gen (P := fun v => (-1) ≤ v ∧ v ≤ 59) (ar_165 hS.1.2.1 _) (fun r61 er61 br61 => ?_)
          refine Tr.iconst (pc := 62) d_X12_costOf_62 (by decide) ?_
          have J91 : ∀ (M : Mem), St Tru ws_X12_costOf_120_w1 as_X12_costOf_120_w1 M0 M → rd M 120 97 = r3 → rd M 120 98 = r11 → rd M 163 (2100 * a1 + p8_4) = r21 → rd M 165 (2100 * a1 + p8_4) = r61 → Tr l K 3 mX12_costOf 91 [(0, (2, 120)), (1, (0, a1)), (2, (0, a2)), (3, (0, p8_3)), (4, (0, p8_4))] [] M (q_X12_costOf_120_w1 M0) := by
            intro M  hS  k91_120_97 k91_120_98 k91_163_a12100p8_410 k91_165_a12100p8_410
            clear k49_120_97 k49_120_98 k49_163_a12100p8_410 er61
            refine Tr.iconst (pc := 91) d_X12_costOf_91 (by decide) ?_
            refine Tr.pick [0, 1, 2, 3, 4] (ls2 := [(0, (2, 120)), (1, (0, a1)), (2, (0, a2)), (3, (0, p8_3)), (4, (0, p8_4))]) rfl ?_
            exact J92 _ _ hS (by omega) k91_120_97 k91_120_98 k91_163_a12100p8_410
          refine Tr.icmp_eq (pc := 63) (tgt := 91) d_X12_costOf_63 rfl (fun c63 => ?_) (fun c63 => ?_)
          · refine Tr.pick [0, 1, 2, 3, 4] (ls2 := [(0, (2, 120)), (1, (0, a1)), (2, (0, a2)), (3, (0, p8_3)), (4, (0, p8_4))]) rfl ?_
            exact J91 _ hS k49_120_97 k49_120_98 k49_163_a12100p8_410 er61
          · have c63b : 0 ≤ r61 ∧ r61 ≤ 59 := by omega
            replace c63 := hd_i c63
            refine Tr.aload_n (pc := 66) (i := 0) d_X12_costOf_66 rfl rfl ?_
            refine Tr.aload_n (pc := 67) (i := 0) d_X12_costOf_67 rfl rfl ?_
            refine Tr.getf (pc := 68) d_X12_costOf_68 f_12_237 (by decide) (by decide) (ty_120 hS.1.1) ?_
            refine Tr.tp 165 (fx_120_74 hS.1.1) ?_
            refine Tr.sipush (pc := 71) d_X12_costOf_71 rfl (by decide) ?_
            refine Tr.iload_n (pc := 74) (i := 1) d_X12_costOf_74 rfl rfl ?_
            refine Tr.imul (pc := 75) d_X12_costOf_75 ?_
            refine Tr.tp (2100 * a1) ((w32_id (by and_intros <;> omega)).trans (by omega)) ?_
            refine Tr.iload (pc := 76) (i := 4) d_X12_costOf_76 rfl ?_
            refine Tr.iadd (pc := 78) d_X12_costOf_78 ?_
            refine Tr.tp (2100 * a1 + p8_4) ((w32_id (by and_intros <;> omega)).trans (by omega)) ?_
            refine Tr.iald (pc := 79) d_X12_costOf_79 (ty_165 hS.1.1) (by omega) (by omega) ?_
            refine Tr.tp r61 er61 ?_
            refine Tr.iload_n (pc := 80) (i := 2) d_X12_costOf_80 rfl rfl ?_
            refine Tr.callV (pc := 81) (as := [_, _]) d_X12_costOf_81 s_12_662 ok_X12_isAmong rfl rfl (Nat.le_of_ble_eq_true rfl) (Nat.le_of_ble_eq_true rfl) (by decide) (ty_120 hS.1.1) ?_
            refine Tr.imp (Tr.deep (by decide) (sp_X12_isAmong_120 hS.1 r61 (by and_intros <;> omega) a2 (by and_intros <;> omega))) ?_
            rintro M81 _ ⟨h81, r81, rfl, lr81, ur81⟩
            have hS := St.tr hS h81 (by decide) (by decide)
            refine Tr.sc [(0, r81)] rfl ?_
            refine Tr.if_eq (pc := 84) (tgt := 91) d_X12_costOf_84 rfl (fun c84 => ?_) (fun c84 => ?_)
            · refine Tr.pick [0, 1, 2, 3, 4] (ls2 := [(0, (2, 120)), (1, (0, a1)), (2, (0, a2)), (3, (0, p8_3)), (4, (0, p8_4))]) rfl ?_
              exact J91 _ hS ((kp_X12_isAmong_120_120_97 h81).trans k49_120_97) ((kp_X12_isAmong_120_120_98 h81).trans k49_120_98) ((ka_X12_isAmong_120_163 h81 _).trans k49_163_a12100p8_410) ((ka_X12_isAmong_120_165 h81 _).trans er61)
            · have c84b : 1 ≤ r81 ∧ r81 ≤ 1 := by omega
              replace c84 := hd_i c84
              refine Tr.pick [0, 1, 2, 3, 4] (ls2 := [(0, (2, 120)), (1, (0, a1)), (2, (0, a2)), (3, (0, p8_3)), (4, (0, p8_4))]) rfl ?_
              exact J87 _ hS ((kp_X12_isAmong_120_120_97 h81).trans k49_120_97) ((kp_X12_isAmong_120_120_98 h81).trans k49_120_98) ((ka_X12_isAmong_120_163 h81 _).trans k49_163_a12100p8_410)
        refine Tr.icmp_ne (pc := 25) (tgt := 49) d_X12_costOf_25 rfl (fun c25 => ?_) (fun c25 => ?_)
        · have c25b : 0 ≤ r21 ∧ r21 ≤ 2 := by omega
          replace c25 := hd_i c25
          refine Tr.pick [0, 1, 2, 3, 4] (ls2 := [(0, (2, 120)), (1, (0, a1)), (2, (0, a2)), (3, (0, p8_3)), (4, (0, p8_4))]) rfl ?_
          exact J49 _ hS ((kp_X12_stateAt_120_120_97 h21).trans k8_120_97) ((kp_X12_stateAt_120_120_98 h21).trans er11) ((ka_X12_stateAt_120_163 h21 _).trans qs21)
        · refine Tr.aload_n (pc := 28) (i := 0) d_X12_costOf_28 rfl rfl ?_
          refine Tr.aload_n (pc := 29) (i := 0) d_X12_costOf_29 rfl rfl ?_
          refine Tr.getf (pc := 30) d_X12_costOf_30 f_12_234 (by decide) (by decide) (ty_120 hS.1.1) ?_
          refine Tr.tp 164 (fx_120_73 hS.1.1) ?_
          refine Tr.sipush (pc := 33) d_X12_costOf_33 rfl (by decide) ?_
          refine Tr.iload_n (pc := 36) (i := 1) d_X12_costOf_36 rfl rfl ?_
          refine Tr.imul (pc := 37) d_X12_costOf_37 ?_
          refine Tr.tp (2100 * a1) ((w32_id (by and_intros <;> omega)).trans (by omega)) ?_
          refine Tr.iload (pc := 38) (i := 4) d_X12_costOf_38 rfl ?_
          refine Tr.iadd (pc := 40) d_X12_costOf_40 ?_
          refine Tr.tp (2100 * a1 + p8_4) ((w32_id (by and_intros <;> omega)).trans (by omega)) ?_
          refine Tr.iald (pc := 41) d_X12_costOf_41 (ty_164 hS.1.1) (by omega) (by omega) ?_
          refine Tr.gen (P := fun v => (-1) ≤ v ∧ v ≤ 59) (ar_164 hS.1.2.1 _) (fun r41 er41 br41 => ?_)
          refine Tr.iload_n (pc := 42) (i := 2) d_X12_costOf_42 rfl rfl ?_
          refine Tr.callV (pc := 43) (as := [_, _]) d_X12_costOf_43 s_12_662 ok_X12_isAmong rfl rfl (Nat.le_of_ble_eq_true rfl) (Nat.le_of_ble_eq_true rfl) (by decide) (ty_120 hS.1.1) ?_
          refine Tr.imp (Tr.deep (by decide) (sp_X12_isAmong_120 hS.1 r41 (by and_intros <;> omega) a2 (by and_intros <;> omega))) ?_
          rintro M43 _ ⟨h43, r43, rfl, lr43, ur43⟩
          have hS := St.tr hS h43 (by decide) (by decide)
          refine Tr.sc [(0, r43)] rfl ?_
          refine Tr.if_ne (pc := 46) (tgt := 87) d_X12_costOf_46 rfl (fun c46 => ?_) (fun c46 => ?_)
          · have c46b : 1 ≤ r43 ∧ r43 ≤ 1 := by omega
            replace c46 := hd_i c46
            refine Tr.pick [0, 1, 2, 3, 4] (ls2 := [(0, (2, 120)), (1, (0, a1)), (2, (0, a2)), (3, (0, p8_3)), (4, (0, p8_4))]) rfl ?_
            exact J87 _ hS ((kp_X12_isAmong_120_120_97 h43).trans ((kp_X12_stateAt_120_120_97 h21).trans k8_120_97)) ((kp_X12_isAmong_120_120_98 h43).trans ((kp_X12_stateAt_120_120_98 h21).trans er11)) ((ka_X12_isAmong_120_163 h43 _).trans ((ka_X12_stateAt_120_163 h21 _).trans qs21))
          · refine Tr.pick [0, 1, 2, 3, 4] (ls2 := [(0, (2, 120)), (1, (0, a1)), (2, (0, a2)), (3, (0, p8_3)), (4, (0, p8_4))]) rfl ?_
            exact J49 _ hS ((kp_X12_isAmong_120_120_97 h43).trans ((kp_X12_stateAt_120_120_97 h21).trans k8_120_97)) ((kp_X12_isAmong_120_120_98 h43).trans ((kp_X12_stateAt_120_120_98 h21).trans er11)) ((ka_X12_isAmong_120_163 h43 _).trans ((ka_X12_stateAt_120_163 h21 _).trans qs21))
  refine Tr.pick [2, 3, 4, 1, 0] (ls2 := [(0, (2, 120)), (1, (0, a1)), (2, (0, a2)), (3, (0, 0)), (4, (0, r3))]) rfl ?_
  exact J8 _ _ _ _ hS (by omega) (by and_intros <;> omega) er3 (Nat.lt_succ_self _)

def ws_X12_byTurns_120_w1 : List (Int × Int) := [(120, 97), (120, 98), (120, 99), (120, 101)]
def as_X12_byTurns_120_w1 : List Int := [176, 177, 178]
def q_X12_byTurns_120_w1 (M0 M' : Mem) (r : Option PV) : Prop := St Tru ws_X12_byTurns_120_w1 as_X12_byTurns_120_w1 M0 M' ∧ ∃ v : Int, r = some (1, v) ∧ (-9223372036854775808) ≤ v ∧ v ≤ 9223372036854775807
theorem kp_X12_byTurns_120_w1_120_12 {q : Mem → Prop} {M0 M : Mem} (h : St q ws_X12_byTurns_120_w1 as_X12_byTurns_120_w1 M0 M) : rd M 120 12 = rd M0 120 12 := St.kp h (by decide) (by decide) (by decide)
theorem kp_X12_bitsOf_126_1 {q : Mem → Prop} {M0 M : Mem} (h : St q ws_X12_bitsOf as_X12_bitsOf M0 M) : rd M 126 1 = rd M0 126 1 := St.kp h (by decide) (by decide) (by decide)
theorem kp_X12_orders_126_1 {q : Mem → Prop} {M0 M : Mem} (h : St q ws_X12_orders as_X12_orders M0 M) : rd M 126 1 = rd M0 126 1 := St.kp h (by decide) (by decide) (by decide)
theorem kp_X12_bitsOf_129_1 {q : Mem → Prop} {M0 M : Mem} (h : St q ws_X12_bitsOf as_X12_bitsOf M0 M) : rd M 129 1 = rd M0 129 1 := St.kp h (by decide) (by decide) (by decide)
theorem kp_X12_orders_129_1 {q : Mem → Prop} {M0 M : Mem} (h : St q ws_X12_orders as_X12_orders M0 M) : rd M 129 1 = rd M0 129 1 := St.kp h (by decide) (by decide) (by decide)
theorem ka_X12_byTurns_120_w1_131 {q : Mem → Prop} {M0 M : Mem} (h : St q ws_X12_byTurns_120_w1 as_X12_byTurns_120_w1 M0 M) (j : Int) : rd M 131 j = rd M0 131 j := St.ka h (by decide) (by decide) (by decide)
theorem ka_X12_byTurns_120_w1_137 {q : Mem → Prop} {M0 M : Mem} (h : St q ws_X12_byTurns_120_w1 as_X12_byTurns_120_w1 M0 M) (j : Int) : rd M 137 j = rd M0 137 j := St.ka h (by decide) (by decide) (by decide)
theorem ka_X12_byTurns_120_w1_138 {q : Mem → Prop} {M0 M : Mem} (h : St q ws_X12_byTurns_120_w1 as_X12_byTurns_120_w1 M0 M) (j : Int) : rd M 138 j = rd M0 138 j := St.ka h (by decide) (by decide) (by decide)
theorem ka_X12_byTurns_120_w1_139 {q : Mem → Prop} {M0 M : Mem} (h : St q ws_X12_byTurns_120_w1 as_X12_byTurns_120_w1 M0 M) (j : Int) : rd M 139 j = rd M0 139 j := St.ka h (by decide) (by decide) (by decide)
theorem ka_X12_byTurns_120_w1_140 {q : Mem → Prop} {M0 M : Mem} (h : St q ws_X12_byTurns_120_w1 as_X12_byTurns_120_w1 M0 M) (j : Int) : rd M 140 j = rd M0 140 j := St.ka h (by decide) (by decide) (by decide)
theorem ka_X12_byTurns_120_w1_141 {q : Mem → Prop} {M0 M : Mem} (h : St q ws_X12_byTurns_120_w1 as_X12_byTurns_120_w1 M0 M) (j : Int) : rd M 141 j = rd M0 141 j := St.ka h (by decide) (by decide) (by decide)
theorem ka_X12_byTurns_120_w1_142 {q : Mem → Prop} {M0 M : Mem} (h : St q ws_X12_byTurns_120_w1 as_X12_byTurns_120_w1 M0 M) (j : Int) : rd M 142 j = rd M0 142 j := St.ka h (by decide) (by decide) (by decide)
theorem ka_X12_byTurns_120_w1_143 {q : Mem → Prop} {M0 M : Mem} (h : St q ws_X12_byTurns_120_w1 as_X12_byTurns_120_w1 M0 M) (j : Int) : rd M 143 j = rd M0 143 j := St.ka h (by decide) (by decide) (by decide)
theorem kp_X12_byTurns_120_w1_126_1 {q : Mem → Prop} {M0 M : Mem} (h : St q ws_X12_byTurns_120_w1 as_X12_byTurns_120_w1 M0 M) : rd M 126 1 = rd M0 126 1 := St.kp h (by decide) (by decide) (by decide)
theorem kp_X12_byTurns_120_w1_136_1 {q : Mem → Prop} {M0 M : Mem} (h : St q ws_X12_byTurns_120_w1 as_X12_byTurns_120_w1 M0 M) : rd M 136 1 = rd M0 136 1 := St.kp h (by decide) (by decide) (by decide)
theorem kp_X12_byTurns_120_w1_123_1 {q : Mem → Prop} {M0 M : Mem} (h : St q ws_X12_byTurns_120_w1 as_X12_byTurns_120_w1 M0 M) : rd M 123 1 = rd M0 123 1 := St.kp h (by decide) (by decide) (by decide)
theorem kp_X12_byTurns_120_w1_124_1 {q : Mem → Prop} {M0 M : Mem} (h : St q ws_X12_byTurns_120_w1 as_X12_byTurns_120_w1 M0 M) : rd M 124 1 = rd M0 124 1 := St.kp h (by decide) (by decide) (by decide)
theorem kp_X12_costOf_120_w1_120_101 {q : Mem → Prop} {M0 M : Mem} (h : St q ws_X12_costOf_120_w1 as_X12_costOf_120_w1 M0 M) : rd M 120 101 = rd M0 120 101 := St.kp h (by decide) (by decide) (by decide)
theorem kp_X12_costOf_120_w1_120_85 {q : Mem → Prop} {M0 M : Mem} (h : St q ws_X12_costOf_120_w1 as_X12_costOf_120_w1 M0 M) : rd M 120 85 = rd M0 120 85 := St.kp h (by decide) (by decide) (by decide)
theorem kp_X12_costOf_120_w1_129_1 {q : Mem → Prop} {M0 M : Mem} (h : St q ws_X12_costOf_120_w1 as_X12_costOf_120_w1 M0 M) : rd M 129 1 = rd M0 129 1 := St.kp h (by decide) (by decide) (by decide)
theorem kp_X12_isPart_120_w1_120_85 {q : Mem → Prop} {M0 M : Mem} (h : St q ws_X12_isPart_120_w1 as_X12_isPart_120_w1 M0 M) : rd M 120 85 = rd M0 120 85 := St.kp h (by decide) (by decide) (by decide)
theorem kp_X12_isLine_120_w1_120_85 {q : Mem → Prop} {M0 M : Mem} (h : St q ws_X12_isLine_120_w1 as_X12_isLine_120_w1 M0 M) : rd M 120 85 = rd M0 120 85 := St.kp h (by decide) (by decide) (by decide)
theorem kp_X12_isLine_120_w1_126_1 {q : Mem → Prop} {M0 M : Mem} (h : St q ws_X12_isLine_120_w1 as_X12_isLine_120_w1 M0 M) : rd M 126 1 = rd M0 126 1 := St.kp h (by decide) (by decide) (by decide)
theorem kp_X12_finds_120_126_1 {q : Mem → Prop} {M0 M : Mem} (h : St q ws_X12_finds_120 as_X12_finds_120 M0 M) : rd M 126 1 = rd M0 126 1 := St.kp h (by decide) (by decide) (by decide)
theorem kp_X12_linesIn_120_126_1 {q : Mem → Prop} {M0 M : Mem} (h : St q ws_X12_linesIn_120 as_X12_linesIn_120 M0 M) : rd M 126 1 = rd M0 126 1 := St.kp h (by decide) (by decide) (by decide)
theorem kp_X12_isLine_120_w1_129_1 {q : Mem → Prop} {M0 M : Mem} (h : St q ws_X12_isLine_120_w1 as_X12_isLine_120_w1 M0 M) : rd M 129 1 = rd M0 129 1 := St.kp h (by decide) (by decide) (by decide)
theorem kp_X12_finds_120_129_1 {q : Mem → Prop} {M0 M : Mem} (h : St q ws_X12_finds_120 as_X12_finds_120 M0 M) : rd M 129 1 = rd M0 129 1 := St.kp h (by decide) (by decide) (by decide)
theorem kp_X12_linesIn_120_129_1 {q : Mem → Prop} {M0 M : Mem} (h : St q ws_X12_linesIn_120 as_X12_linesIn_120 M0 M) : rd M 129 1 = rd M0 129 1 := St.kp h (by decide) (by decide) (by decide)
set_option maxRecDepth 100000 in
set_option maxHeartbeats 4000000 in
theorem sp_X12_byTurns_120_w1 {l : Launch} {K : EC} {M0 : Mem} (hI : In Tru M0) (en_120_12 : rd M0 120 12 = 1) (a1 : Int) (ha1 : (-2147483648) ≤ a1 ∧ a1 ≤ 2147483647) (a2 : Int) (ha2 : (-2147483648) ≤ a2 ∧ a2 ≤ 2147483647) (a3 : Int) (ha3 : (-2147483648) ≤ a3 ∧ a3 ≤ 2147483647) (a4 : Int) (ha4 : 0 ≤ a4 ∧ a4 ≤ 1)  (hF_Bk1 : Bk1 M0) : Tr l K 4 mX12_byTurns 0 [(0, (2, 120)), (1, (0, a1)), (2, (0, a2)), (3, (0, a3)), (4, (0, a4))] [] M0 (q_X12_byTurns_120_w1 M0) := by
  have hS : St Tru ws_X12_byTurns_120_w1 as_X12_byTurns_120_w1 M0 M0 := St.rf hI
  obtain ⟨g120_101, eg120_101⟩ : ∃ v, rd M0 120 101 = v := ⟨_, rfl⟩
  have bg120_101 : 0 ≤ g120_101 ∧ g120_101 ≤ 8 := by rw [← eg120_101]; exact ir_120_101 hI.2.1
  obtain ⟨g126_1, eg126_1⟩ : ∃ v, rd M0 126 1 = v := ⟨_, rfl⟩
  have bg126_1 : 0 ≤ g126_1 ∧ g126_1 ≤ 6 := by rw [← eg126_1]; exact ir_126_1 hI.2.1
  refine Tr.aload_n (pc := 0) (i := 0) d_X12_byTurns_0 rfl rfl ?_
  refine Tr.getz (pc := 1) d_X12_byTurns_1 f_12_270 (by decide) (ty_120 hS.1.1) ?_
  refine Tr.gen (P := fun v => 0 ≤ v ∧ v ≤ 1) (ir_120_85 hS.1.2.1) (fun r1 er1 br1 => ?_)
  refine Tr.if_eq (pc := 4) (tgt := 36) d_X12_byTurns_4 rfl (fun c4 => ?_) (fun c4 => ?_)
  · refine Tr.ldc2 (pc := 36) d_X12_byTurns_36 kl_12_669 (by decide) ?_
    exact Tr.lret (pc := 39) d_X12_byTurns_39 rfl ⟨hS, _, rfl, by omega, by omega⟩
  · have c4b : 1 ≤ r1 ∧ r1 ≤ 1 := by omega
    replace c4 := hd_i c4
    refine Tr.aload_n (pc := 7) (i := 0) d_X12_byTurns_7 rfl rfl ?_
    refine Tr.iload_n (pc := 8) (i := 1) d_X12_byTurns_8 rfl rfl ?_
    refine Tr.callV (pc := 9) (as := [_]) d_X12_byTurns_9 s_12_555 ok_X12_isPart rfl rfl (Nat.le_of_ble_eq_true rfl) (Nat.le_of_ble_eq_true rfl) (by decide) (ty_120 hS.1.1) ?_
    refine Tr.imp (Tr.deep (by decide) (ns_X12_isPart_120_w1 (G126_1 := g126_1) hS.1 (eg126_1) ((kp_X12_byTurns_120_w1_120_12 hS).trans en_120_12) a1 (by and_intros <;> omega))) ?_
    rintro M9 _ ⟨h9, r9, rfl, lr9, ur9, z9_0⟩
    have hS := St.tr hS h9 (by decide) (by decide)
    refine Tr.sc [(0, r9)] rfl ?_
    refine Tr.if_eq (pc := 12) (tgt := 36) d_X12_byTurns_12 rfl (fun c12 => ?_) (fun c12 => ?_)
    · refine Tr.ldc2 (pc := 36) d_X12_byTurns_36 kl_12_669 (by decide) ?_
      exact Tr.lret (pc := 39) d_X12_byTurns_39 rfl ⟨hS, _, rfl, by omega, by omega⟩
    · have c12b : 1 ≤ r9 ∧ r9 ≤ 1 := by omega
      replace c12 := hd_i c12
      refine Tr.iload_n (pc := 15) (i := 2) d_X12_byTurns_15 rfl rfl ?_
      refine Tr.if_lt (pc := 16) (tgt := 36) d_X12_byTurns_16 rfl (fun c16 => ?_) (fun c16 => ?_)
      · refine Tr.ldc2 (pc := 36) d_X12_byTurns_36 kl_12_669 (by decide) ?_
        exact Tr.lret (pc := 39) d_X12_byTurns_39 rfl ⟨hS, _, rfl, by omega, by omega⟩
      · refine Tr.aload_n (pc := 19) (i := 0) d_X12_byTurns_19 rfl rfl ?_
        refine Tr.iload_n (pc := 20) (i := 3) d_X12_byTurns_20 rfl rfl ?_
        refine Tr.callV (pc := 21) (as := [_]) d_X12_byTurns_21 s_12_656 ok_X12_isLine rfl rfl (Nat.le_of_ble_eq_true rfl) (Nat.le_of_ble_eq_true rfl) (by decide) (ty_120 hS.1.1) ?_
        obtain ⟨w21_129_1, ew21_129_1⟩ : ∃ v, rd M9 129 1 = v := ⟨_, rfl⟩
        have bw21_129_1 : 0 ≤ w21_129_1 ∧ w21_129_1 ≤ 60 := by rw [← ew21_129_1]; exact ir_129_1 hS.1.2.1
        refine Tr.imp (Tr.deep (by decide) (ns_X12_isLine_120_w1 (G129_1 := w21_129_1) hS.1 (ew21_129_1) ((kp_X12_byTurns_120_w1_120_12 hS).trans en_120_12) a3 (by and_intros <;> omega))) ?_
        rintro M21 _ ⟨h21, r21, rfl, lr21, ur21, z21_0⟩
        have hS := St.tr hS h21 (by decide) (by decide)
        refine Tr.sc [(0, r21)] rfl ?_
        refine Tr.if_eq (pc := 24) (tgt := 36) d_X12_byTurns_24 rfl (fun c24 => ?_) (fun c24 => ?_)
        · refine Tr.ldc2 (pc := 36) d_X12_byTurns_36 kl_12_669 (by decide) ?_
          exact Tr.lret (pc := 39) d_X12_byTurns_39 rfl ⟨hS, _, rfl, by omega, by omega⟩
        · have c24b : 1 ≤ r21 ∧ r21 ≤ 1 := by omega
          replace c24 := hd_i c24
          refine Tr.aload_n (pc := 27) (i := 0) d_X12_byTurns_27 rfl rfl ?_
          refine Tr.iload_n (pc := 28) (i := 1) d_X12_byTurns_28 rfl rfl ?_
          refine Tr.iload_n (pc := 29) (i := 2) d_X12_byTurns_29 rfl rfl ?_
          refine Tr.callV (pc := 30) (as := [_, _]) d_X12_byTurns_30 s_12_644 ok_X12_finds rfl rfl (Nat.le_of_ble_eq_true rfl) (Nat.le_of_ble_eq_true rfl) (by decide) (ty_120 hS.1.1) ?_
          refine Tr.imp (Tr.deep (by decide) (ns_X12_finds_120 hS.1 a1 (by exact (hd_o z9_0).elim (fun h1 => by omega) (fun h1 => by omega)) a2 (by and_intros <;> omega))) ?_
          rintro M30 _ ⟨h30, r30, rfl, lr30, ur30, z30_0⟩
          have hS := St.tr hS h30 (by decide) (by decide)
          refine Tr.sc [(0, r30)] rfl ?_
          refine Tr.if_ne (pc := 33) (tgt := 40) d_X12_byTurns_33 rfl (fun c33 => ?_) (fun c33 => ?_)
          · have c33b : 1 ≤ r30 ∧ r30 ≤ 1 := by omega
            replace c33 := hd_i c33
            refine Tr.aload_n (pc := 40) (i := 0) d_X12_byTurns_40 rfl rfl ?_
            refine Tr.iload_n (pc := 41) (i := 1) d_X12_byTurns_41 rfl rfl ?_
            refine Tr.callV (pc := 42) (as := [_]) d_X12_byTurns_42 s_12_650 ok_X12_linesIn rfl rfl (Nat.le_of_ble_eq_true rfl) (Nat.le_of_ble_eq_true rfl) (by decide) (ty_120 hS.1.1) ?_
            refine Tr.imp (Tr.deep (by decide) (sp_X12_linesIn_120 hS.1 a1 (by exact (hd_o z9_0).elim (fun h1 => by omega) (fun h1 => by omega)))) ?_
            rintro M42 _ ⟨h42, r42, rfl, lr42, ur42⟩
            have hS := St.tr hS h42 (by decide) (by decide)
            refine Tr.sc [(1, r42)] rfl ?_
            refine Tr.lstore (pc := 45) (i := 5) (ls2 := [(5, (1, r42)), (0, (2, 120)), (1, (0, a1)), (2, (0, a2)), (3, (0, a3)), (4, (0, a4))]) d_X12_byTurns_45 (by decide) rfl ?_
            refine Tr.lload (pc := 47) (i := 5) d_X12_byTurns_47 rfl ?_
            refine Tr.callS (pc := 49) (as := [_]) d_X12_byTurns_49 s_12_653 ok_X12_bitsOf rfl rfl (Nat.le_of_ble_eq_true rfl) (Nat.le_of_ble_eq_true rfl) ?_
            refine Tr.imp (Tr.deep (by decide) (sp_X12_bitsOf hS.1 r42 (by omega))) ?_
            rintro M49 _ ⟨h49, r49, rfl, lr49, ur49, wr49⟩
            have hS := St.tr hS h49 (by decide) (by decide)
            have wr49d0 := hd_i wr49.2
            replace wr49 := And.intro wr49.1.1 (And.intro wr49.1.2.1  (wr49.1.2.2))
            refine Tr.sc [(0, r49)] rfl ?_
            refine Tr.bipush (pc := 52) d_X12_byTurns_52 rfl (by decide) ?_
            refine Tr.icmp_gt (pc := 54) (tgt := 68) d_X12_byTurns_54 rfl (fun c54 => ?_) (fun c54 => ?_)
            · refine Tr.ldc2 (pc := 68) d_X12_byTurns_68 kl_12_669 (by decide) ?_
              exact Tr.lret (pc := 71) d_X12_byTurns_71 rfl ⟨hS, _, rfl, by omega, by omega⟩
            · refine Tr.lload (pc := 57) (i := 5) d_X12_byTurns_57 rfl ?_
              refine Tr.iload_n (pc := 59) (i := 3) d_X12_byTurns_59 rfl rfl ?_
              refine Tr.lshr (pc := 60) d_X12_byTurns_60 ?_
              refine Tr.gen (P := fun v => ((-9223372036854775808) ≤ v ∧ v ≤ 9223372036854775807) ∧ (r42 ≠ 0 ∨ v = 0)) (lshr_z _ _) (fun r60 er60 br60 => ?_)
              have br60d0 := hd_i br60.2
              replace br60 := And.intro br60.1.1  (br60.1.2)
              refine Tr.lconst (pc := 61) (v := 1) d_X12_byTurns_61 rfl (by decide) ?_
              refine Tr.land (pc := 62) d_X12_byTurns_62 ?_
              refine Tr.gen (P := fun v => v = r60 % 2 ∧ (0 ≤ v ∧ v ≤ 1)) ⟨(f_land_1 _).1, (f_land_1 _).2⟩ (fun r62 er62 br62 => ?_)
              refine Tr.lconst (pc := 63) (v := 0) d_X12_byTurns_63 rfl (by decide) ?_
              refine Tr.lcmp (pc := 64) d_X12_byTurns_64 ?_
              refine Tr.gen (P := fun v => (v = 1 ∧ 0 < r62) ∨ (v = 0 ∧ r62 = 0) ∨ (v = -1 ∧ r62 < 0)) (f_lcmp_c _ _) (fun r64 er64 br64 => ?_)
              replace br64 := hd_i br64
              refine Tr.if_ne (pc := 65) (tgt := 72) d_X12_byTurns_65 rfl (fun c65 => ?_) (fun c65 => ?_)
              · replace c65 := hd_i c65
                refine Tr.aload_n (pc := 72) (i := 0) d_X12_byTurns_72 rfl rfl ?_
                refine Tr.iconst (pc := 73) d_X12_byTurns_73 (by decide) ?_
                refine Tr.putfS (pc := 74) (P := St Tru ws_X12_byTurns_120_w1 as_X12_byTurns_120_w1 M0) d_X12_byTurns_74 f_12_318 (by decide) (by decide) (ty_120 hS.1.1) (st_120_101 hS (by decide) (by omega) trivial) (fun M74 hS w74 => ?_)
                refine Tr.iconst (pc := 77) d_X12_byTurns_77 (by decide) ?_
                refine Tr.istore (pc := 78) (i := 7) (ls2 := [(7, (0, 0)), (5, (1, r42)), (0, (2, 120)), (1, (0, a1)), (2, (0, a2)), (3, (0, a3)), (4, (0, a4))]) d_X12_byTurns_78 (by decide) rfl ?_
                refine Tr.iconst (pc := 80) d_X12_byTurns_80 (by decide) ?_
                refine Tr.istore (pc := 81) (i := 8) (ls2 := [(8, (0, 0)), (7, (0, 0)), (5, (1, r42)), (0, (2, 120)), (1, (0, a1)), (2, (0, a2)), (3, (0, a3)), (4, (0, a4))]) d_X12_byTurns_81 (by decide) rfl ?_
                have J83 : ∀ (n83 : Nat) (M : Mem) (p83_7 p83_8 u83_120_101 : Int), St Tru ws_X12_byTurns_120_w1 as_X12_byTurns_120_w1 M0 M → (0 ≤ p83_7 ∧ p83_7 ≤ 8) → (0 ≤ p83_8 ∧ p83_8 ≤ 60) → (0 ≤ u83_120_101 ∧ u83_120_101 ≤ 8) → rd M 120 101 = u83_120_101 → rd M 120 85 = r1 → rd M 126 1 = g126_1 → rd M 129 1 = w21_129_1 → (u83_120_101 + tpS r42 p83_8 ≤ 8) → (0 ≤ p83_7 ∧ p83_7 ≤ 7) → (60 - p83_8).toNat < n83 → Tr l K 4 mX12_byTurns 83 [(0, (2, 120)), (1, (0, a1)), (3, (0, a3)), (4, (0, a4)), (5, (1, r42)), (7, (0, p83_7)), (8, (0, p83_8))] [] M (q_X12_byTurns_120_w1 M0) := by
                  intro n83
                  induction n83 with
                  | zero => intro M p83_7 p83_8 u83_120_101 hS bp83_7 bp83_8 bu83_120_101 k83_120_101 k83_120_85 k83_126_1 k83_129_1 t83_0 t83_1 hm83; exact absurd hm83 (Nat.not_lt_zero _)
                  | succ n83 J83 =>
                    intro M p83_7 p83_8 u83_120_101 hS bp83_7 bp83_8 bu83_120_101 k83_120_101 k83_120_85 k83_126_1 k83_129_1 t83_0 t83_1 hm83
                    clear er1 ew21_129_1 er60 er62 er64 w74
                    refine Tr.iload (pc := 83) (i := 8) d_X12_byTurns_83 rfl ?_
                    refine Tr.aload_n (pc := 85) (i := 0) d_X12_byTurns_85 rfl rfl ?_
                    refine Tr.getf (pc := 86) d_X12_byTurns_86 f_12_72 (by decide) (by decide) (ty_120 hS.1.1) ?_
                    refine Tr.tp 129 (fx_120_20 hS.1.1) ?_
                    refine Tr.aload_n (pc := 89) (i := 0) d_X12_byTurns_89 rfl rfl ?_
                    refine Tr.getf (pc := 90) d_X12_byTurns_90 f_12_48 (by decide) (by decide) (ty_120 hS.1.1) ?_
                    refine Tr.tp 1 ((kp_X12_byTurns_120_w1_120_12 hS).trans en_120_12) ?_
                    refine Tr.iald (pc := 93) d_X12_byTurns_93 (ty_129 hS.1.1) (by omega) (by omega) ?_
                    refine Tr.tp w21_129_1 k83_129_1 ?_
                    refine Tr.icmp_ge (pc := 94) (tgt := 151) d_X12_byTurns_94 rfl (fun c94 => ?_) (fun c94 => ?_)
                    · refine Tr.iconst (pc := 151) d_X12_byTurns_151 (by decide) ?_
                      refine Tr.istore (pc := 152) (i := 8) (ls2 := [(8, (0, 0)), (0, (2, 120)), (1, (0, a1)), (3, (0, a3)), (4, (0, a4)), (5, (1, r42)), (7, (0, p83_7))]) d_X12_byTurns_152 (by decide) rfl ?_
                      have J154 : ∀ (n154 : Nat) (M : Mem) (p154_8 : Int), St Tru ws_X12_byTurns_120_w1 as_X12_byTurns_120_w1 M0 M → (0 ≤ p154_8 ∧ p154_8 ≤ 256) → rd M 120 101 = u83_120_101 → rd M 120 85 = r1 → rd M 126 1 = g126_1 → rd M 129 1 = w21_129_1 → (256 - p154_8).toNat < n154 → Tr l K 4 mX12_byTurns 154 [(0, (2, 120)), (1, (0, a1)), (4, (0, a4)), (7, (0, p83_7)), (8, (0, p154_8))] [] M (q_X12_byTurns_120_w1 M0) := by
                        intro n154
                        induction n154 with
                        | zero => intro M p154_8 hS bp154_8 k154_120_101 k154_120_85 k154_126_1 k154_129_1 hm154; exact absurd hm154 (Nat.not_lt_zero _)
                        | succ n154 J154 =>
                          intro M p154_8 hS bp154_8 k154_120_101 k154_120_85 k154_126_1 k154_129_1 hm154
                          clear k83_120_101 k83_120_85 k83_126_1 k83_129_1
                          refine Tr.iload (pc := 154) (i := 8) d_X12_byTurns_154 rfl ?_
                          refine Tr.iconst (pc := 156) d_X12_byTurns_156 (by decide) ?_
                          refine Tr.aload_n (pc := 157) (i := 0) d_X12_byTurns_157 rfl rfl ?_
                          refine Tr.getf (pc := 158) d_X12_byTurns_158 f_12_318 (by decide) (by decide) (ty_120 hS.1.1) ?_
                          refine Tr.tp u83_120_101 k154_120_101 ?_
                          refine Tr.ishl (pc := 161) d_X12_byTurns_161 ?_
                          refine Tr.gen (P := fun v => 1 ≤ v ∧ v ≤ 256) (shl_8 (by omega) (by omega)) (fun r161 er161 br161 => ?_)
                          refine Tr.icmp_ge (pc := 162) (tgt := 185) d_X12_byTurns_162 rfl (fun c162 => ?_) (fun c162 => ?_)
                          · refine Tr.lconst (pc := 185) (v := 0) d_X12_byTurns_185 rfl (by decide) ?_
                            refine Tr.lstore (pc := 186) (i := 8) (ls2 := [(8, (1, 0)), (0, (2, 120)), (1, (0, a1)), (4, (0, a4)), (7, (0, p83_7))]) d_X12_byTurns_186 (by decide) rfl ?_
                            refine Tr.iconst (pc := 188) d_X12_byTurns_188 (by decide) ?_
                            refine Tr.istore (pc := 189) (i := 10) (ls2 := [(10, (0, 0)), (8, (1, 0)), (0, (2, 120)), (1, (0, a1)), (4, (0, a4)), (7, (0, p83_7))]) d_X12_byTurns_189 (by decide) rfl ?_
                            have J191 : ∀ (n191 : Nat) (M : Mem) (p191_8 p191_10 : Int), St Tru ws_X12_byTurns_120_w1 as_X12_byTurns_120_w1 M0 M → ((-9223372036854775808) ≤ p191_8 ∧ p191_8 ≤ 9223372036854775807) → (0 ≤ p191_10 ∧ p191_10 ≤ 256) → rd M 120 101 = u83_120_101 → rd M 120 85 = r1 → rd M 126 1 = g126_1 → rd M 129 1 = w21_129_1 → (256 - p191_10).toNat < n191 → Tr l K 4 mX12_byTurns 191 [(0, (2, 120)), (4, (0, a4)), (7, (0, p83_7)), (8, (1, p191_8)), (10, (0, p191_10))] [] M (q_X12_byTurns_120_w1 M0) := by
                              intro n191
                              induction n191 with
                              | zero => intro M p191_8 p191_10 hS bp191_8 bp191_10 k191_120_101 k191_120_85 k191_126_1 k191_129_1 hm191; exact absurd hm191 (Nat.not_lt_zero _)
                              | succ n191 J191 =>
                                intro M p191_8 p191_10 hS bp191_8 bp191_10 k191_120_101 k191_120_85 k191_126_1 k191_129_1 hm191
                                clear k154_120_101 k154_120_85 k154_126_1 k154_129_1 er161
                                refine Tr.iload (pc := 191) (i := 10) d_X12_byTurns_191 rfl ?_
                                refine Tr.iconst (pc := 193) d_X12_byTurns_193 (by decide) ?_
                                refine Tr.aload_n (pc := 194) (i := 0) d_X12_byTurns_194 rfl rfl ?_
                                refine Tr.getf (pc := 195) d_X12_byTurns_195 f_12_318 (by decide) (by decide) (ty_120 hS.1.1) ?_
                                refine Tr.tp u83_120_101 k191_120_101 ?_
                                refine Tr.ishl (pc := 198) d_X12_byTurns_198 ?_
                                refine Tr.gen (P := fun v => 1 ≤ v ∧ v ≤ 256) (shl_8 (by omega) (by omega)) (fun r198 er198 br198 => ?_)
                                refine Tr.icmp_ge (pc := 199) (tgt := 274) d_X12_byTurns_199 rfl (fun c199 => ?_) (fun c199 => ?_)
                                · refine Tr.aload_n (pc := 274) (i := 0) d_X12_byTurns_274 rfl rfl ?_
                                  refine Tr.getf (pc := 275) d_X12_byTurns_275 f_12_318 (by decide) (by decide) (ty_120 hS.1.1) ?_
                                  refine Tr.tp u83_120_101 k191_120_101 ?_
                                  refine Tr.callS (pc := 278) (as := [_]) d_X12_byTurns_278 s_12_674 ok_X12_orders rfl rfl (Nat.le_of_ble_eq_true rfl) (Nat.le_of_ble_eq_true rfl) ?_
                                  refine Tr.imp (Tr.deep (by decide) (sp_X12_orders hS.1 u83_120_101 (by and_intros <;> omega))) ?_
                                  rintro M278 _ ⟨h278, r278, rfl, lr278, ur278, wr278⟩
                                  have hS := St.tr hS h278 (by decide) (by decide)
                                  replace wr278 := hd_i wr278
                                  refine Tr.sc [(1, r278)] rfl ?_
                                  refine Tr.lstore (pc := 281) (i := 10) (ls2 := [(10, (1, r278)), (0, (2, 120)), (4, (0, a4)), (7, (0, p83_7)), (8, (1, p191_8))]) d_X12_byTurns_281 (by decide) rfl ?_
                                  refine Tr.lload (pc := 283) (i := 8) d_X12_byTurns_283 rfl ?_
                                  refine Tr.lload (pc := 285) (i := 10) d_X12_byTurns_285 rfl ?_
                                  refine Tr.callS (pc := 287) (as := [_, _]) d_X12_byTurns_287 s_12_677 ok_X12_common rfl rfl (Nat.le_of_ble_eq_true rfl) (Nat.le_of_ble_eq_true rfl) ?_
                                  refine Tr.imp (Tr.deep (by decide) (sp_X12_common hS.1 p191_8 (by omega) r278 (by omega))) ?_
                                  rintro M287 _ ⟨h287, r287, rfl, lr287, ur287, wr287⟩
                                  have hS := St.tr hS h287 (by decide) (by decide)
                                  replace wr287 := hd_i wr287
                                  refine Tr.sc [(1, r287)] rfl ?_
                                  refine Tr.lstore (pc := 290) (i := 12) (ls2 := [(12, (1, r287)), (10, (1, r278)), (0, (2, 120)), (4, (0, a4)), (7, (0, p83_7)), (8, (1, p191_8))]) d_X12_byTurns_290 (by decide) rfl ?_
                                  refine Tr.iload (pc := 292) (i := 4) d_X12_byTurns_292 rfl ?_
                                  refine Tr.if_eq (pc := 294) (tgt := 305) d_X12_byTurns_294 rfl (fun c294 => ?_) (fun c294 => ?_)
                                  · refine Tr.lload (pc := 305) (i := 10) d_X12_byTurns_305 rfl ?_
                                    refine Tr.lload (pc := 307) (i := 12) d_X12_byTurns_307 rfl ?_
                                    refine Tr.ldiv (pc := 309) d_X12_byTurns_309 (by exact (hd_o wr278).elim (fun h1 => by omega) (fun h1 => (hd_o wr287).elim (fun h2 => by omega) (fun h2 => (ne_o h2).elim (fun h3 => by omega) (fun h3 => by omega)))) ?_
                                    refine Tr.gen (P := fun v => (-9223372036854775808) ≤ v ∧ v ≤ 9223372036854775807) (w64_b _) (fun r309 er309 br309 => ?_)
                                    exact Tr.lret (pc := 310) d_X12_byTurns_310 rfl ⟨hS, _, rfl, (by omega), (by omega)⟩
                                  · have c294b : 1 ≤ a4 ∧ a4 ≤ 1 := by omega
                                    replace c294 := hd_i c294
                                    refine Tr.lload (pc := 297) (i := 8) d_X12_byTurns_297 rfl ?_
                                    refine Tr.lload (pc := 299) (i := 12) d_X12_byTurns_299 rfl ?_
                                    refine Tr.ldiv (pc := 301) d_X12_byTurns_301 (by exact (hd_o wr278).elim (fun h1 => by omega) (fun h1 => (hd_o wr287).elim (fun h2 => by omega) (fun h2 => (ne_o h2).elim (fun h3 => by omega) (fun h3 => by omega)))) ?_
                                    refine Tr.gen (P := fun v => (-9223372036854775808) ≤ v ∧ v ≤ 9223372036854775807) (w64_b _) (fun r301 er301 br301 => ?_)
                                    refine Tr.goto (pc := 302) (tgt := 310) d_X12_byTurns_302 rfl ?_
                                    exact Tr.lret (pc := 310) d_X12_byTurns_310 rfl ⟨hS, _, rfl, (by omega), (by omega)⟩
                                · refine Tr.iload (pc := 202) (i := 10) d_X12_byTurns_202 rfl ?_
                                  refine Tr.iload (pc := 204) (i := 7) d_X12_byTurns_204 rfl ?_
                                  refine Tr.ishr (pc := 206) d_X12_byTurns_206 ?_
                                  refine Tr.gen (P := fun v => (-2147483648) ≤ v ∧ v ≤ 2147483647) (i32_b _) (fun r206 er206 br206 => ?_)
                                  refine Tr.iconst (pc := 207) d_X12_byTurns_207 (by decide) ?_
                                  refine Tr.iand (pc := 208) d_X12_byTurns_208 ?_
                                  refine Tr.gen (P := fun v => 0 ≤ v ∧ v ≤ 1) (f_iand_m 1 (by decide +kernel) (by decide) (by decide +kernel)) (fun r208 er208 br208 => ?_)
                                  refine Tr.iconst (pc := 209) d_X12_byTurns_209 (by decide) ?_
                                  have J268 : ∀ (M : Mem) (p268_8 : Int), St Tru ws_X12_byTurns_120_w1 as_X12_byTurns_120_w1 M0 M → ((-9223372036854775808) ≤ p268_8 ∧ p268_8 ≤ 9223372036854775807) → rd M 120 101 = u83_120_101 → rd M 120 85 = r1 → rd M 126 1 = g126_1 → rd M 129 1 = w21_129_1 → Tr l K 4 mX12_byTurns 268 [(0, (2, 120)), (4, (0, a4)), (7, (0, p83_7)), (8, (1, p268_8)), (10, (0, p191_10))] [] M (q_X12_byTurns_120_w1 M0) := by
                                    intro M p268_8 hS bp268_8 k268_120_101 k268_120_85 k268_126_1 k268_129_1
                                    clear k191_120_101 k191_120_85 k191_126_1 k191_129_1 er198 er206 er208
                                    refine Tr.iincV (pc := 268) (n2 := (p191_10 + 1)) (ls2 := [(10, (0, (p191_10 + 1))), (0, (2, 120)), (4, (0, a4)), (7, (0, p83_7)), (8, (1, p268_8))]) d_X12_byTurns_268 rfl (by decide) ((w32_id (by and_intros <;> omega)).trans (by omega)) rfl ?_
                                    refine Tr.goto (pc := 271) (tgt := 191) d_X12_byTurns_271 rfl ?_
                                    refine Tr.pick [1, 2, 3, 4, 0] (ls2 := [(0, (2, 120)), (4, (0, a4)), (7, (0, p83_7)), (8, (1, p268_8)), (10, (0, (p191_10 + 1)))]) rfl ?_
                                    exact J191 _ _ _ hS (by omega) (by and_intros <;> omega) k268_120_101 k268_120_85 k268_126_1 k268_129_1 (me_lt hm191 (by omega) (by omega))
                                  refine Tr.icmp_ne (pc := 210) (tgt := 216) d_X12_byTurns_210 rfl (fun c210 => ?_) (fun c210 => ?_)
                                  · have c210b : 0 ≤ r208 ∧ r208 ≤ 0 := by omega
                                    replace c210 := hd_i c210
                                    refine Tr.iload (pc := 216) (i := 10) d_X12_byTurns_216 rfl ?_
                                    refine Tr.i2l (pc := 218) d_X12_byTurns_218 ?_
                                    refine Tr.callS (pc := 219) (as := [_]) d_X12_byTurns_219 s_12_653 ok_X12_bitsOf rfl rfl (Nat.le_of_ble_eq_true rfl) (Nat.le_of_ble_eq_true rfl) ?_
                                    refine Tr.imp (Tr.deep (by decide) (sp_X12_bitsOf hS.1 p191_10 (by omega))) ?_
                                    rintro M219 _ ⟨h219, r219, rfl, lr219, ur219, wr219⟩
                                    have hS := St.tr hS h219 (by decide) (by decide)
                                    have wr219d0 := hd_i wr219.2
                                    replace wr219 := And.intro wr219.1.1 (And.intro wr219.1.2.1  (wr219.1.2.2))
                                    refine Tr.sc [(0, r219)] rfl ?_
                                    refine Tr.istore (pc := 222) (i := 11) (ls2 := [(11, (0, r219)), (0, (2, 120)), (4, (0, a4)), (7, (0, p83_7)), (8, (1, p191_8)), (10, (0, p191_10))]) d_X12_byTurns_222 (by decide) rfl ?_
                                    refine Tr.lload (pc := 224) (i := 8) d_X12_byTurns_224 rfl ?_
                                    refine Tr.iload (pc := 226) (i := 11) d_X12_byTurns_226 rfl ?_
                                    refine Tr.callS (pc := 228) (as := [_]) d_X12_byTurns_228 s_12_674 ok_X12_orders rfl rfl (Nat.le_of_ble_eq_true rfl) (Nat.le_of_ble_eq_true rfl) ?_
                                    refine Tr.imp (Tr.deep (by decide) (sp_X12_orders hS.1 r219 (by and_intros <;> omega))) ?_
                                    rintro M228 _ ⟨h228, r228, rfl, lr228, ur228, wr228⟩
                                    have hS := St.tr hS h228 (by decide) (by decide)
                                    replace wr228 := hd_i wr228
                                    refine Tr.sc [(1, r228), (1, p191_8)] rfl ?_
                                    refine Tr.aload_n (pc := 231) (i := 0) d_X12_byTurns_231 rfl rfl ?_
                                    refine Tr.getf (pc := 232) d_X12_byTurns_232 f_12_318 (by decide) (by decide) (ty_120 hS.1.1) ?_
                                    refine Tr.tp u83_120_101 ((kp_X12_orders_120_101 h228).trans ((kp_X12_bitsOf_120_101 h219).trans k191_120_101)) ?_
                                    refine Tr.iload (pc := 235) (i := 11) d_X12_byTurns_235 rfl ?_
                                    refine Tr.isub (pc := 237) d_X12_byTurns_237 ?_
                                    refine Tr.tp (-r219 + u83_120_101) ((w32_id (by and_intros <;> omega)).trans (by omega)) ?_
                                    refine Tr.iconst (pc := 238) d_X12_byTurns_238 (by decide) ?_
                                    refine Tr.isub (pc := 239) d_X12_byTurns_239 ?_
                                    refine Tr.tp (-r219 + u83_120_101 - 1) ((w32_id (by and_intros <;> omega)).trans (by omega)) ?_
                                    refine Tr.callS (pc := 240) (as := [_]) d_X12_byTurns_240 s_12_674 ok_X12_orders rfl rfl (Nat.le_of_ble_eq_true rfl) (Nat.le_of_ble_eq_true rfl) ?_
                                    refine Tr.imp (Tr.deep (by decide) (sp_X12_orders hS.1 (-r219 + u83_120_101 - 1) (by and_intros <;> omega))) ?_
                                    rintro M240 _ ⟨h240, r240, rfl, lr240, ur240, wr240⟩
                                    have hS := St.tr hS h240 (by decide) (by decide)
                                    replace wr240 := hd_i wr240
                                    refine Tr.sc [(1, r240), (1, r228), (1, p191_8)] rfl ?_
                                    refine Tr.lmul (pc := 243) d_X12_byTurns_243 ?_
                                    refine Tr.gen (P := fun v => (-9223372036854775808) ≤ v ∧ v ≤ 9223372036854775807) (w64_b _) (fun r243 er243 br243 => ?_)
                                    refine Tr.aload_n (pc := 244) (i := 0) d_X12_byTurns_244 rfl rfl ?_
                                    refine Tr.getf (pc := 245) d_X12_byTurns_245 f_12_324 (by decide) (by decide) (ty_120 hS.1.1) ?_
                                    refine Tr.tp 178 (fx_120_103 hS.1.1) ?_
                                    refine Tr.iload (pc := 248) (i := 10) d_X12_byTurns_248 rfl ?_
                                    refine Tr.iconst (pc := 250) d_X12_byTurns_250 (by decide) ?_
                                    refine Tr.iload (pc := 251) (i := 7) d_X12_byTurns_251 rfl ?_
                                    refine Tr.ishl (pc := 253) d_X12_byTurns_253 ?_
                                    refine Tr.gen (P := fun v => 1 ≤ v ∧ v ≤ 128) (shl_7 (by omega) (by omega)) (fun r253 er253 br253 => ?_)
                                    refine Tr.ior (pc := 254) d_X12_byTurns_254 ?_
                                    refine Tr.gen (P := fun v => 0 ≤ v ∧ v ≤ 255) (ior_8 (by omega) (by omega)) (fun r254 er254 br254 => ?_)
                                    refine Tr.lald (pc := 255) d_X12_byTurns_255 (ty_178 hS.1.1) (by omega) (by omega) ?_
                                    refine Tr.gen (P := fun v => (-9223372036854775808) ≤ v ∧ v ≤ 9223372036854775807) (ar_178 hS.1.2.1 _) (fun r255 er255 br255 => ?_)
                                    refine Tr.aload_n (pc := 256) (i := 0) d_X12_byTurns_256 rfl rfl ?_
                                    refine Tr.getf (pc := 257) d_X12_byTurns_257 f_12_324 (by decide) (by decide) (ty_120 hS.1.1) ?_
                                    refine Tr.tp 178 (fx_120_103 hS.1.1) ?_
                                    refine Tr.iload (pc := 260) (i := 10) d_X12_byTurns_260 rfl ?_
                                    refine Tr.lald (pc := 262) d_X12_byTurns_262 (ty_178 hS.1.1) (by omega) (by omega) ?_
                                    refine Tr.gen (P := fun v => (-9223372036854775808) ≤ v ∧ v ≤ 9223372036854775807) (ar_178 hS.1.2.1 _) (fun r262 er262 br262 => ?_)
                                    refine Tr.lsub (pc := 263) d_X12_byTurns_263 ?_
                                    refine Tr.gen (P := fun v => (-9223372036854775808) ≤ v ∧ v ≤ 9223372036854775807) (w64_b _) (fun r263 er263 br263 => ?_)
                                    refine Tr.lmul (pc := 264) d_X12_byTurns_264 ?_
                                    refine Tr.gen (P := fun v => (-9223372036854775808) ≤ v ∧ v ≤ 9223372036854775807) (w64_b _) (fun r264 er264 br264 => ?_)
                                    refine Tr.ladd (pc := 265) d_X12_byTurns_265 ?_
                                    refine Tr.gen (P := fun v => (-9223372036854775808) ≤ v ∧ v ≤ 9223372036854775807) (w64_b _) (fun r265 er265 br265 => ?_)
                                    refine Tr.lstore (pc := 266) (i := 8) (ls2 := [(8, (1, r265)), (11, (0, r219)), (0, (2, 120)), (4, (0, a4)), (7, (0, p83_7)), (10, (0, p191_10))]) d_X12_byTurns_266 (by decide) rfl ?_
                                    refine Tr.pick [2, 3, 4, 0, 5] (ls2 := [(0, (2, 120)), (4, (0, a4)), (7, (0, p83_7)), (8, (1, r265)), (10, (0, p191_10))]) rfl ?_
                                    exact J268 _ _ hS (by omega) ((kp_X12_orders_120_101 h240).trans ((kp_X12_orders_120_101 h228).trans ((kp_X12_bitsOf_120_101 h219).trans k191_120_101))) ((kp_X12_orders_120_85 h240).trans ((kp_X12_orders_120_85 h228).trans ((kp_X12_bitsOf_120_85 h219).trans k191_120_85))) ((kp_X12_orders_126_1 h240).trans ((kp_X12_orders_126_1 h228).trans ((kp_X12_bitsOf_126_1 h219).trans k191_126_1))) ((kp_X12_orders_129_1 h240).trans ((kp_X12_orders_129_1 h228).trans ((kp_X12_bitsOf_129_1 h219).trans k191_129_1)))
                                  · refine Tr.goto (pc := 213) (tgt := 268) d_X12_byTurns_213 rfl ?_
                                    refine Tr.pick [0, 1, 2, 3, 4] (ls2 := [(0, (2, 120)), (4, (0, a4)), (7, (0, p83_7)), (8, (1, p191_8)), (10, (0, p191_10))]) rfl ?_
                                    exact J268 _ _ hS (by omega) k191_120_101 k191_120_85 k191_126_1 k191_129_1
                            refine Tr.pick [2, 4, 5, 1, 0] (ls2 := [(0, (2, 120)), (4, (0, a4)), (7, (0, p83_7)), (8, (1, 0)), (10, (0, 0))]) rfl ?_
                            exact J191 _ _ _ _ hS (by omega) (by omega) k154_120_101 k154_120_85 k154_126_1 k154_129_1 (Nat.lt_succ_self _)
                          · refine Tr.aload_n (pc := 165) (i := 0) d_X12_byTurns_165 rfl rfl ?_
                            refine Tr.getf (pc := 166) d_X12_byTurns_166 f_12_324 (by decide) (by decide) (ty_120 hS.1.1) ?_
                            refine Tr.tp 178 (fx_120_103 hS.1.1) ?_
                            refine Tr.iload (pc := 169) (i := 8) d_X12_byTurns_169 rfl ?_
                            refine Tr.aload_n (pc := 171) (i := 0) d_X12_byTurns_171 rfl rfl ?_
                            refine Tr.iload_n (pc := 172) (i := 1) d_X12_byTurns_172 rfl rfl ?_
                            refine Tr.iload (pc := 173) (i := 8) d_X12_byTurns_173 rfl ?_
                            refine Tr.callV (pc := 175) (as := [_, _]) d_X12_byTurns_175 s_12_671 ok_X12_costOf rfl rfl (Nat.le_of_ble_eq_true rfl) (Nat.le_of_ble_eq_true rfl) (by decide) (ty_120 hS.1.1) ?_
                            refine Tr.imp (Tr.deep (by decide) (sp_X12_costOf_120_w1 hS.1 ((kp_X12_byTurns_120_w1_120_12 hS).trans en_120_12) a1 (by exact (hd_o z9_0).elim (fun h1 => by omega) (fun h1 => by omega)) p154_8 (by and_intros <;> omega) (Bk1.of hF_Bk1 (fun j => (ka_X12_byTurns_120_w1_131 hS _)) (fun j => (ka_X12_byTurns_120_w1_137 hS _)) (fun j => (ka_X12_byTurns_120_w1_138 hS _)) (fun j => (ka_X12_byTurns_120_w1_139 hS _)) (fun j => (ka_X12_byTurns_120_w1_140 hS _)) (fun j => (ka_X12_byTurns_120_w1_141 hS _)) (fun j => (ka_X12_byTurns_120_w1_142 hS _)) (fun j => (ka_X12_byTurns_120_w1_143 hS _)) (kp_X12_byTurns_120_w1_126_1 hS) (kp_X12_byTurns_120_w1_136_1 hS) (kp_X12_byTurns_120_w1_123_1 hS) (kp_X12_byTurns_120_w1_124_1 hS)))) ?_
                            rintro M175 _ ⟨h175, r175, rfl, lr175, ur175⟩
                            have hS := St.tr hS h175 (by decide) (by decide)
                            refine Tr.sc [(1, r175), (0, p154_8), (2, 178)] rfl ?_
                            refine Tr.lastS (pc := 178) (P := St Tru ws_X12_byTurns_120_w1 as_X12_byTurns_120_w1 M0) d_X12_byTurns_178 (ty_178 hS.1.1) (by omega) (by omega) (sa_178 hS (by decide) (by omega) trivial) (fun M178 hS w178 => ?_)
                            refine Tr.iincV (pc := 179) (n2 := (p154_8 + 1)) (ls2 := [(8, (0, (p154_8 + 1))), (0, (2, 120)), (1, (0, a1)), (4, (0, a4)), (7, (0, p83_7))]) d_X12_byTurns_179 rfl (by decide) ((w32_id (by and_intros <;> omega)).trans (by omega)) rfl ?_
                            refine Tr.goto (pc := 182) (tgt := 154) d_X12_byTurns_182 rfl ?_
                            refine Tr.pick [1, 2, 3, 4, 0] (ls2 := [(0, (2, 120)), (1, (0, a1)), (4, (0, a4)), (7, (0, p83_7)), (8, (0, (p154_8 + 1)))]) rfl ?_
                            exact J154 _ _ hS (by and_intros <;> omega) ((Wr.b w178 rfl).trans ((kp_X12_costOf_120_w1_120_101 h175).trans k154_120_101)) ((Wr.b w178 rfl).trans ((kp_X12_costOf_120_w1_120_85 h175).trans k154_120_85)) ((Wr.b w178 rfl).trans ((kp_X12_costOf_120_w1_126_1 h175).trans k154_126_1)) ((Wr.b w178 rfl).trans ((kp_X12_costOf_120_w1_129_1 h175).trans k154_129_1)) (me_lt hm154 (by omega) (by omega))
                      refine Tr.pick [1, 2, 4, 6, 0] (ls2 := [(0, (2, 120)), (1, (0, a1)), (4, (0, a4)), (7, (0, p83_7)), (8, (0, 0))]) rfl ?_
                      exact J154 _ _ _ hS (by omega) k83_120_101 k83_120_85 k83_126_1 k83_129_1 (Nat.lt_succ_self _)
                    · refine Tr.lload (pc := 97) (i := 5) d_X12_byTurns_97 rfl ?_
                      refine Tr.iload (pc := 99) (i := 8) d_X12_byTurns_99 rfl ?_
                      refine Tr.lshr (pc := 101) d_X12_byTurns_101 ?_
                      refine Tr.gen (P := fun v => ((-9223372036854775808) ≤ v ∧ v ≤ 9223372036854775807) ∧ (r42 ≠ 0 ∨ v = 0)) (lshr_z _ _) (fun r101 er101 br101 => ?_)
                      have br101d0 := hd_i br101.2
                      replace br101 := And.intro br101.1.1  (br101.1.2)
                      refine Tr.lconst (pc := 102) (v := 1) d_X12_byTurns_102 rfl (by decide) ?_
                      refine Tr.land (pc := 103) d_X12_byTurns_103 ?_
                      refine Tr.gen (P := fun v => (0 ≤ v ∧ v ≤ 1) ∧ tpS r42 p83_8 = v + tpS r42 (p83_8 + 1) ∧ 0 ≤ tpS r42 (p83_8 + 1)) (tpS_l er101 (by omega) (by omega)) (fun r103 er103 br103 => ?_)
                      refine Tr.lconst (pc := 104) (v := 0) d_X12_byTurns_104 rfl (by decide) ?_
                      refine Tr.lcmp (pc := 105) d_X12_byTurns_105 ?_
                      refine Tr.gen (P := fun v => (v = 1 ∧ 0 < r103) ∨ (v = 0 ∧ r103 = 0) ∨ (v = -1 ∧ r103 < 0)) (f_lcmp_c _ _) (fun r105 er105 br105 => ?_)
                      replace br105 := hd_i br105
                      have J145 : ∀ (M : Mem) (p145_7 u145_120_101 : Int), St Tru ws_X12_byTurns_120_w1 as_X12_byTurns_120_w1 M0 M → (0 ≤ p145_7 ∧ p145_7 ≤ 8) → (0 ≤ u145_120_101 ∧ u145_120_101 ≤ 8) → rd M 120 101 = u145_120_101 → rd M 120 85 = r1 → rd M 126 1 = g126_1 → rd M 129 1 = w21_129_1 → (u145_120_101 + tpS r42 (p83_8 + 1) ≤ 8) → (0 ≤ p145_7 ∧ p145_7 ≤ 7) → Tr l K 4 mX12_byTurns 145 [(0, (2, 120)), (1, (0, a1)), (3, (0, a3)), (4, (0, a4)), (5, (1, r42)), (7, (0, p145_7)), (8, (0, p83_8))] [] M (q_X12_byTurns_120_w1 M0) := by
                        intro M p145_7 u145_120_101 hS bp145_7 bu145_120_101 k145_120_101 k145_120_85 k145_126_1 k145_129_1 t145_0 t145_1
                        clear k83_120_101 k83_120_85 k83_126_1 k83_129_1 er101 er103 er105
                        refine Tr.iincV (pc := 145) (n2 := (p83_8 + 1)) (ls2 := [(8, (0, (p83_8 + 1))), (0, (2, 120)), (1, (0, a1)), (3, (0, a3)), (4, (0, a4)), (5, (1, r42)), (7, (0, p145_7))]) d_X12_byTurns_145 rfl (by decide) ((w32_id (by and_intros <;> omega)).trans (by omega)) rfl ?_
                        refine Tr.goto (pc := 148) (tgt := 83) d_X12_byTurns_148 rfl ?_
                        refine Tr.pick [1, 2, 3, 4, 5, 6, 0] (ls2 := [(0, (2, 120)), (1, (0, a1)), (3, (0, a3)), (4, (0, a4)), (5, (1, r42)), (7, (0, p145_7)), (8, (0, (p83_8 + 1)))]) rfl ?_
                        exact J83 _ _ _ _ hS (by and_intros <;> omega) (by and_intros <;> omega) (by and_intros <;> omega) k145_120_101 k145_120_85 k145_126_1 k145_129_1 (by omega) (by and_intros <;> omega) (me_lt hm83 (by omega) (by omega))
                      refine Tr.if_ne (pc := 106) (tgt := 112) d_X12_byTurns_106 rfl (fun c106 => ?_) (fun c106 => ?_)
                      · replace c106 := hd_i c106
                        refine Tr.iload (pc := 112) (i := 8) d_X12_byTurns_112 rfl ?_
                        refine Tr.iload_n (pc := 114) (i := 3) d_X12_byTurns_114 rfl rfl ?_
                        have J124 : ∀ (M : Mem) (p124_7 : Int), St Tru ws_X12_byTurns_120_w1 as_X12_byTurns_120_w1 M0 M → (0 ≤ p124_7 ∧ p124_7 ≤ 8) → rd M 120 101 = u83_120_101 → rd M 120 85 = r1 → rd M 126 1 = g126_1 → rd M 129 1 = w21_129_1 → (u83_120_101 + 1 + tpS r42 (p83_8 + 1) ≤ 8) → (0 ≤ p124_7 ∧ p124_7 ≤ 7) → Tr l K 4 mX12_byTurns 124 [(0, (2, 120)), (1, (0, a1)), (3, (0, a3)), (4, (0, a4)), (5, (1, r42)), (7, (0, p124_7)), (8, (0, p83_8))] [] M (q_X12_byTurns_120_w1 M0) := by
                          intro M p124_7 hS bp124_7 k124_120_101 k124_120_85 k124_126_1 k124_129_1 t124_0 t124_1
                          clear k83_120_101 k83_120_85 k83_126_1 k83_129_1 er101 er103 er105
                          refine Tr.aload_n (pc := 124) (i := 0) d_X12_byTurns_124 rfl rfl ?_
                          refine Tr.getf (pc := 125) d_X12_byTurns_125 f_12_315 (by decide) (by decide) (ty_120 hS.1.1) ?_
                          refine Tr.tp 176 (fx_120_100 hS.1.1) ?_
                          refine Tr.aload_n (pc := 128) (i := 0) d_X12_byTurns_128 rfl rfl ?_
                          refine Tr.getf (pc := 129) d_X12_byTurns_129 f_12_318 (by decide) (by decide) (ty_120 hS.1.1) ?_
                          refine Tr.tp u83_120_101 k124_120_101 ?_
                          refine Tr.iload (pc := 132) (i := 8) d_X12_byTurns_132 rfl ?_
                          refine Tr.iastS (pc := 134) (P := St Tru ws_X12_byTurns_120_w1 as_X12_byTurns_120_w1 M0) d_X12_byTurns_134 (ty_176 hS.1.1) (by omega) (by omega) (sa_176 hS (by decide) (by and_intros <;> omega) trivial) (fun M134 hS w134 => ?_)
                          refine Tr.aload_n (pc := 135) (i := 0) d_X12_byTurns_135 rfl rfl ?_
                          refine Tr.dup (pc := 136) d_X12_byTurns_136 ne21 ?_
                          refine Tr.getf (pc := 137) d_X12_byTurns_137 f_12_318 (by decide) (by decide) (ty_120 hS.1.1) ?_
                          refine Tr.tp u83_120_101 ((Wr.b w134 rfl).trans k124_120_101) ?_
                          refine Tr.iconst (pc := 140) d_X12_byTurns_140 (by decide) ?_
                          refine Tr.iadd (pc := 141) d_X12_byTurns_141 ?_
                          refine Tr.tp (u83_120_101 + 1) ((w32_id (by and_intros <;> omega)).trans (by omega)) ?_
                          refine Tr.putfS (pc := 142) (P := St Tru ws_X12_byTurns_120_w1 as_X12_byTurns_120_w1 M0) d_X12_byTurns_142 f_12_318 (by decide) (by decide) (ty_120 hS.1.1) (st_120_101 hS (by decide) (by and_intros <;> omega) trivial) (fun M142 hS w142 => ?_)
                          refine Tr.pick [0, 1, 2, 3, 4, 5, 6] (ls2 := [(0, (2, 120)), (1, (0, a1)), (3, (0, a3)), (4, (0, a4)), (5, (1, r42)), (7, (0, p124_7)), (8, (0, p83_8))]) rfl ?_
                          exact J145 _ _ _ hS (by and_intros <;> omega) (by and_intros <;> omega) w142.1 ((Wr.b w142 rfl).trans ((Wr.b w134 rfl).trans k124_120_85)) ((Wr.b w142 rfl).trans ((Wr.b w134 rfl).trans k124_126_1)) ((Wr.b w142 rfl).trans ((Wr.b w134 rfl).trans k124_129_1)) (by omega) (by and_intros <;> omega)
                        refine Tr.icmp_ne (pc := 115) (tgt := 124) d_X12_byTurns_115 rfl (fun c115 => ?_) (fun c115 => ?_)
                        · replace c115 := hd_i c115
                          refine Tr.pick [0, 1, 2, 3, 4, 5, 6] (ls2 := [(0, (2, 120)), (1, (0, a1)), (3, (0, a3)), (4, (0, a4)), (5, (1, r42)), (7, (0, p83_7)), (8, (0, p83_8))]) rfl ?_
                          exact J124 _ _ hS (by and_intros <;> omega) k83_120_101 k83_120_85 k83_126_1 k83_129_1 (by exact (ne_o (hd_o c106)).elim (fun h1 => (hd_o br105).elim (fun h2 => by omega) (fun h2 => h2.elim (fun h2 => by omega) (fun h2 => by omega))) (fun h1 => (hd_o br105).elim (fun h2 => by omega) (fun h2 => h2.elim (fun h2 => by omega) (fun h2 => by omega)))) (by and_intros <;> omega)
                        · refine Tr.aload_n (pc := 118) (i := 0) d_X12_byTurns_118 rfl rfl ?_
                          refine Tr.getf (pc := 119) d_X12_byTurns_119 f_12_318 (by decide) (by decide) (ty_120 hS.1.1) ?_
                          refine Tr.tp u83_120_101 k83_120_101 ?_
                          refine Tr.istore (pc := 122) (i := 7) (ls2 := [(7, (0, u83_120_101)), (0, (2, 120)), (1, (0, a1)), (3, (0, a3)), (4, (0, a4)), (5, (1, r42)), (8, (0, p83_8))]) d_X12_byTurns_122 (by decide) rfl ?_
                          refine Tr.pick [1, 2, 3, 4, 5, 0, 6] (ls2 := [(0, (2, 120)), (1, (0, a1)), (3, (0, a3)), (4, (0, a4)), (5, (1, r42)), (7, (0, u83_120_101)), (8, (0, p83_8))]) rfl ?_
                          exact J124 _ _ hS (by and_intros <;> omega) k83_120_101 k83_120_85 k83_126_1 k83_129_1 (by exact (ne_o (hd_o c106)).elim (fun h1 => (hd_o br105).elim (fun h2 => by omega) (fun h2 => h2.elim (fun h2 => by omega) (fun h2 => by omega))) (fun h1 => (hd_o br105).elim (fun h2 => by omega) (fun h2 => h2.elim (fun h2 => by omega) (fun h2 => by omega)))) (by exact (ne_o (hd_o c106)).elim (fun h1 => (hd_o br105).elim (fun h2 => by omega) (fun h2 => h2.elim (fun h2 => by omega) (fun h2 => by omega))) (fun h1 => (hd_o br105).elim (fun h2 => by omega) (fun h2 => h2.elim (fun h2 => by omega) (fun h2 => by omega))))
                      · refine Tr.goto (pc := 109) (tgt := 145) d_X12_byTurns_109 rfl ?_
                        refine Tr.pick [0, 1, 2, 3, 4, 5, 6] (ls2 := [(0, (2, 120)), (1, (0, a1)), (3, (0, a3)), (4, (0, a4)), (5, (1, r42)), (7, (0, p83_7)), (8, (0, p83_8))]) rfl ?_
                        exact J145 _ _ _ hS (by and_intros <;> omega) (by and_intros <;> omega) k83_120_101 k83_120_85 k83_126_1 k83_129_1 (by omega) (by and_intros <;> omega)
                refine Tr.pick [3, 4, 6, 7, 2, 1, 0] (ls2 := [(0, (2, 120)), (1, (0, a1)), (3, (0, a3)), (4, (0, a4)), (5, (1, r42)), (7, (0, 0)), (8, (0, 0))]) rfl ?_
                have jt := tpS_0 r42
                exact J83 _ _ _ _ _ hS (by omega) (by omega) (by omega) w74.1 ((Wr.b w74 rfl).trans ((kp_X12_bitsOf_120_85 h49).trans ((kp_X12_linesIn_120_120_85 h42).trans ((kp_X12_finds_120_120_85 h30).trans ((kp_X12_isLine_120_w1_120_85 h21).trans ((kp_X12_isPart_120_w1_120_85 h9).trans er1)))))) ((Wr.b w74 rfl).trans ((kp_X12_bitsOf_126_1 h49).trans ((kp_X12_linesIn_120_126_1 h42).trans ((kp_X12_finds_120_126_1 h30).trans ((kp_X12_isLine_120_w1_126_1 h21).trans ((kp_X12_isPart_120_w1_126_1 h9).trans eg126_1)))))) ((Wr.b w74 rfl).trans ((kp_X12_bitsOf_129_1 h49).trans ((kp_X12_linesIn_120_129_1 h42).trans ((kp_X12_finds_120_129_1 h30).trans ((kp_X12_isLine_120_w1_129_1 h21).trans ew21_129_1))))) (by omega) (by and_intros <;> omega) (Nat.lt_succ_self _)
              · refine Tr.ldc2 (pc := 68) d_X12_byTurns_68 kl_12_669 (by decide) ?_
                exact Tr.lret (pc := 71) d_X12_byTurns_71 rfl ⟨hS, _, rfl, by omega, by omega⟩
          · refine Tr.ldc2 (pc := 36) d_X12_byTurns_36 kl_12_669 (by decide) ?_
            exact Tr.lret (pc := 39) d_X12_byTurns_39 rfl ⟨hS, _, rfl, by omega, by omega⟩
end
/-! 42k.turns -/
section
/-! turns: what byTurns needs of the users of a STRETCH -/
def bt (b l : Int) : Prop := u64 b / 2 ^ l.toNat % 2 = 1
theorem bt_of {b l r : Int} (h : f_lshr b l = r) (l0 : 0 ≤ l) (l1 : l < 64) (hn : f_land r 1 ≠ 0) : bt b l := by
  have h1 := tpS_l h l0 l1
  have h2 := tpS_s b l0
  unfold bt
  omega
/-- how many of a's bits are below l -/
def rk (a l : Int) : Nat := popN l.toNat (u64 a)
theorem shl_t : ∀ k : Fin 60, f_lshl 1 (k.val : Int) = ((2 ^ k.val : Nat) : Int) := by decide +kernel
theorem rk_v {a l : Int} (h : 0 ≤ l ∧ l ≤ 59) : pop (f_land a (w64 (f_lshl 1 l - 1))) = rk a l := by
  obtain ⟨k, rfl⟩ : ∃ k : Nat, l = k := ⟨l.toNat, by omega⟩
  have e0 : f_lshl 1 (k : Int) = ((2 ^ k : Nat) : Int) := shl_t ⟨k, by omega⟩
  have p0 : 0 < 2 ^ k := Nat.two_pow_pos k
  have p1 : 2 ^ k ≤ 2 ^ 59 := Nat.pow_le_pow_right (by decide) (by omega)
  have e1 : (((2 ^ k : Nat) : Int) - 1) = ((2 ^ k - 1 : Nat) : Int) := by omega
  unfold pop rk
  rw [e0, u64_land, u64_w, e1, u64_c (by omega), Nat.and_two_pow_sub_one_eq_mod, Int.toNat_natCast]
  have s := popN_split k (64 - k) (u64 a % 2 ^ k)
  rw [show k + (64 - k) = 64 by omega, popN_mod, Nat.div_eq_of_lt (Nat.mod_lt _ p0), popN_zero, Nat.add_zero] at s
  exact s
theorem rk_lt {a l : Int} (hb : bt a l) (h : 0 ≤ l ∧ l ≤ 59) : rk a l + 1 ≤ pop a := by
  obtain ⟨k, rfl⟩ : ∃ k : Nat, l = k := ⟨l.toNat, by omega⟩
  unfold bt at hb
  unfold rk pop
  rw [Int.toNat_natCast] at *
  have s := popN_split k (64 - k) (u64 a)
  rw [show k + (64 - k) = 64 by omega] at s
  have s2 : popN (64 - k) (u64 a / 2 ^ k) = u64 a / 2 ^ k % 2 + popN (63 - k) (u64 a / 2 ^ k / 2) := by
    rw [show 64 - k = (63 - k) + 1 by omega]
    rfl
  omega
theorem ish_t : ∀ k : Fin 9, f_ishl 1 (k.val : Int) = ((2 ^ k.val : Nat) : Int) := by decide +kernel
theorem ish_b {m : Int} (h : 1 ≤ m ∧ m ≤ 8) : 2 ≤ f_ishl 1 m ∧ f_ishl 1 m ≤ 256 := by
  obtain rfl | rfl | rfl | rfl | rfl | rfl | rfl | rfl : m = 1 ∨ m = 2 ∨ m = 3 ∨ m = 4 ∨ m = 5 ∨ m = 6 ∨ m = 7 ∨ m = 8 := by omega
  all_goals decide +kernel
theorem sh_tab : ∀ k : Fin 9, ∀ p : Fin 8, ∀ s : Fin 256, p.val < k.val → s.val < 2 ^ k.val → f_iand (s.val : Int) (f_ishl 1 (p.val : Int)) = 0 → ((pop (s.val : Int) + 1 ≤ k.val) ∧ (0 ≤ f_ior (s.val : Int) (f_ishl 1 (p.val : Int)) ∧ f_ior (s.val : Int) (f_ishl 1 (p.val : Int)) ≤ 255)) := by decide +kernel
theorem sh_t {m s p b : Int} (hm : 1 ≤ m ∧ m ≤ 8) (hp : 0 ≤ p ∧ p < m) (hb : b = f_ishl 1 p) (hs : 0 ≤ s ∧ s < f_ishl 1 m) (hz : f_iand s b = 0) : (pop s : Int) + 1 ≤ m ∧ (0 ≤ f_ior s b ∧ f_ior s b ≤ 255) := by
  subst hb
  have h256 := (ish_b hm).2
  obtain ⟨k, rfl⟩ : ∃ k : Nat, m = k := ⟨m.toNat, by omega⟩
  obtain ⟨q, rfl⟩ : ∃ q : Nat, p = q := ⟨p.toNat, by omega⟩
  obtain ⟨n, rfl⟩ : ∃ n : Nat, s = n := ⟨s.toNat, by omega⟩
  have e : f_ishl 1 (k : Int) = ((2 ^ k : Nat) : Int) := ish_t ⟨k, by omega⟩
  rw [e] at hs h256
  have h := sh_tab ⟨k, by omega⟩ ⟨q, by omega⟩ ⟨n, by omega⟩ (show q < k by omega) (show n < 2 ^ k by omega) hz
  have h1 : pop (n : Int) + 1 ≤ k := h.1
  exact ⟨by omega, h.2⟩
section
variable {q : Mem → Prop} {ws : List (Int × Int)} {as : List Int} {M0 M M' : Mem}
/-- the users that were weighed are those of the STRETCH that was weighed -/
def TW (M : Mem) : Prop := rd M 100 3 = -1 ∨ rd M 100 2 = rd M (rd M 63 5) (rd M 100 3)
def TU (M : Mem) (a : Int) : Prop := rd M 100 2 = rd M (rd M 63 5) a ∧ (rd M 63 5 = 68 ∨ 191 ≤ rd M 63 5)
theorem tl_u (h : St q ws as M0 M) : rd M 63 5 = 68 ∨ 191 ≤ rd M 63 5 := by
  rw [tl_ref h rfl (j := 5) (by decide)]
  rcases tl_b h rfl with e | e | e | e | e | e | e <;> rw [e] <;> decide
theorem TU.of1 (h : St q ws as M0 M) (hw : TW M) {a : Int} (ha : rd M 100 3 = a) (h0 : 0 ≤ a) : TU M a := by
  refine ⟨?_, tl_u h⟩
  rcases hw with c | c
  · omega
  · rw [c, ha]
theorem TU.new {a v : Int} (hs : St q ws as M0 M') (w : Wr M 100 2 v M') (e : rd M (rd M 63 5) a = v) : TU M' a := by
  have ht := tl_u hs
  have e5 : rd M' 63 5 = rd M 63 5 := Wr.b w rfl
  refine ⟨?_, ht⟩
  rw [e5] at ht ⊢
  rw [w.1, Wr.n w (y := rd M 63 5) (by omega), e]
def chk (ws : List (Int × Int)) (as : List Int) : Bool := as.all (fun x => decide (x ≠ 63 ∧ x ≠ 68 ∧ x ≠ 191)) && ws.all (fun c => decide (c.1 ≠ 68 ∧ c ≠ (63, 5)))
def chT (ws : List (Int × Int)) (as : List Int) : Bool := chk ws as && (as.all (fun x => decide (x ≠ 100)) && ws.all (fun c => decide (c ≠ (100, 2) ∧ c ≠ (100, 3))))
theorem chk_a (hc : chk ws as = true) : (∀ x ∈ as, x ≠ 63 ∧ x ≠ 68 ∧ x ≠ 191) ∧ ∀ c ∈ ws, c.1 ≠ 68 ∧ c ≠ (63, 5) := by
  unfold chk at hc
  rw [Bool.and_eq_true] at hc
  exact ⟨fun x hx => of_decide_eq_true (List.all_eq_true.mp hc.1 x hx), fun c hx => of_decide_eq_true (List.all_eq_true.mp hc.2 c hx)⟩
theorem chT_a (hc : chT ws as = true) : chk ws as = true ∧ (∀ x ∈ as, x ≠ 100) ∧ ∀ c ∈ ws, c ≠ (100, 2) ∧ c ≠ (100, 3) := by
  unfold chT at hc
  rw [Bool.and_eq_true, Bool.and_eq_true] at hc
  exact ⟨hc.1, fun x hx => of_decide_eq_true (List.all_eq_true.mp hc.2.1 x hx), fun c hx => of_decide_eq_true (List.all_eq_true.mp hc.2.2 c hx)⟩
theorem St.u5 (hs : St q ws as M M') (hc : chk ws as = true) : rd M' 63 5 = rd M 63 5 :=
  St.kp hs (by decide) (fun c => ((chk_a hc).1 _ c).1 rfl) (fun c => ((chk_a hc).2 _ c).2 rfl)
theorem St.ud (hs : St q ws as M M') (hc : chk ws as = true) (a : Int) : rd M' (rd M' 63 5) a = rd M (rd M 63 5) a := by
  have ht := tl_u hs
  rw [St.u5 hs hc] at ht ⊢
  rcases ht with c | c
  · rw [c]
    exact St.kp hs (by decide) (fun d => ((chk_a hc).1 _ d).2.1 rfl) (fun d => ((chk_a hc).2 _ d).1 rfl)
  · exact hs.2.2 (fun d => ((chk_a hc).1 _ d).2.2 rfl) _ _ c
theorem St.u2 (hs : St q ws as M M') (hc : chT ws as = true) : rd M' 100 2 = rd M 100 2 ∧ rd M' 100 3 = rd M 100 3 :=
  ⟨St.kp hs (by decide) (fun d => (chT_a hc).2.1 _ d rfl) (fun d => ((chT_a hc).2.2 _ d).1 rfl), St.kp hs (by decide) (fun d => (chT_a hc).2.1 _ d rfl) (fun d => ((chT_a hc).2.2 _ d).2 rfl)⟩
theorem TU.st {a : Int} (h : TU M a) (hs : St q ws as M M') (hc : chT ws as = true) : TU M' a :=
  ⟨(St.u2 hs hc).1.trans (h.1.trans (St.ud hs (chT_a hc).1 a).symm), tl_u hs⟩
theorem TU.wa {a x : Int} (h : TU M a) (w : Wa M x M') (hx : x < 191 ∧ x ≠ 63 ∧ x ≠ 68 ∧ x ≠ 100) : TU M' a := by
  have e5 : rd M' 63 5 = rd M 63 5 := Wa.n w (by omega)
  refine ⟨?_, by rw [e5]; exact h.2⟩
  rw [e5, Wa.n w (y := 100) (by omega), Wa.n w (y := rd M 63 5) (by have := h.2; omega)]
  exact h.1
theorem TW.st (h : TW M) (hs : St q ws as M M') (hc : chT ws as = true) : TW M' := by
  rcases h with c | c
  · exact Or.inl ((St.u2 hs hc).2.trans c)
  · refine Or.inr ?_
    rw [(St.u2 hs hc).1, (St.u2 hs hc).2, St.ud hs (chT_a hc).1]
    exact c
end
end
/-! 42w.00 -/
section
theorem d_X11_byTurns_13 : decode mX11_byTurns.2.2.1 13 = .ok (.aload_n 0, 1) := by decide +kernel
theorem d_X11_byTurns_14 : decode mX11_byTurns.2.2.1 14 = .ok (.iload_n 3, 1) := by decide +kernel
theorem d_X11_byTurns_15 : decode mX11_byTurns.2.2.1 15 = .ok (.invokevirtual 191, 3) := by decide +kernel
theorem d_X11_byTurns_18 : decode mX11_byTurns.2.2.1 18 = .ok (.ifCond .ne 7, 3) := by decide +kernel
theorem d_X11_byTurns_25 : decode mX11_byTurns.2.2.1 25 = .ok (.aload_n 0, 1) := by decide +kernel
theorem d_X11_byTurns_26 : decode mX11_byTurns.2.2.1 26 = .ok (.getfield 46, 3) := by decide +kernel
theorem d_X11_byTurns_29 : decode mX11_byTurns.2.2.1 29 = .ok (.getfield 178, 3) := by decide +kernel
theorem d_X11_byTurns_32 : decode mX11_byTurns.2.2.1 32 = .ok (.getfield 201, 3) := by decide +kernel
theorem d_X11_byTurns_35 : decode mX11_byTurns.2.2.1 35 = .ok (.getfield 226, 3) := by decide +kernel
theorem d_X11_byTurns_38 : decode mX11_byTurns.2.2.1 38 = .ok (.iload 5, 2) := by decide +kernel
theorem d_X11_byTurns_40 : decode mX11_byTurns.2.2.1 40 = .ok (.laload, 1) := by decide +kernel
theorem d_X11_byTurns_41 : decode mX11_byTurns.2.2.1 41 = .ok (.lstore 6, 2) := by decide +kernel
theorem d_X11_byTurns_43 : decode mX11_byTurns.2.2.1 43 = .ok (.lload 6, 2) := by decide +kernel
theorem d_X11_byTurns_45 : decode mX11_byTurns.2.2.1 45 = .ok (.iload_n 3, 1) := by decide +kernel
theorem d_X11_byTurns_46 : decode mX11_byTurns.2.2.1 46 = .ok (.lshr, 1) := by decide +kernel
theorem d_X11_byTurns_47 : decode mX11_byTurns.2.2.1 47 = .ok (.lconst 1, 1) := by decide +kernel
theorem d_X11_byTurns_48 : decode mX11_byTurns.2.2.1 48 = .ok (.land, 1) := by decide +kernel
theorem d_X11_byTurns_49 : decode mX11_byTurns.2.2.1 49 = .ok (.lconst 0, 1) := by decide +kernel
theorem d_X11_byTurns_50 : decode mX11_byTurns.2.2.1 50 = .ok (.lcmp, 1) := by decide +kernel
theorem d_X11_byTurns_51 : decode mX11_byTurns.2.2.1 51 = .ok (.ifCond .eq 13, 3) := by decide +kernel
theorem d_X11_byTurns_64 : decode mX11_byTurns.2.2.1 64 = .ok (.ldc2_w 230, 3) := by decide +kernel
theorem d_X11_byTurns_67 : decode mX11_byTurns.2.2.1 67 = .ok (.lreturn, 1) := by decide +kernel
theorem d_X11_byTurns_54 : decode mX11_byTurns.2.2.1 54 = .ok (.lload 6, 2) := by decide +kernel
theorem d_X11_byTurns_56 : decode mX11_byTurns.2.2.1 56 = .ok (.invokestatic 232, 3) := by decide +kernel
theorem s_11_232 : e_siteS 11 232 mJ13_bitCount_95d88 := ⟨tblG_in (inT6 (List.mem_of_getElem? (i := 0) rfl)) rfl, tblG_in (inT5 (List.mem_of_getElem? (i := 206) rfl)) rfl⟩
theorem d_X11_byTurns_59 : decode mX11_byTurns.2.2.1 59 = .ok (.bipush 8, 2) := by decide +kernel
theorem d_X11_byTurns_61 : decode mX11_byTurns.2.2.1 61 = .ok (.if_icmp .le 7, 3) := by decide +kernel
theorem d_X11_byTurns_68 : decode mX11_byTurns.2.2.1 68 = .ok (.aload_n 0, 1) := by decide +kernel
theorem d_X11_byTurns_69 : decode mX11_byTurns.2.2.1 69 = .ok (.getfield 56, 3) := by decide +kernel
theorem d_X11_byTurns_72 : decode mX11_byTurns.2.2.1 72 = .ok (.aload_n 0, 1) := by decide +kernel
theorem d_X11_byTurns_73 : decode mX11_byTurns.2.2.1 73 = .ok (.getfield 30, 3) := by decide +kernel
theorem d_X11_byTurns_76 : decode mX11_byTurns.2.2.1 76 = .ok (.aload_n 0, 1) := by decide +kernel
theorem d_X11_byTurns_77 : decode mX11_byTurns.2.2.1 77 = .ok (.getfield 46, 3) := by decide +kernel
theorem d_X11_byTurns_80 : decode mX11_byTurns.2.2.1 80 = .ok (.getfield 178, 3) := by decide +kernel
theorem d_X11_byTurns_83 : decode mX11_byTurns.2.2.1 83 = .ok (.getfield 201, 3) := by decide +kernel
theorem d_X11_byTurns_86 : decode mX11_byTurns.2.2.1 86 = .ok (.iload 5, 2) := by decide +kernel
theorem d_X11_byTurns_88 : decode mX11_byTurns.2.2.1 88 = .ok (.invokevirtual 238, 3) := by decide +kernel
def mX9_weigh : MD := (9, yX9_weigh, cX9_weigh, 10, none)
theorem sel_X9_weigh : Cond.instanceMethod mX9_weigh.2.1 ∈ tblG ∧ Cond.selects mX9_weigh.2.1.cls mX9_weigh.2.1 mX9_weigh.2.1 ∈ tblG := ⟨tblG_in (inT6 (List.mem_of_getElem? (i := 2) rfl)) rfl, tblG_in (inT6 (List.mem_of_getElem? (i := 3) rfl)) rfl⟩
theorem s_11_238 : e_siteV 11 238 mX9_weigh 9 := ⟨tblG_in (inT6 (List.mem_of_getElem? (i := 1) rfl)) rfl, sel_X9_weigh.1, sel_X9_weigh.2, rfl⟩
theorem d_X9_weigh_0 : decode mX9_weigh.2.2.1 0 = .ok (.aload_n 0, 1) := by decide +kernel
theorem d_X9_weigh_1 : decode mX9_weigh.2.2.1 1 = .ok (.getfield 19, 3) := by decide +kernel
theorem d_X9_weigh_4 : decode mX9_weigh.2.2.1 4 = .ok (.iload_n 3, 1) := by decide +kernel
theorem d_X9_weigh_5 : decode mX9_weigh.2.2.1 5 = .ok (.if_icmp .ne 4, 3) := by decide +kernel
theorem d_X9_weigh_9 : decode mX9_weigh.2.2.1 9 = .ok (.aload_n 0, 1) := by decide +kernel
theorem d_X9_weigh_10 : decode mX9_weigh.2.2.1 10 = .ok (.iload_n 3, 1) := by decide +kernel
theorem d_X9_weigh_11 : decode mX9_weigh.2.2.1 11 = .ok (.putfield 19, 3) := by decide +kernel
theorem d_X9_weigh_14 : decode mX9_weigh.2.2.1 14 = .ok (.aload_n 0, 1) := by decide +kernel
theorem d_X9_weigh_15 : decode mX9_weigh.2.2.1 15 = .ok (.aload_n 2, 1) := by decide +kernel
theorem d_X9_weigh_16 : decode mX9_weigh.2.2.1 16 = .ok (.getfield 23, 3) := by decide +kernel
theorem f_9_23 : e_fld 9 23 8 5 12 2 false := ⟨RX8, TX8, 5, rfl, rfl, by decide, rfl, rfl, rfl, iX8, tblG_in (inT2 (List.mem_of_getElem? (i := 25) rfl)) rfl, tyX8_ok, nmX8⟩
theorem d_X9_weigh_19 : decode mX9_weigh.2.2.1 19 = .ok (.iload_n 3, 1) := by decide +kernel
theorem d_X9_weigh_20 : decode mX9_weigh.2.2.1 20 = .ok (.laload, 1) := by decide +kernel
theorem d_X9_weigh_21 : decode mX9_weigh.2.2.1 21 = .ok (.putfield 28, 3) := by decide +kernel
theorem f_9_28 : e_fld 9 28 9 2 4 1 false := ⟨RX9, TX9, 2, rfl, rfl, by decide, rfl, rfl, rfl, iX9, tblG_in (inT2 (List.mem_of_getElem? (i := 172) rfl)) rfl, tyX9_ok, nmX9⟩
theorem d_X9_weigh_24 : decode mX9_weigh.2.2.1 24 = .ok (.aload_n 0, 1) := by decide +kernel
theorem d_X9_weigh_25 : decode mX9_weigh.2.2.1 25 = .ok (.getfield 11, 3) := by decide +kernel
theorem d_X9_weigh_28 : decode mX9_weigh.2.2.1 28 = .ok (.lconst 0, 1) := by decide +kernel
theorem d_X9_weigh_29 : decode mX9_weigh.2.2.1 29 = .ok (.invokestatic 31, 3) := by decide +kernel
def mJ7_fill_d0a16 : MD := (14, yJ7_fill_d0a16, cJ7_fill_d0a16, 5, none)
theorem s_9_31 : e_siteS 9 31 mJ7_fill_d0a16 := ⟨tblG_in (inT6 (List.mem_of_getElem? (i := 5) rfl)) rfl, tblG_in (inT6 (List.mem_of_getElem? (i := 6) rfl)) rfl⟩
theorem d_J7_fill_d0a16_0 : decode mJ7_fill_d0a16.2.2.1 0 = .ok (.iconst 0, 1) := by decide +kernel
theorem d_J7_fill_d0a16_1 : decode mJ7_fill_d0a16.2.2.1 1 = .ok (.istore_n 3, 1) := by decide +kernel
theorem d_J7_fill_d0a16_2 : decode mJ7_fill_d0a16.2.2.1 2 = .ok (.aload_n 0, 1) := by decide +kernel
theorem d_J7_fill_d0a16_3 : decode mJ7_fill_d0a16.2.2.1 3 = .ok (.arraylength, 1) := by decide +kernel
theorem d_J7_fill_d0a16_4 : decode mJ7_fill_d0a16.2.2.1 4 = .ok (.istore 4, 2) := by decide +kernel
theorem d_J7_fill_d0a16_6 : decode mJ7_fill_d0a16.2.2.1 6 = .ok (.iload_n 3, 1) := by decide +kernel
theorem d_J7_fill_d0a16_7 : decode mJ7_fill_d0a16.2.2.1 7 = .ok (.iload 4, 2) := by decide +kernel
theorem d_J7_fill_d0a16_9 : decode mJ7_fill_d0a16.2.2.1 9 = .ok (.if_icmp .ge 13, 3) := by decide +kernel
theorem d_J7_fill_d0a16_12 : decode mJ7_fill_d0a16.2.2.1 12 = .ok (.aload_n 0, 1) := by decide +kernel
theorem d_J7_fill_d0a16_13 : decode mJ7_fill_d0a16.2.2.1 13 = .ok (.iload_n 3, 1) := by decide +kernel
theorem d_J7_fill_d0a16_14 : decode mJ7_fill_d0a16.2.2.1 14 = .ok (.lload_n 1, 1) := by decide +kernel
theorem d_J7_fill_d0a16_15 : decode mJ7_fill_d0a16.2.2.1 15 = .ok (.lastore, 1) := by decide +kernel
theorem d_J7_fill_d0a16_16 : decode mJ7_fill_d0a16.2.2.1 16 = .ok (.iinc 3 1, 3) := by decide +kernel
theorem d_J7_fill_d0a16_19 : decode mJ7_fill_d0a16.2.2.1 19 = .ok (.goto (-13), 3) := by decide +kernel
theorem d_J7_fill_d0a16_22 : decode mJ7_fill_d0a16.2.2.1 22 = .ok (.return_, 1) := by decide +kernel
theorem ok_J7_fill_d0a16 : e_m mJ7_fill_d0a16 2 := ⟨tblG_in (inT6 (List.mem_of_getElem? (i := 7) rfl)) rfl, plainFor_of_name (by decide), rfl, ini_14, by decide +kernel, by decide⟩
theorem d_X9_weigh_32 : decode mX9_weigh.2.2.1 32 = .ok (.aload_n 0, 1) := by decide +kernel
theorem d_X9_weigh_33 : decode mX9_weigh.2.2.1 33 = .ok (.getfield 15, 3) := by decide +kernel
theorem d_X9_weigh_36 : decode mX9_weigh.2.2.1 36 = .ok (.iconst (-1), 1) := by decide +kernel
theorem d_X9_weigh_37 : decode mX9_weigh.2.2.1 37 = .ok (.invokestatic 37, 3) := by decide +kernel
theorem s_9_37 : e_siteS 9 37 mJ7_fill_53178 := ⟨tblG_in (inT6 (List.mem_of_getElem? (i := 8) rfl)) rfl, tblG_in (inT3 (List.mem_of_getElem? (i := 42) rfl)) rfl⟩
theorem d_X9_weigh_40 : decode mX9_weigh.2.2.1 40 = .ok (.aload_n 2, 1) := by decide +kernel
theorem d_X9_weigh_41 : decode mX9_weigh.2.2.1 41 = .ok (.getfield 40, 3) := by decide +kernel
theorem f_9_40 : e_fld 9 40 8 1 12 2 false := ⟨RX8, TX8, 1, rfl, rfl, by decide, rfl, rfl, rfl, iX8, tblG_in (inT2 (List.mem_of_getElem? (i := 13) rfl)) rfl, tyX8_ok, nmX8⟩
theorem d_X9_weigh_44 : decode mX9_weigh.2.2.1 44 = .ok (.iload_n 3, 1) := by decide +kernel
theorem d_X9_weigh_45 : decode mX9_weigh.2.2.1 45 = .ok (.iaload, 1) := by decide +kernel
theorem d_X9_weigh_46 : decode mX9_weigh.2.2.1 46 = .ok (.istore 4, 2) := by decide +kernel
theorem d_X9_weigh_48 : decode mX9_weigh.2.2.1 48 = .ok (.aload_n 1, 1) := by decide +kernel
theorem d_X9_weigh_49 : decode mX9_weigh.2.2.1 49 = .ok (.getfield 43, 3) := by decide +kernel
theorem f_9_43 : e_fld 9 43 3 5 12 2 true := ⟨RX3, TX3, 5, rfl, rfl, by decide, rfl, rfl, rfl, iX3, tblG_in (inT1 (List.mem_of_getElem? (i := 179) rfl)) rfl, tyX3_ok, nmX3⟩
theorem d_X9_weigh_52 : decode mX9_weigh.2.2.1 52 = .ok (.iload 4, 2) := by decide +kernel
theorem d_X9_weigh_54 : decode mX9_weigh.2.2.1 54 = .ok (.iconst 4, 1) := by decide +kernel
theorem d_X9_weigh_55 : decode mX9_weigh.2.2.1 55 = .ok (.imul, 1) := by decide +kernel
theorem d_X9_weigh_56 : decode mX9_weigh.2.2.1 56 = .ok (.iconst 2, 1) := by decide +kernel
theorem d_X9_weigh_57 : decode mX9_weigh.2.2.1 57 = .ok (.iadd, 1) := by decide +kernel
theorem d_X9_weigh_58 : decode mX9_weigh.2.2.1 58 = .ok (.iaload, 1) := by decide +kernel
theorem d_X9_weigh_59 : decode mX9_weigh.2.2.1 59 = .ok (.istore 5, 2) := by decide +kernel
theorem d_X9_weigh_61 : decode mX9_weigh.2.2.1 61 = .ok (.aload_n 1, 1) := by decide +kernel
theorem d_X9_weigh_62 : decode mX9_weigh.2.2.1 62 = .ok (.iload 4, 2) := by decide +kernel
theorem d_X9_weigh_64 : decode mX9_weigh.2.2.1 64 = .ok (.invokevirtual 48, 3) := by decide +kernel
theorem s_9_48 : e_siteV 9 48 mX3_wakeCost 3 := ⟨tblG_in (inT6 (List.mem_of_getElem? (i := 9) rfl)) rfl, sel_X3_wakeCost.1, sel_X3_wakeCost.2, rfl⟩
theorem d_X9_weigh_67 : decode mX9_weigh.2.2.1 67 = .ok (.istore 6, 2) := by decide +kernel
theorem d_X9_weigh_69 : decode mX9_weigh.2.2.1 69 = .ok (.iconst 0, 1) := by decide +kernel
theorem d_X9_weigh_70 : decode mX9_weigh.2.2.1 70 = .ok (.istore 7, 2) := by decide +kernel
theorem d_X9_weigh_8 : decode mX9_weigh.2.2.1 8 = .ok (.return_, 1) := by decide +kernel
theorem d_X9_weigh_72 : decode mX9_weigh.2.2.1 72 = .ok (.iload 7, 2) := by decide +kernel
theorem d_X9_weigh_74 : decode mX9_weigh.2.2.1 74 = .ok (.aload_n 2, 1) := by decide +kernel
theorem d_X9_weigh_75 : decode mX9_weigh.2.2.1 75 = .ok (.getfield 52, 3) := by decide +kernel
theorem f_9_52 : e_fld 9 52 8 7 12 0 false := ⟨RX8, TX8, 7, rfl, rfl, by decide, rfl, rfl, rfl, iX8, tblG_in (inT2 (List.mem_of_getElem? (i := 31) rfl)) rfl, tyX8_ok, nmX8⟩
theorem d_X9_weigh_78 : decode mX9_weigh.2.2.1 78 = .ok (.if_icmp .ge 101, 3) := by decide +kernel
theorem d_X9_weigh_179 : decode mX9_weigh.2.2.1 179 = .ok (.return_, 1) := by decide +kernel
theorem d_X9_weigh_81 : decode mX9_weigh.2.2.1 81 = .ok (.aload_n 2, 1) := by decide +kernel
theorem d_X9_weigh_82 : decode mX9_weigh.2.2.1 82 = .ok (.getfield 55, 3) := by decide +kernel
theorem f_9_55 : e_fld 9 55 8 10 12 2 false := ⟨RX8, TX8, 10, rfl, rfl, by decide, rfl, rfl, rfl, iX8, tblG_in (inT2 (List.mem_of_getElem? (i := 37) rfl)) rfl, tyX8_ok, nmX8⟩
theorem d_X9_weigh_85 : decode mX9_weigh.2.2.1 85 = .ok (.iload 7, 2) := by decide +kernel
theorem d_X9_weigh_87 : decode mX9_weigh.2.2.1 87 = .ok (.iaload, 1) := by decide +kernel
theorem d_X9_weigh_88 : decode mX9_weigh.2.2.1 88 = .ok (.istore 8, 2) := by decide +kernel
theorem d_X9_weigh_90 : decode mX9_weigh.2.2.1 90 = .ok (.aload_n 2, 1) := by decide +kernel
theorem d_X9_weigh_91 : decode mX9_weigh.2.2.1 91 = .ok (.getfield 58, 3) := by decide +kernel
theorem f_9_58 : e_fld 9 58 8 8 12 2 false := ⟨RX8, TX8, 8, rfl, rfl, by decide, rfl, rfl, rfl, iX8, tblG_in (inT2 (List.mem_of_getElem? (i := 33) rfl)) rfl, tyX8_ok, nmX8⟩
theorem d_X9_weigh_94 : decode mX9_weigh.2.2.1 94 = .ok (.iload 7, 2) := by decide +kernel
theorem d_X9_weigh_96 : decode mX9_weigh.2.2.1 96 = .ok (.iaload, 1) := by decide +kernel
theorem d_X9_weigh_97 : decode mX9_weigh.2.2.1 97 = .ok (.iload 4, 2) := by decide +kernel
theorem d_X9_weigh_99 : decode mX9_weigh.2.2.1 99 = .ok (.if_icmp .ne 74, 3) := by decide +kernel
theorem d_X9_weigh_102 : decode mX9_weigh.2.2.1 102 = .ok (.iload 8, 2) := by decide +kernel
theorem d_X9_weigh_104 : decode mX9_weigh.2.2.1 104 = .ok (.aload_n 2, 1) := by decide +kernel
theorem d_X9_weigh_105 : decode mX9_weigh.2.2.1 105 = .ok (.getfield 61, 3) := by decide +kernel
theorem f_9_61 : e_fld 9 61 8 2 12 2 false := ⟨RX8, TX8, 2, rfl, rfl, by decide, rfl, rfl, rfl, iX8, tblG_in (inT2 (List.mem_of_getElem? (i := 16) rfl)) rfl, tyX8_ok, nmX8⟩
theorem d_X9_weigh_108 : decode mX9_weigh.2.2.1 108 = .ok (.iload_n 3, 1) := by decide +kernel
theorem d_X9_weigh_109 : decode mX9_weigh.2.2.1 109 = .ok (.iaload, 1) := by decide +kernel
theorem d_X9_weigh_110 : decode mX9_weigh.2.2.1 110 = .ok (.if_icmp .lt 63, 3) := by decide +kernel
theorem d_X9_weigh_113 : decode mX9_weigh.2.2.1 113 = .ok (.iload 8, 2) := by decide +kernel
theorem d_X9_weigh_115 : decode mX9_weigh.2.2.1 115 = .ok (.aload_n 2, 1) := by decide +kernel
theorem d_X9_weigh_116 : decode mX9_weigh.2.2.1 116 = .ok (.getfield 64, 3) := by decide +kernel
theorem f_9_64 : e_fld 9 64 8 3 12 2 false := ⟨RX8, TX8, 3, rfl, rfl, by decide, rfl, rfl, rfl, iX8, tblG_in (inT2 (List.mem_of_getElem? (i := 19) rfl)) rfl, tyX8_ok, nmX8⟩
theorem d_X9_weigh_119 : decode mX9_weigh.2.2.1 119 = .ok (.iload_n 3, 1) := by decide +kernel
theorem d_X9_weigh_120 : decode mX9_weigh.2.2.1 120 = .ok (.iaload, 1) := by decide +kernel
theorem d_X9_weigh_121 : decode mX9_weigh.2.2.1 121 = .ok (.if_icmp .ge 52, 3) := by decide +kernel
theorem d_X9_weigh_124 : decode mX9_weigh.2.2.1 124 = .ok (.aload_n 2, 1) := by decide +kernel
theorem d_X9_weigh_125 : decode mX9_weigh.2.2.1 125 = .ok (.getfield 67, 3) := by decide +kernel
theorem f_9_67 : e_fld 9 67 8 11 12 2 false := ⟨RX8, TX8, 11, rfl, rfl, by decide, rfl, rfl, rfl, iX8, tblG_in (inT2 (List.mem_of_getElem? (i := 39) rfl)) rfl, tyX8_ok, nmX8⟩
theorem d_X9_weigh_128 : decode mX9_weigh.2.2.1 128 = .ok (.iload 7, 2) := by decide +kernel
theorem d_X9_weigh_130 : decode mX9_weigh.2.2.1 130 = .ok (.iaload, 1) := by decide +kernel
theorem d_X9_weigh_131 : decode mX9_weigh.2.2.1 131 = .ok (.aload_n 1, 1) := by decide +kernel
theorem d_X9_weigh_132 : decode mX9_weigh.2.2.1 132 = .ok (.getfield 70, 3) := by decide +kernel
theorem f_9_70 : e_fld 9 70 3 7 12 2 true := ⟨RX3, TX3, 7, rfl, rfl, by decide, rfl, rfl, rfl, iX3, tblG_in (inT1 (List.mem_of_getElem? (i := 189) rfl)) rfl, tyX3_ok, nmX3⟩
theorem d_X9_weigh_135 : decode mX9_weigh.2.2.1 135 = .ok (.iload 4, 2) := by decide +kernel
theorem d_X9_weigh_137 : decode mX9_weigh.2.2.1 137 = .ok (.iaload, 1) := by decide +kernel
theorem d_X9_weigh_138 : decode mX9_weigh.2.2.1 138 = .ok (.iadd, 1) := by decide +kernel
theorem d_X9_weigh_139 : decode mX9_weigh.2.2.1 139 = .ok (.aload_n 2, 1) := by decide +kernel
theorem d_X9_weigh_140 : decode mX9_weigh.2.2.1 140 = .ok (.getfield 64, 3) := by decide +kernel
theorem d_X9_weigh_143 : decode mX9_weigh.2.2.1 143 = .ok (.iload_n 3, 1) := by decide +kernel
theorem d_X9_weigh_144 : decode mX9_weigh.2.2.1 144 = .ok (.iaload, 1) := by decide +kernel
theorem d_X9_weigh_145 : decode mX9_weigh.2.2.1 145 = .ok (.invokestatic 73, 3) := by decide +kernel
theorem ml_9_73 : Cond.methodLink (e_cn 9) 73 Lib.Math.min.name ∈ tblG := tblG_in (inT6 (List.mem_of_getElem? (i := 13) rfl)) rfl
theorem d_X9_weigh_148 : decode mX9_weigh.2.2.1 148 = .ok (.istore 9, 2) := by decide +kernel
theorem d_X9_weigh_150 : decode mX9_weigh.2.2.1 150 = .ok (.aload_n 0, 1) := by decide +kernel
theorem d_X9_weigh_151 : decode mX9_weigh.2.2.1 151 = .ok (.aload_n 0, 1) := by decide +kernel
theorem d_X9_weigh_152 : decode mX9_weigh.2.2.1 152 = .ok (.aload_n 2, 1) := by decide +kernel
theorem d_X9_weigh_153 : decode mX9_weigh.2.2.1 153 = .ok (.getfield 79, 3) := by decide +kernel
theorem f_9_79 : e_fld 9 79 8 9 12 2 false := ⟨RX8, TX8, 9, rfl, rfl, by decide, rfl, rfl, rfl, iX8, tblG_in (inT2 (List.mem_of_getElem? (i := 35) rfl)) rfl, tyX8_ok, nmX8⟩
theorem d_X9_weigh_156 : decode mX9_weigh.2.2.1 156 = .ok (.iload 7, 2) := by decide +kernel
theorem d_X9_weigh_158 : decode mX9_weigh.2.2.1 158 = .ok (.iaload, 1) := by decide +kernel
theorem d_X9_weigh_159 : decode mX9_weigh.2.2.1 159 = .ok (.invokevirtual 82, 3) := by decide +kernel
def mX9_bitOf : MD := (9, yX9_bitOf, cX9_bitOf, 2, some .int)
theorem sel_X9_bitOf : Cond.instanceMethod mX9_bitOf.2.1 ∈ tblG ∧ Cond.selects mX9_bitOf.2.1.cls mX9_bitOf.2.1 mX9_bitOf.2.1 ∈ tblG := ⟨tblG_in (inT6 (List.mem_of_getElem? (i := 16) rfl)) rfl, tblG_in (inP4 (q := (mX9_bitOf.2.1, 4)) (List.mem_of_getElem? (i := 13) rfl)) rfl⟩
theorem s_9_82 : e_siteV 9 82 mX9_bitOf 9 := ⟨tblG_in (inT6 (List.mem_of_getElem? (i := 14) rfl)) rfl, sel_X9_bitOf.1, sel_X9_bitOf.2, rfl⟩
theorem d_X9_bitOf_0 : decode mX9_bitOf.2.2.1 0 = .ok (.iconst 1, 1) := by decide +kernel
theorem d_X9_bitOf_1 : decode mX9_bitOf.2.2.1 1 = .ok (.aload_n 0, 1) := by decide +kernel
theorem d_X9_bitOf_2 : decode mX9_bitOf.2.2.1 2 = .ok (.iload_n 1, 1) := by decide +kernel
theorem d_X9_bitOf_3 : decode mX9_bitOf.2.2.1 3 = .ok (.invokevirtual 95, 3) := by decide +kernel
def mX9_rank : MD := (9, yX9_rank, cX9_rank, 2, some .int)
theorem sel_X9_rank : Cond.instanceMethod mX9_rank.2.1 ∈ tblG ∧ Cond.selects mX9_rank.2.1.cls mX9_rank.2.1 mX9_rank.2.1 ∈ tblG := ⟨tblG_in (inT6 (List.mem_of_getElem? (i := 20) rfl)) rfl, tblG_in (inP4 (q := (mX9_rank.2.1, 4)) (List.mem_of_getElem? (i := 14) rfl)) rfl⟩
theorem s_9_95 : e_siteV 9 95 mX9_rank 9 := ⟨tblG_in (inT6 (List.mem_of_getElem? (i := 18) rfl)) rfl, sel_X9_rank.1, sel_X9_rank.2, rfl⟩
theorem d_X9_rank_0 : decode mX9_rank.2.2.1 0 = .ok (.aload_n 0, 1) := by decide +kernel
theorem d_X9_rank_1 : decode mX9_rank.2.2.1 1 = .ok (.getfield 28, 3) := by decide +kernel
theorem d_X9_rank_4 : decode mX9_rank.2.2.1 4 = .ok (.lconst 1, 1) := by decide +kernel
theorem d_X9_rank_5 : decode mX9_rank.2.2.1 5 = .ok (.iload_n 1, 1) := by decide +kernel
theorem d_X9_rank_6 : decode mX9_rank.2.2.1 6 = .ok (.lshl, 1) := by decide +kernel
theorem d_X9_rank_7 : decode mX9_rank.2.2.1 7 = .ok (.lconst 1, 1) := by decide +kernel
theorem d_X9_rank_8 : decode mX9_rank.2.2.1 8 = .ok (.lsub, 1) := by decide +kernel
theorem d_X9_rank_9 : decode mX9_rank.2.2.1 9 = .ok (.land, 1) := by decide +kernel
theorem d_X9_rank_10 : decode mX9_rank.2.2.1 10 = .ok (.invokestatic 89, 3) := by decide +kernel
theorem s_9_89 : e_siteS 9 89 mJ13_bitCount_95d88 := ⟨tblG_in (inT6 (List.mem_of_getElem? (i := 22) rfl)) rfl, tblG_in (inT5 (List.mem_of_getElem? (i := 206) rfl)) rfl⟩
theorem d_X9_rank_13 : decode mX9_rank.2.2.1 13 = .ok (.ireturn, 1) := by decide +kernel
theorem ok_X9_rank : e_m mX9_rank 1 := ⟨tblG_in (inT6 (List.mem_of_getElem? (i := 21) rfl)) rfl, plainFor_of_name (by decide), rfl, ini_9, by decide +kernel, by decide⟩
theorem d_X9_bitOf_6 : decode mX9_bitOf.2.2.1 6 = .ok (.ishl, 1) := by decide +kernel
theorem d_X9_bitOf_7 : decode mX9_bitOf.2.2.1 7 = .ok (.ireturn, 1) := by decide +kernel
theorem ok_X9_bitOf : e_m mX9_bitOf 1 := ⟨tblG_in (inT6 (List.mem_of_getElem? (i := 17) rfl)) rfl, plainFor_of_name (by decide), rfl, ini_9, by decide +kernel, by decide⟩
theorem d_X9_weigh_162 : decode mX9_weigh.2.2.1 162 = .ok (.iload 8, 2) := by decide +kernel
theorem d_X9_weigh_164 : decode mX9_weigh.2.2.1 164 = .ok (.iload 9, 2) := by decide +kernel
theorem d_X9_weigh_166 : decode mX9_weigh.2.2.1 166 = .ok (.iload 5, 2) := by decide +kernel
theorem d_X9_weigh_168 : decode mX9_weigh.2.2.1 168 = .ok (.iload 6, 2) := by decide +kernel
theorem d_X9_weigh_170 : decode mX9_weigh.2.2.1 170 = .ok (.invokevirtual 85, 3) := by decide +kernel
def mX9_spread : MD := (9, yX9_spread, cX9_spread, 7, none)
theorem sel_X9_spread : Cond.instanceMethod mX9_spread.2.1 ∈ tblG ∧ Cond.selects mX9_spread.2.1.cls mX9_spread.2.1 mX9_spread.2.1 ∈ tblG := ⟨tblG_in (inT6 (List.mem_of_getElem? (i := 25) rfl)) rfl, tblG_in (inP4 (q := (mX9_spread.2.1, 4)) (List.mem_of_getElem? (i := 15) rfl)) rfl⟩
theorem s_9_85 : e_siteV 9 85 mX9_spread 9 := ⟨tblG_in (inT6 (List.mem_of_getElem? (i := 23) rfl)) rfl, sel_X9_spread.1, sel_X9_spread.2, rfl⟩
theorem d_X9_spread_0 : decode mX9_spread.2.2.1 0 = .ok (.iload_n 3, 1) := by decide +kernel
theorem d_X9_spread_1 : decode mX9_spread.2.2.1 1 = .ok (.iload_n 2, 1) := by decide +kernel
theorem d_X9_spread_2 : decode mX9_spread.2.2.1 2 = .ok (.if_icmp .gt 4, 3) := by decide +kernel
theorem d_X9_spread_6 : decode mX9_spread.2.2.1 6 = .ok (.iconst 1, 1) := by decide +kernel
theorem d_X9_spread_7 : decode mX9_spread.2.2.1 7 = .ok (.istore 6, 2) := by decide +kernel
theorem d_X9_spread_5 : decode mX9_spread.2.2.1 5 = .ok (.return_, 1) := by decide +kernel
theorem d_X9_spread_9 : decode mX9_spread.2.2.1 9 = .ok (.iload 6, 2) := by decide +kernel
theorem d_X9_spread_11 : decode mX9_spread.2.2.1 11 = .ok (.sipush 256, 3) := by decide +kernel
theorem d_X9_spread_14 : decode mX9_spread.2.2.1 14 = .ok (.if_icmp .ge 103, 3) := by decide +kernel
theorem d_X9_spread_17 : decode mX9_spread.2.2.1 17 = .ok (.iload 6, 2) := by decide +kernel
theorem d_X9_spread_19 : decode mX9_spread.2.2.1 19 = .ok (.iload_n 1, 1) := by decide +kernel
theorem d_X9_spread_20 : decode mX9_spread.2.2.1 20 = .ok (.iand, 1) := by decide +kernel
theorem d_X9_spread_21 : decode mX9_spread.2.2.1 21 = .ok (.ifCond .eq 90, 3) := by decide +kernel
theorem d_X9_spread_24 : decode mX9_spread.2.2.1 24 = .ok (.iload_n 2, 1) := by decide +kernel
theorem d_X9_spread_25 : decode mX9_spread.2.2.1 25 = .ok (.aload_n 0, 1) := by decide +kernel
theorem d_X9_spread_26 : decode mX9_spread.2.2.1 26 = .ok (.getfield 15, 3) := by decide +kernel
theorem d_X9_spread_29 : decode mX9_spread.2.2.1 29 = .ok (.iload 6, 2) := by decide +kernel
theorem d_X9_spread_31 : decode mX9_spread.2.2.1 31 = .ok (.iaload, 1) := by decide +kernel
theorem d_X9_spread_32 : decode mX9_spread.2.2.1 32 = .ok (.if_icmp .le 36, 3) := by decide +kernel
theorem d_X9_spread_68 : decode mX9_spread.2.2.1 68 = .ok (.iload_n 3, 1) := by decide +kernel
theorem d_X9_spread_69 : decode mX9_spread.2.2.1 69 = .ok (.aload_n 0, 1) := by decide +kernel
theorem d_X9_spread_70 : decode mX9_spread.2.2.1 70 = .ok (.getfield 15, 3) := by decide +kernel
theorem d_X9_spread_73 : decode mX9_spread.2.2.1 73 = .ok (.iload 6, 2) := by decide +kernel
theorem d_X9_spread_75 : decode mX9_spread.2.2.1 75 = .ok (.iaload, 1) := by decide +kernel
theorem d_X9_spread_76 : decode mX9_spread.2.2.1 76 = .ok (.if_icmp .le 35, 3) := by decide +kernel
theorem d_X9_spread_79 : decode mX9_spread.2.2.1 79 = .ok (.aload_n 0, 1) := by decide +kernel
theorem d_X9_spread_80 : decode mX9_spread.2.2.1 80 = .ok (.getfield 11, 3) := by decide +kernel
theorem d_X9_spread_83 : decode mX9_spread.2.2.1 83 = .ok (.iload 6, 2) := by decide +kernel
theorem d_X9_spread_85 : decode mX9_spread.2.2.1 85 = .ok (.dup2, 1) := by decide +kernel
theorem d_X9_spread_86 : decode mX9_spread.2.2.1 86 = .ok (.laload, 1) := by decide +kernel
theorem d_X9_spread_87 : decode mX9_spread.2.2.1 87 = .ok (.iload 4, 2) := by decide +kernel
theorem d_X9_spread_89 : decode mX9_spread.2.2.1 89 = .ok (.i2l, 1) := by decide +kernel
end
/-! 42w.01 -/
section
theorem d_X9_spread_90 : decode mX9_spread.2.2.1 90 = .ok (.iload_n 3, 1) := by decide +kernel
theorem d_X9_spread_91 : decode mX9_spread.2.2.1 91 = .ok (.aload_n 0, 1) := by decide +kernel
theorem d_X9_spread_92 : decode mX9_spread.2.2.1 92 = .ok (.getfield 15, 3) := by decide +kernel
theorem d_X9_spread_95 : decode mX9_spread.2.2.1 95 = .ok (.iload 6, 2) := by decide +kernel
theorem d_X9_spread_97 : decode mX9_spread.2.2.1 97 = .ok (.iaload, 1) := by decide +kernel
theorem d_X9_spread_98 : decode mX9_spread.2.2.1 98 = .ok (.isub, 1) := by decide +kernel
theorem d_X9_spread_99 : decode mX9_spread.2.2.1 99 = .ok (.i2l, 1) := by decide +kernel
theorem d_X9_spread_100 : decode mX9_spread.2.2.1 100 = .ok (.lmul, 1) := by decide +kernel
theorem d_X9_spread_101 : decode mX9_spread.2.2.1 101 = .ok (.ladd, 1) := by decide +kernel
theorem d_X9_spread_102 : decode mX9_spread.2.2.1 102 = .ok (.lastore, 1) := by decide +kernel
theorem d_X9_spread_103 : decode mX9_spread.2.2.1 103 = .ok (.aload_n 0, 1) := by decide +kernel
theorem d_X9_spread_104 : decode mX9_spread.2.2.1 104 = .ok (.getfield 15, 3) := by decide +kernel
theorem d_X9_spread_107 : decode mX9_spread.2.2.1 107 = .ok (.iload 6, 2) := by decide +kernel
theorem d_X9_spread_109 : decode mX9_spread.2.2.1 109 = .ok (.iload_n 3, 1) := by decide +kernel
theorem d_X9_spread_110 : decode mX9_spread.2.2.1 110 = .ok (.iastore, 1) := by decide +kernel
theorem d_X9_spread_35 : decode mX9_spread.2.2.1 35 = .ok (.aload_n 0, 1) := by decide +kernel
theorem d_X9_spread_36 : decode mX9_spread.2.2.1 36 = .ok (.getfield 11, 3) := by decide +kernel
theorem d_X9_spread_39 : decode mX9_spread.2.2.1 39 = .ok (.iload 6, 2) := by decide +kernel
theorem d_X9_spread_41 : decode mX9_spread.2.2.1 41 = .ok (.dup2, 1) := by decide +kernel
theorem d_X9_spread_42 : decode mX9_spread.2.2.1 42 = .ok (.laload, 1) := by decide +kernel
theorem d_X9_spread_43 : decode mX9_spread.2.2.1 43 = .ok (.iload 5, 2) := by decide +kernel
theorem d_X9_spread_45 : decode mX9_spread.2.2.1 45 = .ok (.i2l, 1) := by decide +kernel
theorem d_X9_spread_46 : decode mX9_spread.2.2.1 46 = .ok (.iload 4, 2) := by decide +kernel
theorem d_X9_spread_48 : decode mX9_spread.2.2.1 48 = .ok (.i2l, 1) := by decide +kernel
theorem d_X9_spread_49 : decode mX9_spread.2.2.1 49 = .ok (.iload_n 3, 1) := by decide +kernel
theorem d_X9_spread_50 : decode mX9_spread.2.2.1 50 = .ok (.iload_n 2, 1) := by decide +kernel
theorem d_X9_spread_51 : decode mX9_spread.2.2.1 51 = .ok (.isub, 1) := by decide +kernel
theorem d_X9_spread_52 : decode mX9_spread.2.2.1 52 = .ok (.i2l, 1) := by decide +kernel
theorem d_X9_spread_53 : decode mX9_spread.2.2.1 53 = .ok (.lmul, 1) := by decide +kernel
theorem d_X9_spread_54 : decode mX9_spread.2.2.1 54 = .ok (.ladd, 1) := by decide +kernel
theorem d_X9_spread_55 : decode mX9_spread.2.2.1 55 = .ok (.ladd, 1) := by decide +kernel
theorem d_X9_spread_56 : decode mX9_spread.2.2.1 56 = .ok (.lastore, 1) := by decide +kernel
theorem d_X9_spread_57 : decode mX9_spread.2.2.1 57 = .ok (.aload_n 0, 1) := by decide +kernel
theorem d_X9_spread_58 : decode mX9_spread.2.2.1 58 = .ok (.getfield 15, 3) := by decide +kernel
theorem d_X9_spread_61 : decode mX9_spread.2.2.1 61 = .ok (.iload 6, 2) := by decide +kernel
theorem d_X9_spread_63 : decode mX9_spread.2.2.1 63 = .ok (.iload_n 3, 1) := by decide +kernel
theorem d_X9_spread_64 : decode mX9_spread.2.2.1 64 = .ok (.iastore, 1) := by decide +kernel
theorem d_X9_spread_65 : decode mX9_spread.2.2.1 65 = .ok (.goto 46, 3) := by decide +kernel
theorem d_X9_spread_111 : decode mX9_spread.2.2.1 111 = .ok (.iinc 6 1, 3) := by decide +kernel
theorem d_X9_spread_114 : decode mX9_spread.2.2.1 114 = .ok (.goto (-105), 3) := by decide +kernel
theorem d_X9_spread_117 : decode mX9_spread.2.2.1 117 = .ok (.return_, 1) := by decide +kernel
theorem ok_X9_spread : e_m mX9_spread 5 := ⟨tblG_in (inT6 (List.mem_of_getElem? (i := 26) rfl)) rfl, plainFor_of_name (by decide), rfl, ini_9, by decide +kernel, by decide⟩
theorem d_X9_weigh_173 : decode mX9_weigh.2.2.1 173 = .ok (.iinc 7 1, 3) := by decide +kernel
theorem d_X9_weigh_176 : decode mX9_weigh.2.2.1 176 = .ok (.goto (-104), 3) := by decide +kernel
theorem ok_X9_weigh : e_m mX9_weigh 3 := ⟨tblG_in (inT6 (List.mem_of_getElem? (i := 4) rfl)) rfl, plainFor_of_name (by decide), rfl, ini_9, by decide +kernel, by decide⟩
theorem d_X11_byTurns_91 : decode mX11_byTurns.2.2.1 91 = .ok (.aload_n 0, 1) := by decide +kernel
theorem d_X11_byTurns_92 : decode mX11_byTurns.2.2.1 92 = .ok (.getfield 56, 3) := by decide +kernel
theorem d_X11_byTurns_95 : decode mX11_byTurns.2.2.1 95 = .ok (.iload_n 3, 1) := by decide +kernel
theorem d_X11_byTurns_96 : decode mX11_byTurns.2.2.1 96 = .ok (.iload 4, 2) := by decide +kernel
theorem d_X11_byTurns_98 : decode mX11_byTurns.2.2.1 98 = .ok (.invokevirtual 242, 3) := by decide +kernel
def mX9_share : MD := (9, yX9_share, cX9_share, 11, some .long)
theorem sel_X9_share : Cond.instanceMethod mX9_share.2.1 ∈ tblG ∧ Cond.selects mX9_share.2.1.cls mX9_share.2.1 mX9_share.2.1 ∈ tblG := ⟨tblG_in (inT6 (List.mem_of_getElem? (i := 28) rfl)) rfl, tblG_in (inT6 (List.mem_of_getElem? (i := 29) rfl)) rfl⟩
theorem s_11_242 : e_siteV 11 242 mX9_share 9 := ⟨tblG_in (inT6 (List.mem_of_getElem? (i := 27) rfl)) rfl, sel_X9_share.1, sel_X9_share.2, rfl⟩
theorem d_X9_share_0 : decode mX9_share.2.2.1 0 = .ok (.aload_n 0, 1) := by decide +kernel
theorem d_X9_share_1 : decode mX9_share.2.2.1 1 = .ok (.getfield 28, 3) := by decide +kernel
theorem d_X9_share_4 : decode mX9_share.2.2.1 4 = .ok (.invokestatic 89, 3) := by decide +kernel
theorem d_X9_share_7 : decode mX9_share.2.2.1 7 = .ok (.istore_n 3, 1) := by decide +kernel
theorem d_X9_share_8 : decode mX9_share.2.2.1 8 = .ok (.iload_n 3, 1) := by decide +kernel
theorem d_X9_share_9 : decode mX9_share.2.2.1 9 = .ok (.iconst 1, 1) := by decide +kernel
theorem d_X9_share_10 : decode mX9_share.2.2.1 10 = .ok (.if_icmp .lt 9, 3) := by decide +kernel
theorem d_X9_share_19 : decode mX9_share.2.2.1 19 = .ok (.ldc2_w 98, 3) := by decide +kernel
theorem kl_9_98 : Jvm.Cond.constantLong (e_cn 9) 98 (Int64.ofInt (-1000000000000000)) ∈ tblG := tblG_in (inT6 (List.mem_of_getElem? (i := 31) rfl)) rfl
theorem d_X9_share_22 : decode mX9_share.2.2.1 22 = .ok (.lreturn, 1) := by decide +kernel
theorem d_X9_share_13 : decode mX9_share.2.2.1 13 = .ok (.iload_n 3, 1) := by decide +kernel
theorem d_X9_share_14 : decode mX9_share.2.2.1 14 = .ok (.bipush 8, 2) := by decide +kernel
theorem d_X9_share_16 : decode mX9_share.2.2.1 16 = .ok (.if_icmp .le 7, 3) := by decide +kernel
theorem d_X9_share_23 : decode mX9_share.2.2.1 23 = .ok (.aload_n 0, 1) := by decide +kernel
theorem d_X9_share_24 : decode mX9_share.2.2.1 24 = .ok (.iload_n 1, 1) := by decide +kernel
theorem d_X9_share_25 : decode mX9_share.2.2.1 25 = .ok (.invokevirtual 82, 3) := by decide +kernel
theorem d_X9_share_28 : decode mX9_share.2.2.1 28 = .ok (.istore 4, 2) := by decide +kernel
theorem d_X9_share_30 : decode mX9_share.2.2.1 30 = .ok (.lconst 0, 1) := by decide +kernel
theorem d_X9_share_31 : decode mX9_share.2.2.1 31 = .ok (.lstore 5, 2) := by decide +kernel
theorem d_X9_share_33 : decode mX9_share.2.2.1 33 = .ok (.iconst 0, 1) := by decide +kernel
theorem d_X9_share_34 : decode mX9_share.2.2.1 34 = .ok (.istore 7, 2) := by decide +kernel
theorem d_X9_share_36 : decode mX9_share.2.2.1 36 = .ok (.iload 7, 2) := by decide +kernel
theorem d_X9_share_38 : decode mX9_share.2.2.1 38 = .ok (.iconst 1, 1) := by decide +kernel
theorem d_X9_share_39 : decode mX9_share.2.2.1 39 = .ok (.iload_n 3, 1) := by decide +kernel
theorem d_X9_share_40 : decode mX9_share.2.2.1 40 = .ok (.ishl, 1) := by decide +kernel
theorem d_X9_share_41 : decode mX9_share.2.2.1 41 = .ok (.if_icmp .ge 71, 3) := by decide +kernel
theorem d_X9_share_44 : decode mX9_share.2.2.1 44 = .ok (.iload 7, 2) := by decide +kernel
theorem d_X9_share_46 : decode mX9_share.2.2.1 46 = .ok (.iload 4, 2) := by decide +kernel
theorem d_X9_share_48 : decode mX9_share.2.2.1 48 = .ok (.iand, 1) := by decide +kernel
theorem d_X9_share_49 : decode mX9_share.2.2.1 49 = .ok (.ifCond .ne 57, 3) := by decide +kernel
theorem d_X9_share_52 : decode mX9_share.2.2.1 52 = .ok (.iload 7, 2) := by decide +kernel
theorem d_X9_share_54 : decode mX9_share.2.2.1 54 = .ok (.invokestatic 100, 3) := by decide +kernel
def mJ6_bitCount_0f7a4 : MD := (18, yJ6_bitCount_0f7a4, cJ6_bitCount_0f7a4, 1, some .int)
theorem s_9_100 : e_siteS 9 100 mJ6_bitCount_0f7a4 := ⟨tblG_in (inT6 (List.mem_of_getElem? (i := 32) rfl)) rfl, tblG_in (inT6 (List.mem_of_getElem? (i := 33) rfl)) rfl⟩
theorem d_J6_bitCount_0f7a4_0 : decode mJ6_bitCount_0f7a4.2.2.1 0 = .ok (.iload_n 0, 1) := by decide +kernel
theorem d_J6_bitCount_0f7a4_1 : decode mJ6_bitCount_0f7a4.2.2.1 1 = .ok (.iload_n 0, 1) := by decide +kernel
theorem d_J6_bitCount_0f7a4_2 : decode mJ6_bitCount_0f7a4.2.2.1 2 = .ok (.iconst 1, 1) := by decide +kernel
theorem d_J6_bitCount_0f7a4_3 : decode mJ6_bitCount_0f7a4.2.2.1 3 = .ok (.iushr, 1) := by decide +kernel
theorem d_J6_bitCount_0f7a4_4 : decode mJ6_bitCount_0f7a4.2.2.1 4 = .ok (.ldc_w 265, 3) := by decide +kernel
theorem k_18_265 : Jvm.Cond.constant (e_cn 18) 265 (Int32.ofInt 1431655765) ∈ tblG := tblG_in (inT6 (List.mem_of_getElem? (i := 35) rfl)) rfl
theorem d_J6_bitCount_0f7a4_7 : decode mJ6_bitCount_0f7a4.2.2.1 7 = .ok (.iand, 1) := by decide +kernel
theorem d_J6_bitCount_0f7a4_8 : decode mJ6_bitCount_0f7a4.2.2.1 8 = .ok (.isub, 1) := by decide +kernel
theorem d_J6_bitCount_0f7a4_9 : decode mJ6_bitCount_0f7a4.2.2.1 9 = .ok (.istore_n 0, 1) := by decide +kernel
theorem d_J6_bitCount_0f7a4_10 : decode mJ6_bitCount_0f7a4.2.2.1 10 = .ok (.iload_n 0, 1) := by decide +kernel
theorem d_J6_bitCount_0f7a4_11 : decode mJ6_bitCount_0f7a4.2.2.1 11 = .ok (.ldc_w 266, 3) := by decide +kernel
theorem k_18_266 : Jvm.Cond.constant (e_cn 18) 266 (Int32.ofInt 858993459) ∈ tblG := tblG_in (inT6 (List.mem_of_getElem? (i := 36) rfl)) rfl
theorem d_J6_bitCount_0f7a4_14 : decode mJ6_bitCount_0f7a4.2.2.1 14 = .ok (.iand, 1) := by decide +kernel
theorem d_J6_bitCount_0f7a4_15 : decode mJ6_bitCount_0f7a4.2.2.1 15 = .ok (.iload_n 0, 1) := by decide +kernel
theorem d_J6_bitCount_0f7a4_16 : decode mJ6_bitCount_0f7a4.2.2.1 16 = .ok (.iconst 2, 1) := by decide +kernel
theorem d_J6_bitCount_0f7a4_17 : decode mJ6_bitCount_0f7a4.2.2.1 17 = .ok (.iushr, 1) := by decide +kernel
theorem d_J6_bitCount_0f7a4_18 : decode mJ6_bitCount_0f7a4.2.2.1 18 = .ok (.ldc_w 266, 3) := by decide +kernel
theorem d_J6_bitCount_0f7a4_21 : decode mJ6_bitCount_0f7a4.2.2.1 21 = .ok (.iand, 1) := by decide +kernel
theorem d_J6_bitCount_0f7a4_22 : decode mJ6_bitCount_0f7a4.2.2.1 22 = .ok (.iadd, 1) := by decide +kernel
theorem d_J6_bitCount_0f7a4_23 : decode mJ6_bitCount_0f7a4.2.2.1 23 = .ok (.istore_n 0, 1) := by decide +kernel
theorem d_J6_bitCount_0f7a4_24 : decode mJ6_bitCount_0f7a4.2.2.1 24 = .ok (.iload_n 0, 1) := by decide +kernel
theorem d_J6_bitCount_0f7a4_25 : decode mJ6_bitCount_0f7a4.2.2.1 25 = .ok (.iload_n 0, 1) := by decide +kernel
theorem d_J6_bitCount_0f7a4_26 : decode mJ6_bitCount_0f7a4.2.2.1 26 = .ok (.iconst 4, 1) := by decide +kernel
theorem d_J6_bitCount_0f7a4_27 : decode mJ6_bitCount_0f7a4.2.2.1 27 = .ok (.iushr, 1) := by decide +kernel
theorem d_J6_bitCount_0f7a4_28 : decode mJ6_bitCount_0f7a4.2.2.1 28 = .ok (.iadd, 1) := by decide +kernel
theorem d_J6_bitCount_0f7a4_29 : decode mJ6_bitCount_0f7a4.2.2.1 29 = .ok (.ldc_w 267, 3) := by decide +kernel
theorem k_18_267 : Jvm.Cond.constant (e_cn 18) 267 (Int32.ofInt 252645135) ∈ tblG := tblG_in (inT6 (List.mem_of_getElem? (i := 37) rfl)) rfl
theorem d_J6_bitCount_0f7a4_32 : decode mJ6_bitCount_0f7a4.2.2.1 32 = .ok (.iand, 1) := by decide +kernel
theorem d_J6_bitCount_0f7a4_33 : decode mJ6_bitCount_0f7a4.2.2.1 33 = .ok (.istore_n 0, 1) := by decide +kernel
theorem d_J6_bitCount_0f7a4_34 : decode mJ6_bitCount_0f7a4.2.2.1 34 = .ok (.iload_n 0, 1) := by decide +kernel
theorem d_J6_bitCount_0f7a4_35 : decode mJ6_bitCount_0f7a4.2.2.1 35 = .ok (.iload_n 0, 1) := by decide +kernel
theorem d_J6_bitCount_0f7a4_36 : decode mJ6_bitCount_0f7a4.2.2.1 36 = .ok (.bipush 8, 2) := by decide +kernel
theorem d_J6_bitCount_0f7a4_38 : decode mJ6_bitCount_0f7a4.2.2.1 38 = .ok (.iushr, 1) := by decide +kernel
theorem d_J6_bitCount_0f7a4_39 : decode mJ6_bitCount_0f7a4.2.2.1 39 = .ok (.iadd, 1) := by decide +kernel
theorem d_J6_bitCount_0f7a4_40 : decode mJ6_bitCount_0f7a4.2.2.1 40 = .ok (.istore_n 0, 1) := by decide +kernel
theorem d_J6_bitCount_0f7a4_41 : decode mJ6_bitCount_0f7a4.2.2.1 41 = .ok (.iload_n 0, 1) := by decide +kernel
theorem d_J6_bitCount_0f7a4_42 : decode mJ6_bitCount_0f7a4.2.2.1 42 = .ok (.iload_n 0, 1) := by decide +kernel
theorem d_J6_bitCount_0f7a4_43 : decode mJ6_bitCount_0f7a4.2.2.1 43 = .ok (.bipush 16, 2) := by decide +kernel
theorem d_J6_bitCount_0f7a4_45 : decode mJ6_bitCount_0f7a4.2.2.1 45 = .ok (.iushr, 1) := by decide +kernel
theorem d_J6_bitCount_0f7a4_46 : decode mJ6_bitCount_0f7a4.2.2.1 46 = .ok (.iadd, 1) := by decide +kernel
theorem d_J6_bitCount_0f7a4_47 : decode mJ6_bitCount_0f7a4.2.2.1 47 = .ok (.istore_n 0, 1) := by decide +kernel
theorem d_J6_bitCount_0f7a4_48 : decode mJ6_bitCount_0f7a4.2.2.1 48 = .ok (.iload_n 0, 1) := by decide +kernel
theorem d_J6_bitCount_0f7a4_49 : decode mJ6_bitCount_0f7a4.2.2.1 49 = .ok (.bipush 63, 2) := by decide +kernel
theorem d_J6_bitCount_0f7a4_51 : decode mJ6_bitCount_0f7a4.2.2.1 51 = .ok (.iand, 1) := by decide +kernel
theorem d_J6_bitCount_0f7a4_52 : decode mJ6_bitCount_0f7a4.2.2.1 52 = .ok (.ireturn, 1) := by decide +kernel
theorem ini_18 : Cond.initialized "java/lang/Integer" ∈ tblG := tblG_in (inT1 (List.mem_of_getElem? (i := 23) rfl)) rfl
theorem ok_J6_bitCount_0f7a4 : e_m mJ6_bitCount_0f7a4 1 := ⟨tblG_in (inT6 (List.mem_of_getElem? (i := 34) rfl)) rfl, plainFor_of_name (by decide), rfl, ini_18, by decide +kernel, by decide⟩
theorem d_X9_share_57 : decode mX9_share.2.2.1 57 = .ok (.istore 8, 2) := by decide +kernel
theorem d_X9_share_59 : decode mX9_share.2.2.1 59 = .ok (.getstatic 104, 3) := by decide +kernel
theorem sl_9_104 : Cond.fieldLink (e_cn 9) 104 "SipMeter$Turns" "FACTORIALS" "[I" ∈ tblG := tblG_in (inT6 (List.mem_of_getElem? (i := 38) rfl)) rfl
theorem d_X9_share_62 : decode mX9_share.2.2.1 62 = .ok (.iload 8, 2) := by decide +kernel
theorem d_X9_share_64 : decode mX9_share.2.2.1 64 = .ok (.iaload, 1) := by decide +kernel
theorem d_X9_share_65 : decode mX9_share.2.2.1 65 = .ok (.i2l, 1) := by decide +kernel
theorem d_X9_share_66 : decode mX9_share.2.2.1 66 = .ok (.getstatic 104, 3) := by decide +kernel
theorem d_X9_share_69 : decode mX9_share.2.2.1 69 = .ok (.iload_n 3, 1) := by decide +kernel
theorem d_X9_share_70 : decode mX9_share.2.2.1 70 = .ok (.iconst 1, 1) := by decide +kernel
theorem d_X9_share_71 : decode mX9_share.2.2.1 71 = .ok (.isub, 1) := by decide +kernel
theorem d_X9_share_72 : decode mX9_share.2.2.1 72 = .ok (.iload 8, 2) := by decide +kernel
theorem d_X9_share_74 : decode mX9_share.2.2.1 74 = .ok (.isub, 1) := by decide +kernel
theorem d_X9_share_75 : decode mX9_share.2.2.1 75 = .ok (.iaload, 1) := by decide +kernel
theorem d_X9_share_76 : decode mX9_share.2.2.1 76 = .ok (.i2l, 1) := by decide +kernel
theorem d_X9_share_77 : decode mX9_share.2.2.1 77 = .ok (.lmul, 1) := by decide +kernel
theorem d_X9_share_78 : decode mX9_share.2.2.1 78 = .ok (.lstore 9, 2) := by decide +kernel
theorem d_X9_share_80 : decode mX9_share.2.2.1 80 = .ok (.lload 5, 2) := by decide +kernel
theorem d_X9_share_82 : decode mX9_share.2.2.1 82 = .ok (.lload 9, 2) := by decide +kernel
theorem d_X9_share_84 : decode mX9_share.2.2.1 84 = .ok (.aload_n 0, 1) := by decide +kernel
theorem d_X9_share_85 : decode mX9_share.2.2.1 85 = .ok (.getfield 11, 3) := by decide +kernel
theorem d_X9_share_88 : decode mX9_share.2.2.1 88 = .ok (.iload 7, 2) := by decide +kernel
theorem d_X9_share_90 : decode mX9_share.2.2.1 90 = .ok (.iload 4, 2) := by decide +kernel
theorem d_X9_share_92 : decode mX9_share.2.2.1 92 = .ok (.ior, 1) := by decide +kernel
theorem d_X9_share_93 : decode mX9_share.2.2.1 93 = .ok (.laload, 1) := by decide +kernel
theorem d_X9_share_94 : decode mX9_share.2.2.1 94 = .ok (.aload_n 0, 1) := by decide +kernel
theorem d_X9_share_95 : decode mX9_share.2.2.1 95 = .ok (.getfield 11, 3) := by decide +kernel
theorem d_X9_share_98 : decode mX9_share.2.2.1 98 = .ok (.iload 7, 2) := by decide +kernel
theorem d_X9_share_100 : decode mX9_share.2.2.1 100 = .ok (.laload, 1) := by decide +kernel
theorem d_X9_share_101 : decode mX9_share.2.2.1 101 = .ok (.lsub, 1) := by decide +kernel
theorem d_X9_share_102 : decode mX9_share.2.2.1 102 = .ok (.lmul, 1) := by decide +kernel
theorem d_X9_share_103 : decode mX9_share.2.2.1 103 = .ok (.ladd, 1) := by decide +kernel
theorem d_X9_share_104 : decode mX9_share.2.2.1 104 = .ok (.lstore 5, 2) := by decide +kernel
theorem d_X9_share_106 : decode mX9_share.2.2.1 106 = .ok (.iinc 7 1, 3) := by decide +kernel
theorem d_X9_share_109 : decode mX9_share.2.2.1 109 = .ok (.goto (-73), 3) := by decide +kernel
theorem d_X9_share_112 : decode mX9_share.2.2.1 112 = .ok (.lload 5, 2) := by decide +kernel
theorem d_X9_share_114 : decode mX9_share.2.2.1 114 = .ok (.invokestatic 107, 3) := by decide +kernel
def mJ9_abs_067f4 : MD := (15, yJ9_abs_067f4, cJ9_abs_067f4, 2, some .long)
theorem s_9_107 : e_siteS 9 107 mJ9_abs_067f4 := ⟨tblG_in (inT6 (List.mem_of_getElem? (i := 40) rfl)) rfl, tblG_in (inT6 (List.mem_of_getElem? (i := 41) rfl)) rfl⟩
theorem d_J9_abs_067f4_0 : decode mJ9_abs_067f4.2.2.1 0 = .ok (.lload_n 0, 1) := by decide +kernel
theorem d_J9_abs_067f4_1 : decode mJ9_abs_067f4.2.2.1 1 = .ok (.lconst 0, 1) := by decide +kernel
theorem d_J9_abs_067f4_2 : decode mJ9_abs_067f4.2.2.1 2 = .ok (.lcmp, 1) := by decide +kernel
theorem d_J9_abs_067f4_3 : decode mJ9_abs_067f4.2.2.1 3 = .ok (.ifCond .ge 8, 3) := by decide +kernel
theorem d_J9_abs_067f4_11 : decode mJ9_abs_067f4.2.2.1 11 = .ok (.lload_n 0, 1) := by decide +kernel
theorem d_J9_abs_067f4_12 : decode mJ9_abs_067f4.2.2.1 12 = .ok (.lreturn, 1) := by decide +kernel
theorem d_J9_abs_067f4_6 : decode mJ9_abs_067f4.2.2.1 6 = .ok (.lload_n 0, 1) := by decide +kernel
theorem d_J9_abs_067f4_7 : decode mJ9_abs_067f4.2.2.1 7 = .ok (.lneg, 1) := by decide +kernel
theorem d_J9_abs_067f4_8 : decode mJ9_abs_067f4.2.2.1 8 = .ok (.goto 4, 3) := by decide +kernel
theorem ok_J9_abs_067f4 : e_m mJ9_abs_067f4 1 := ⟨tblG_in (inT6 (List.mem_of_getElem? (i := 42) rfl)) rfl, by decide +kernel, rfl, ini_15, by decide +kernel, by decide⟩
theorem d_X9_share_117 : decode mX9_share.2.2.1 117 = .ok (.getstatic 104, 3) := by decide +kernel
theorem d_X9_share_120 : decode mX9_share.2.2.1 120 = .ok (.iload_n 3, 1) := by decide +kernel
theorem d_X9_share_121 : decode mX9_share.2.2.1 121 = .ok (.iaload, 1) := by decide +kernel
theorem d_X9_share_122 : decode mX9_share.2.2.1 122 = .ok (.i2l, 1) := by decide +kernel
theorem d_X9_share_123 : decode mX9_share.2.2.1 123 = .ok (.invokestatic 111, 3) := by decide +kernel
def mX9_commonDivisor : MD := (9, yX9_commonDivisor, cX9_commonDivisor, 11, some .long)
theorem s_9_111 : e_siteS 9 111 mX9_commonDivisor := ⟨tblG_in (inT6 (List.mem_of_getElem? (i := 43) rfl)) rfl, tblG_in (inT6 (List.mem_of_getElem? (i := 44) rfl)) rfl⟩
theorem d_X9_commonDivisor_0 : decode mX9_commonDivisor.2.2.1 0 = .ok (.lload_n 0, 1) := by decide +kernel
theorem d_X9_commonDivisor_1 : decode mX9_commonDivisor.2.2.1 1 = .ok (.lstore 4, 2) := by decide +kernel
theorem d_X9_commonDivisor_3 : decode mX9_commonDivisor.2.2.1 3 = .ok (.lload_n 2, 1) := by decide +kernel
theorem d_X9_commonDivisor_4 : decode mX9_commonDivisor.2.2.1 4 = .ok (.lstore 6, 2) := by decide +kernel
theorem d_X9_commonDivisor_6 : decode mX9_commonDivisor.2.2.1 6 = .ok (.iconst 0, 1) := by decide +kernel
theorem d_X9_commonDivisor_7 : decode mX9_commonDivisor.2.2.1 7 = .ok (.istore 8, 2) := by decide +kernel
theorem d_X9_commonDivisor_9 : decode mX9_commonDivisor.2.2.1 9 = .ok (.iload 8, 2) := by decide +kernel
theorem d_X9_commonDivisor_11 : decode mX9_commonDivisor.2.2.1 11 = .ok (.sipush 200, 3) := by decide +kernel
theorem d_X9_commonDivisor_14 : decode mX9_commonDivisor.2.2.1 14 = .ok (.if_icmp .ge 31, 3) := by decide +kernel
theorem d_X9_commonDivisor_17 : decode mX9_commonDivisor.2.2.1 17 = .ok (.lload 6, 2) := by decide +kernel
theorem d_X9_commonDivisor_19 : decode mX9_commonDivisor.2.2.1 19 = .ok (.lconst 0, 1) := by decide +kernel
theorem d_X9_commonDivisor_20 : decode mX9_commonDivisor.2.2.1 20 = .ok (.lcmp, 1) := by decide +kernel
theorem d_X9_commonDivisor_21 : decode mX9_commonDivisor.2.2.1 21 = .ok (.ifCond .eq 24, 3) := by decide +kernel
theorem d_X9_commonDivisor_45 : decode mX9_commonDivisor.2.2.1 45 = .ok (.lload 4, 2) := by decide +kernel
theorem d_X9_commonDivisor_47 : decode mX9_commonDivisor.2.2.1 47 = .ok (.lreturn, 1) := by decide +kernel
theorem d_X9_commonDivisor_24 : decode mX9_commonDivisor.2.2.1 24 = .ok (.lload 4, 2) := by decide +kernel
theorem d_X9_commonDivisor_26 : decode mX9_commonDivisor.2.2.1 26 = .ok (.lload 6, 2) := by decide +kernel
theorem d_X9_commonDivisor_28 : decode mX9_commonDivisor.2.2.1 28 = .ok (.lrem, 1) := by decide +kernel
theorem d_X9_commonDivisor_29 : decode mX9_commonDivisor.2.2.1 29 = .ok (.lstore 9, 2) := by decide +kernel
theorem d_X9_commonDivisor_31 : decode mX9_commonDivisor.2.2.1 31 = .ok (.lload 6, 2) := by decide +kernel
theorem d_X9_commonDivisor_33 : decode mX9_commonDivisor.2.2.1 33 = .ok (.lstore 4, 2) := by decide +kernel
theorem d_X9_commonDivisor_35 : decode mX9_commonDivisor.2.2.1 35 = .ok (.lload 9, 2) := by decide +kernel
theorem d_X9_commonDivisor_37 : decode mX9_commonDivisor.2.2.1 37 = .ok (.lstore 6, 2) := by decide +kernel
theorem d_X9_commonDivisor_39 : decode mX9_commonDivisor.2.2.1 39 = .ok (.iinc 8 1, 3) := by decide +kernel
theorem d_X9_commonDivisor_42 : decode mX9_commonDivisor.2.2.1 42 = .ok (.goto (-33), 3) := by decide +kernel
theorem ok_X9_commonDivisor : e_m mX9_commonDivisor 2 := ⟨tblG_in (inT6 (List.mem_of_getElem? (i := 45) rfl)) rfl, plainFor_of_name (by decide), rfl, ini_9, by decide +kernel, by decide⟩
theorem d_X9_share_126 : decode mX9_share.2.2.1 126 = .ok (.lstore 7, 2) := by decide +kernel
theorem d_X9_share_128 : decode mX9_share.2.2.1 128 = .ok (.lload 7, 2) := by decide +kernel
theorem d_X9_share_130 : decode mX9_share.2.2.1 130 = .ok (.lconst 0, 1) := by decide +kernel
theorem d_X9_share_131 : decode mX9_share.2.2.1 131 = .ok (.lcmp, 1) := by decide +kernel
theorem d_X9_share_132 : decode mX9_share.2.2.1 132 = .ok (.ifCond .ne 7, 3) := by decide +kernel
theorem d_X9_share_139 : decode mX9_share.2.2.1 139 = .ok (.iload_n 2, 1) := by decide +kernel
theorem d_X9_share_140 : decode mX9_share.2.2.1 140 = .ok (.ifCond .eq 8, 3) := by decide +kernel
theorem d_X9_share_148 : decode mX9_share.2.2.1 148 = .ok (.getstatic 104, 3) := by decide +kernel
theorem d_X9_share_151 : decode mX9_share.2.2.1 151 = .ok (.iload_n 3, 1) := by decide +kernel
theorem d_X9_share_152 : decode mX9_share.2.2.1 152 = .ok (.iaload, 1) := by decide +kernel
theorem d_X9_share_153 : decode mX9_share.2.2.1 153 = .ok (.i2l, 1) := by decide +kernel
theorem d_X9_share_154 : decode mX9_share.2.2.1 154 = .ok (.lload 7, 2) := by decide +kernel
theorem d_X9_share_156 : decode mX9_share.2.2.1 156 = .ok (.ldiv, 1) := by decide +kernel
theorem d_X9_share_157 : decode mX9_share.2.2.1 157 = .ok (.lreturn, 1) := by decide +kernel
theorem d_X9_share_143 : decode mX9_share.2.2.1 143 = .ok (.lload 5, 2) := by decide +kernel
end
/-! 42w.02 -/
section
theorem d_X9_share_145 : decode mX9_share.2.2.1 145 = .ok (.goto 9, 3) := by decide +kernel
theorem d_X9_share_135 : decode mX9_share.2.2.1 135 = .ok (.ldc2_w 98, 3) := by decide +kernel
theorem d_X9_share_138 : decode mX9_share.2.2.1 138 = .ok (.lreturn, 1) := by decide +kernel
theorem ok_X9_share : e_m mX9_share 2 := ⟨tblG_in (inT6 (List.mem_of_getElem? (i := 30) rfl)) rfl, plainFor_of_name (by decide), rfl, ini_9, by decide +kernel, by decide⟩
theorem d_X11_byTurns_101 : decode mX11_byTurns.2.2.1 101 = .ok (.lreturn, 1) := by decide +kernel
end
/-! 43.00 -/
section
def ws_J7_fill_d0a16_101 : List (Int × Int) := []
def as_J7_fill_d0a16_101 : List Int := [101]
def q_J7_fill_d0a16_101 (M0 M' : Mem) (r : Option PV) : Prop := St Tru ws_J7_fill_d0a16_101 as_J7_fill_d0a16_101 M0 M' ∧ r = none
set_option maxRecDepth 100000 in
set_option maxHeartbeats 4000000 in
theorem sp_J7_fill_d0a16_101 {l : Launch} {K : EC} {M0 : Mem} (hI : In Tru M0)  (a1 : Int) (ha1 : 0 ≤ a1 ∧ a1 ≤ 0)  : Tr l K 0 mJ7_fill_d0a16 0 [(0, (2, 101)), (1, (1, a1))] [] M0 (q_J7_fill_d0a16_101 M0) := by
  have hS : St Tru ws_J7_fill_d0a16_101 as_J7_fill_d0a16_101 M0 M0 := St.rf hI
  refine Tr.iconst (pc := 0) d_J7_fill_d0a16_0 (by decide) ?_
  refine Tr.istore_n (pc := 1) (i := 3) (ls2 := [(3, (0, 0)), (0, (2, 101)), (1, (1, a1))]) d_J7_fill_d0a16_1 rfl (by decide) rfl ?_
  refine Tr.aload_n (pc := 2) (i := 0) d_J7_fill_d0a16_2 rfl rfl ?_
  refine Tr.alen (pc := 3) d_J7_fill_d0a16_3 (ty_101 hS.1.1) (by decide) (by decide) ?_
  refine Tr.tp 256 rfl ?_
  refine Tr.istore (pc := 4) (i := 4) (ls2 := [(4, (0, 256)), (3, (0, 0)), (0, (2, 101)), (1, (1, a1))]) d_J7_fill_d0a16_4 (by decide) rfl ?_
  have J6 : ∀ (n6 : Nat) (M : Mem) (p6_3 : Int), St Tru ws_J7_fill_d0a16_101 as_J7_fill_d0a16_101 M0 M → (0 ≤ p6_3 ∧ p6_3 ≤ 256) → (256 - p6_3).toNat < n6 → Tr l K 0 mJ7_fill_d0a16 6 [(0, (2, 101)), (1, (1, a1)), (3, (0, p6_3)), (4, (0, 256))] [] M (q_J7_fill_d0a16_101 M0) := by
    intro n6
    induction n6 with
    | zero => intro M p6_3 hS bp6_3  hm6; exact absurd hm6 (Nat.not_lt_zero _)
    | succ n6 J6 =>
      intro M p6_3 hS bp6_3  hm6
      refine Tr.iload_n (pc := 6) (i := 3) d_J7_fill_d0a16_6 rfl rfl ?_
      refine Tr.iload (pc := 7) (i := 4) d_J7_fill_d0a16_7 rfl ?_
      refine Tr.icmp_ge (pc := 9) (tgt := 22) d_J7_fill_d0a16_9 rfl (fun c9 => ?_) (fun c9 => ?_)
      · exact Tr.vret (pc := 22) d_J7_fill_d0a16_22 rfl ⟨hS, rfl⟩
      · refine Tr.aload_n (pc := 12) (i := 0) d_J7_fill_d0a16_12 rfl rfl ?_
        refine Tr.iload_n (pc := 13) (i := 3) d_J7_fill_d0a16_13 rfl rfl ?_
        refine Tr.lload_n (pc := 14) (i := 1) d_J7_fill_d0a16_14 rfl rfl ?_
        refine Tr.tp 0 (by omega) ?_
        refine Tr.lastS (pc := 15) (P := St Tru ws_J7_fill_d0a16_101 as_J7_fill_d0a16_101 M0) d_J7_fill_d0a16_15 (ty_101 hS.1.1) (by omega) (by omega) (sa_101 hS (by decide) (by omega) trivial) (fun M15 hS w15 => ?_)
        refine Tr.iincV (pc := 16) (n2 := (p6_3 + 1)) (ls2 := [(3, (0, (p6_3 + 1))), (0, (2, 101)), (1, (1, a1)), (4, (0, 256))]) d_J7_fill_d0a16_16 rfl (by decide) ((w32_id (by omega)).trans (by omega)) rfl ?_
        refine Tr.goto (pc := 19) (tgt := 6) d_J7_fill_d0a16_19 rfl ?_
        refine Tr.pick [1, 2, 0, 3] (ls2 := [(0, (2, 101)), (1, (1, a1)), (3, (0, (p6_3 + 1))), (4, (0, 256))]) rfl ?_
        exact J6 _ _ hS (by omega) (by omega)
  refine Tr.pick [2, 3, 1, 0] (ls2 := [(0, (2, 101)), (1, (1, a1)), (3, (0, 0)), (4, (0, 256))]) rfl ?_
  exact J6 _ _ _ hS (by omega) (Nat.lt_succ_self _)

def ws_X9_rank_100 : List (Int × Int) := []
def as_X9_rank_100 : List Int := []
def q_X9_rank_100 (a1 : Int) (M0 M' : Mem) (r : Option PV) : Prop := St Tru ws_X9_rank_100 as_X9_rank_100 M0 M' ∧ ∃ v : Int, r = some (0, v) ∧ 0 ≤ v ∧ v ≤ 64 ∧ ((0 ≤ a1 ∧ a1 ≤ 59) → v = rk (rd M0 100 2) a1)
set_option maxRecDepth 100000 in
set_option maxHeartbeats 4000000 in
theorem sp_X9_rank_100 {l : Launch} {K : EC} {M0 : Mem} (hI : In Tru M0)  (a1 : Int) (ha1 : (-2147483648) ≤ a1 ∧ a1 ≤ 2147483647)  : Tr l K 1 mX9_rank 0 [(0, (2, 100)), (1, (0, a1))] [] M0 (q_X9_rank_100 a1 M0) := by
  have hS : St Tru ws_X9_rank_100 as_X9_rank_100 M0 M0 := St.rf hI
  refine Tr.aload_n (pc := 0) (i := 0) d_X9_rank_0 rfl rfl ?_
  refine Tr.getf (pc := 1) d_X9_rank_1 f_9_28 (by decide) (by decide) (ty_100 hS.1.1) ?_
  refine Tr.gen (P := fun v => (-9223372036854775808) ≤ v ∧ v ≤ 9223372036854775807) (ir_100_2 hS.1.2.1) (fun r1 er1 br1 => ?_)
  refine Tr.lconst (pc := 4) (v := 1) d_X9_rank_4 rfl (by decide) ?_
  refine Tr.iload_n (pc := 5) (i := 1) d_X9_rank_5 rfl rfl ?_
  refine Tr.lshl (pc := 6) d_X9_rank_6 ?_
  refine Tr.gen (P := fun v => (-9223372036854775808) ≤ v ∧ v ≤ 9223372036854775807) (i64_b _) (fun r6 er6 br6 => ?_)
  refine Tr.lconst (pc := 7) (v := 1) d_X9_rank_7 rfl (by decide) ?_
  refine Tr.lsub (pc := 8) d_X9_rank_8 ?_
  refine Tr.gen (P := fun v => (-9223372036854775808) ≤ v ∧ v ≤ 9223372036854775807) (w64_b _) (fun r8 er8 br8 => ?_)
  refine Tr.land (pc := 9) d_X9_rank_9 ?_
  refine Tr.gen (P := fun v => (-9223372036854775808) ≤ v ∧ v ≤ 9223372036854775807) (i64_b _) (fun r9 er9 br9 => ?_)
  refine Tr.callS (pc := 10) (as := [_]) d_X9_rank_10 s_9_89 ok_J13_bitCount_95d88 rfl rfl (Nat.le_of_ble_eq_true rfl) (Nat.le_of_ble_eq_true rfl) ?_
  refine Tr.imp (Tr.deep (by decide) (sp_J13_bitCount_95d88 hS.1 r9 (by omega))) ?_
  rintro M10 _ ⟨h10, r10, rfl, lr10, ur10, wr10⟩
  have hS := St.tr hS h10 (by decide) (by decide)
  refine Tr.sc [(0, r10)] rfl ?_
  exact Tr.iret (pc := 13) d_X9_rank_13 rfl ⟨hS, _, rfl, by omega, by omega, (fun h => by have h8 := rk_v (a := r1) h; rw [er6, er8, er9] at h8; have h9 := wr10.1; rw [h8] at h9; rw [er1]; exact h9)⟩

def ws_X9_bitOf_100 : List (Int × Int) := []
def as_X9_bitOf_100 : List Int := []
def q_X9_bitOf_100 (a1 : Int) (M0 M' : Mem) (r : Option PV) : Prop := St Tru ws_X9_bitOf_100 as_X9_bitOf_100 M0 M' ∧ ∃ v : Int, r = some (0, v) ∧ (-2147483648) ≤ v ∧ v ≤ 2147483647 ∧ ((0 ≤ a1 ∧ a1 ≤ 59) → v = f_ishl 1 (rk (rd M0 100 2) a1))
set_option maxRecDepth 100000 in
set_option maxHeartbeats 4000000 in
theorem sp_X9_bitOf_100 {l : Launch} {K : EC} {M0 : Mem} (hI : In Tru M0)  (a1 : Int) (ha1 : (-2147483648) ≤ a1 ∧ a1 ≤ 2147483647)  : Tr l K 2 mX9_bitOf 0 [(0, (2, 100)), (1, (0, a1))] [] M0 (q_X9_bitOf_100 a1 M0) := by
  have hS : St Tru ws_X9_bitOf_100 as_X9_bitOf_100 M0 M0 := St.rf hI
  refine Tr.iconst (pc := 0) d_X9_bitOf_0 (by decide) ?_
  refine Tr.aload_n (pc := 1) (i := 0) d_X9_bitOf_1 rfl rfl ?_
  refine Tr.iload_n (pc := 2) (i := 1) d_X9_bitOf_2 rfl rfl ?_
  refine Tr.callV (pc := 3) (as := [_]) d_X9_bitOf_3 s_9_95 ok_X9_rank rfl rfl (Nat.le_of_ble_eq_true rfl) (Nat.le_of_ble_eq_true rfl) (by decide) (ty_100 hS.1.1) ?_
  refine Tr.imp (Tr.deep (by decide) (sp_X9_rank_100 hS.1 a1 (by omega))) ?_
  rintro M3 _ ⟨h3, r3, rfl, lr3, ur3, z3_0⟩
  have hS := St.tr hS h3 (by decide) (by decide)
  refine Tr.sc [(0, r3), (0, 1)] rfl ?_
  refine Tr.ishl (pc := 6) d_X9_bitOf_6 ?_
  refine Tr.gen (P := fun v => (-2147483648) ≤ v ∧ v ≤ 2147483647) (i32_b _) (fun r6 er6 br6 => ?_)
  exact Tr.iret (pc := 7) d_X9_bitOf_7 rfl ⟨hS, _, rfl, by omega, by omega, (fun h => by rw [← er6, z3_0 h])⟩

def ws_X9_spread_100 : List (Int × Int) := []
def as_X9_spread_100 : List Int := [101, 102]
def q_X9_spread_100 (M0 M' : Mem) (r : Option PV) : Prop := St Tru ws_X9_spread_100 as_X9_spread_100 M0 M' ∧ r = none
set_option maxRecDepth 100000 in
set_option maxHeartbeats 4000000 in
theorem sp_X9_spread_100 {l : Launch} {K : EC} {M0 : Mem} (hI : In Tru M0)  (a1 : Int) (ha1 : (-2147483648) ≤ a1 ∧ a1 ≤ 2147483647) (a2 : Int) (ha2 : (-2147483648) ≤ a2 ∧ a2 ≤ 2147483647) (a3 : Int) (ha3 : (-2147483648) ≤ a3 ∧ a3 ≤ 2147483647) (a4 : Int) (ha4 : (-1) ≤ a4 ∧ a4 ≤ 999) (a5 : Int) (ha5 : (-2147483648) ≤ a5 ∧ a5 ≤ 2147483647)  : Tr l K 0 mX9_spread 0 [(0, (2, 100)), (1, (0, a1)), (2, (0, a2)), (3, (0, a3)), (4, (0, a4)), (5, (0, a5))] [] M0 (q_X9_spread_100 M0) := by
  have hS : St Tru ws_X9_spread_100 as_X9_spread_100 M0 M0 := St.rf hI
  refine Tr.iload_n (pc := 0) (i := 3) d_X9_spread_0 rfl rfl ?_
  refine Tr.iload_n (pc := 1) (i := 2) d_X9_spread_1 rfl rfl ?_
  refine Tr.icmp_gt (pc := 2) (tgt := 6) d_X9_spread_2 rfl (fun c2 => ?_) (fun c2 => ?_)
  · refine Tr.iconst (pc := 6) d_X9_spread_6 (by decide) ?_
    refine Tr.istore (pc := 7) (i := 6) (ls2 := [(6, (0, 1)), (0, (2, 100)), (1, (0, a1)), (2, (0, a2)), (3, (0, a3)), (4, (0, a4)), (5, (0, a5))]) d_X9_spread_7 (by decide) rfl ?_
    have J9 : ∀ (n9 : Nat) (M : Mem) (p9_6 : Int), St Tru ws_X9_spread_100 as_X9_spread_100 M0 M → (1 ≤ p9_6 ∧ p9_6 ≤ 256) → (256 - p9_6).toNat < n9 → Tr l K 0 mX9_spread 9 [(0, (2, 100)), (1, (0, a1)), (2, (0, a2)), (3, (0, a3)), (4, (0, a4)), (5, (0, a5)), (6, (0, p9_6))] [] M (q_X9_spread_100 M0) := by
      intro n9
      induction n9 with
      | zero => intro M p9_6 hS bp9_6  hm9; exact absurd hm9 (Nat.not_lt_zero _)
      | succ n9 J9 =>
        intro M p9_6 hS bp9_6  hm9
        refine Tr.iload (pc := 9) (i := 6) d_X9_spread_9 rfl ?_
        refine Tr.sipush (pc := 11) d_X9_spread_11 rfl (by decide) ?_
        refine Tr.icmp_ge (pc := 14) (tgt := 117) d_X9_spread_14 rfl (fun c14 => ?_) (fun c14 => ?_)
        · exact Tr.vret (pc := 117) d_X9_spread_117 rfl ⟨hS, rfl⟩
        · refine Tr.iload (pc := 17) (i := 6) d_X9_spread_17 rfl ?_
          refine Tr.iload_n (pc := 19) (i := 1) d_X9_spread_19 rfl rfl ?_
          refine Tr.iand (pc := 20) d_X9_spread_20 ?_
          refine Tr.gen (P := fun v => (-2147483648) ≤ v ∧ v ≤ 2147483647) (i32_b _) (fun r20 er20 br20 => ?_)
          have J111 : ∀ (M : Mem), St Tru ws_X9_spread_100 as_X9_spread_100 M0 M → Tr l K 0 mX9_spread 111 [(0, (2, 100)), (1, (0, a1)), (2, (0, a2)), (3, (0, a3)), (4, (0, a4)), (5, (0, a5)), (6, (0, p9_6))] [] M (q_X9_spread_100 M0) := by
            intro M  hS  
            refine Tr.iincV (pc := 111) (n2 := (p9_6 + 1)) (ls2 := [(6, (0, (p9_6 + 1))), (0, (2, 100)), (1, (0, a1)), (2, (0, a2)), (3, (0, a3)), (4, (0, a4)), (5, (0, a5))]) d_X9_spread_111 rfl (by decide) ((w32_id (by omega)).trans (by omega)) rfl ?_
            refine Tr.goto (pc := 114) (tgt := 9) d_X9_spread_114 rfl ?_
            refine Tr.pick [1, 2, 3, 4, 5, 6, 0] (ls2 := [(0, (2, 100)), (1, (0, a1)), (2, (0, a2)), (3, (0, a3)), (4, (0, a4)), (5, (0, a5)), (6, (0, (p9_6 + 1)))]) rfl ?_
            exact J9 _ _ hS (by omega) (by omega)
          refine Tr.if_eq (pc := 21) (tgt := 111) d_X9_spread_21 rfl (fun c21 => ?_) (fun c21 => ?_)
          · refine Tr.pick [0, 1, 2, 3, 4, 5, 6] (ls2 := [(0, (2, 100)), (1, (0, a1)), (2, (0, a2)), (3, (0, a3)), (4, (0, a4)), (5, (0, a5)), (6, (0, p9_6))]) rfl ?_
            exact J111 _ hS 
          · refine Tr.iload_n (pc := 24) (i := 2) d_X9_spread_24 rfl rfl ?_
            refine Tr.aload_n (pc := 25) (i := 0) d_X9_spread_25 rfl rfl ?_
            refine Tr.getf (pc := 26) d_X9_spread_26 f_9_15 (by decide) (by decide) (ty_100 hS.1.1) ?_
            refine Tr.tp 102 (fx_100_1 hS.1.1) ?_
            refine Tr.iload (pc := 29) (i := 6) d_X9_spread_29 rfl ?_
            refine Tr.iald (pc := 31) d_X9_spread_31 (ty_102 hS.1.1) (by omega) (by omega) ?_
            refine Tr.gen (P := fun v => (-2147483648) ≤ v ∧ v ≤ 2147483647) (ar_102 hS.1.2.1 _) (fun r31 er31 br31 => ?_)
            refine Tr.icmp_le (pc := 32) (tgt := 68) d_X9_spread_32 rfl (fun c32 => ?_) (fun c32 => ?_)
            · refine Tr.iload_n (pc := 68) (i := 3) d_X9_spread_68 rfl rfl ?_
              refine Tr.aload_n (pc := 69) (i := 0) d_X9_spread_69 rfl rfl ?_
              refine Tr.getf (pc := 70) d_X9_spread_70 f_9_15 (by decide) (by decide) (ty_100 hS.1.1) ?_
              refine Tr.tp 102 (fx_100_1 hS.1.1) ?_
              refine Tr.iload (pc := 73) (i := 6) d_X9_spread_73 rfl ?_
              refine Tr.iald (pc := 75) d_X9_spread_75 (ty_102 hS.1.1) (by omega) (by omega) ?_
              refine Tr.tp r31 er31 ?_
              refine Tr.icmp_le (pc := 76) (tgt := 111) d_X9_spread_76 rfl (fun c76 => ?_) (fun c76 => ?_)
              · refine Tr.pick [0, 1, 2, 3, 4, 5, 6] (ls2 := [(0, (2, 100)), (1, (0, a1)), (2, (0, a2)), (3, (0, a3)), (4, (0, a4)), (5, (0, a5)), (6, (0, p9_6))]) rfl ?_
                exact J111 _ hS 
              · refine Tr.aload_n (pc := 79) (i := 0) d_X9_spread_79 rfl rfl ?_
                refine Tr.getf (pc := 80) d_X9_spread_80 f_9_11 (by decide) (by decide) (ty_100 hS.1.1) ?_
                refine Tr.tp 101 (fx_100_0 hS.1.1) ?_
                refine Tr.iload (pc := 83) (i := 6) d_X9_spread_83 rfl ?_
                refine Tr.dup2 (pc := 85) d_X9_spread_85 ne01 ne21 ?_
                refine Tr.lald (pc := 86) d_X9_spread_86 (ty_101 hS.1.1) (by omega) (by omega) ?_
                refine Tr.gen (P := fun v => (-9223372036854775808) ≤ v ∧ v ≤ 9223372036854775807) (ar_101 hS.1.2.1 _) (fun r86 er86 br86 => ?_)
                refine Tr.iload (pc := 87) (i := 4) d_X9_spread_87 rfl ?_
                refine Tr.i2l (pc := 89) d_X9_spread_89 ?_
                refine Tr.iload_n (pc := 90) (i := 3) d_X9_spread_90 rfl rfl ?_
                refine Tr.aload_n (pc := 91) (i := 0) d_X9_spread_91 rfl rfl ?_
                refine Tr.getf (pc := 92) d_X9_spread_92 f_9_15 (by decide) (by decide) (ty_100 hS.1.1) ?_
                refine Tr.tp 102 (fx_100_1 hS.1.1) ?_
                refine Tr.iload (pc := 95) (i := 6) d_X9_spread_95 rfl ?_
                refine Tr.iald (pc := 97) d_X9_spread_97 (ty_102 hS.1.1) (by omega) (by omega) ?_
                refine Tr.tp r31 er31 ?_
                refine Tr.isub (pc := 98) d_X9_spread_98 ?_
                refine Tr.gen (P := fun v => (-2147483648) ≤ v ∧ v ≤ 2147483647) (w32_b _) (fun r98 er98 br98 => ?_)
                refine Tr.i2l (pc := 99) d_X9_spread_99 ?_
                refine Tr.lmul (pc := 100) d_X9_spread_100 ?_
                refine Tr.gen (P := fun v => (-9223372036854775808) ≤ v ∧ v ≤ 9223372036854775807) (w64_b _) (fun r100 er100 br100 => ?_)
                refine Tr.ladd (pc := 101) d_X9_spread_101 ?_
                refine Tr.gen (P := fun v => (-9223372036854775808) ≤ v ∧ v ≤ 9223372036854775807) (w64_b _) (fun r101 er101 br101 => ?_)
                refine Tr.lastS (pc := 102) (P := St Tru ws_X9_spread_100 as_X9_spread_100 M0) d_X9_spread_102 (ty_101 hS.1.1) (by omega) (by omega) (sa_101 hS (by decide) (by omega) trivial) (fun M102 hS w102 => ?_)
                refine Tr.aload_n (pc := 103) (i := 0) d_X9_spread_103 rfl rfl ?_
                refine Tr.getf (pc := 104) d_X9_spread_104 f_9_15 (by decide) (by decide) (ty_100 hS.1.1) ?_
                refine Tr.tp 102 (fx_100_1 hS.1.1) ?_
                refine Tr.iload (pc := 107) (i := 6) d_X9_spread_107 rfl ?_
                refine Tr.iload_n (pc := 109) (i := 3) d_X9_spread_109 rfl rfl ?_
                refine Tr.iastS (pc := 110) (P := St Tru ws_X9_spread_100 as_X9_spread_100 M0) d_X9_spread_110 (ty_102 hS.1.1) (by omega) (by omega) (sa_102 hS (by decide) (by omega) trivial) (fun M110 hS w110 => ?_)
                refine Tr.pick [0, 1, 2, 3, 4, 5, 6] (ls2 := [(0, (2, 100)), (1, (0, a1)), (2, (0, a2)), (3, (0, a3)), (4, (0, a4)), (5, (0, a5)), (6, (0, p9_6))]) rfl ?_
                exact J111 _ hS 
            · refine Tr.aload_n (pc := 35) (i := 0) d_X9_spread_35 rfl rfl ?_
              refine Tr.getf (pc := 36) d_X9_spread_36 f_9_11 (by decide) (by decide) (ty_100 hS.1.1) ?_
              refine Tr.tp 101 (fx_100_0 hS.1.1) ?_
              refine Tr.iload (pc := 39) (i := 6) d_X9_spread_39 rfl ?_
              refine Tr.dup2 (pc := 41) d_X9_spread_41 ne01 ne21 ?_
              refine Tr.lald (pc := 42) d_X9_spread_42 (ty_101 hS.1.1) (by omega) (by omega) ?_
              refine Tr.gen (P := fun v => (-9223372036854775808) ≤ v ∧ v ≤ 9223372036854775807) (ar_101 hS.1.2.1 _) (fun r42 er42 br42 => ?_)
              refine Tr.iload (pc := 43) (i := 5) d_X9_spread_43 rfl ?_
              refine Tr.i2l (pc := 45) d_X9_spread_45 ?_
              refine Tr.iload (pc := 46) (i := 4) d_X9_spread_46 rfl ?_
              refine Tr.i2l (pc := 48) d_X9_spread_48 ?_
              refine Tr.iload_n (pc := 49) (i := 3) d_X9_spread_49 rfl rfl ?_
              refine Tr.iload_n (pc := 50) (i := 2) d_X9_spread_50 rfl rfl ?_
              refine Tr.isub (pc := 51) d_X9_spread_51 ?_
              refine Tr.gen (P := fun v => (-2147483648) ≤ v ∧ v ≤ 2147483647) (w32_b _) (fun r51 er51 br51 => ?_)
              refine Tr.i2l (pc := 52) d_X9_spread_52 ?_
              refine Tr.lmul (pc := 53) d_X9_spread_53 ?_
              refine Tr.gen (P := fun v => (-9223372036854775808) ≤ v ∧ v ≤ 9223372036854775807) (w64_b _) (fun r53 er53 br53 => ?_)
              refine Tr.ladd (pc := 54) d_X9_spread_54 ?_
              refine Tr.gen (P := fun v => (-9223372036854775808) ≤ v ∧ v ≤ 9223372036854775807) (w64_b _) (fun r54 er54 br54 => ?_)
              refine Tr.ladd (pc := 55) d_X9_spread_55 ?_
              refine Tr.gen (P := fun v => (-9223372036854775808) ≤ v ∧ v ≤ 9223372036854775807) (w64_b _) (fun r55 er55 br55 => ?_)
              refine Tr.lastS (pc := 56) (P := St Tru ws_X9_spread_100 as_X9_spread_100 M0) d_X9_spread_56 (ty_101 hS.1.1) (by omega) (by omega) (sa_101 hS (by decide) (by omega) trivial) (fun M56 hS w56 => ?_)
              refine Tr.aload_n (pc := 57) (i := 0) d_X9_spread_57 rfl rfl ?_
              refine Tr.getf (pc := 58) d_X9_spread_58 f_9_15 (by decide) (by decide) (ty_100 hS.1.1) ?_
              refine Tr.tp 102 (fx_100_1 hS.1.1) ?_
              refine Tr.iload (pc := 61) (i := 6) d_X9_spread_61 rfl ?_
              refine Tr.iload_n (pc := 63) (i := 3) d_X9_spread_63 rfl rfl ?_
              refine Tr.iastS (pc := 64) (P := St Tru ws_X9_spread_100 as_X9_spread_100 M0) d_X9_spread_64 (ty_102 hS.1.1) (by omega) (by omega) (sa_102 hS (by decide) (by omega) trivial) (fun M64 hS w64 => ?_)
              refine Tr.goto (pc := 65) (tgt := 111) d_X9_spread_65 rfl ?_
              refine Tr.pick [0, 1, 2, 3, 4, 5, 6] (ls2 := [(0, (2, 100)), (1, (0, a1)), (2, (0, a2)), (3, (0, a3)), (4, (0, a4)), (5, (0, a5)), (6, (0, p9_6))]) rfl ?_
              exact J111 _ hS 
    refine Tr.pick [1, 2, 3, 4, 5, 6, 0] (ls2 := [(0, (2, 100)), (1, (0, a1)), (2, (0, a2)), (3, (0, a3)), (4, (0, a4)), (5, (0, a5)), (6, (0, 1))]) rfl ?_
    exact J9 _ _ _ hS (by omega) (Nat.lt_succ_self _)
  · exact Tr.vret (pc := 5) d_X9_spread_5 rfl ⟨hS, rfl⟩

def ws_X9_weigh_100_7_63 : List (Int × Int) := [(100, 2), (100, 3)]
def as_X9_weigh_100_7_63 : List Int := [101, 102]
def q_X9_weigh_100_7_63 (a3 : Int) (M0 M' : Mem) (r : Option PV) : Prop := St Tru ws_X9_weigh_100_7_63 as_X9_weigh_100_7_63 M0 M' ∧ r = none ∧ (TU M' a3 ∧ rd M' 100 3 = a3)
set_option maxRecDepth 100000 in
set_option maxHeartbeats 4000000 in
theorem sp_X9_weigh_100_7_63 {l : Launch} {K : EC} {M0 : Mem} (hI : In Tru M0)  (a3 : Int) (ha3 : 0 ≤ a3 ∧ a3 ≤ 2016)  (hq0 : a3 < rd M0 63 0) (hq1 : TW M0) : Tr l K 3 mX9_weigh 0 [(0, (2, 100)), (1, (2, 7)), (2, (2, 63)), (3, (0, a3))] [] M0 (q_X9_weigh_100_7_63 a3 M0) := by
  have hS : St Tru ws_X9_weigh_100_7_63 as_X9_weigh_100_7_63 M0 M0 := St.rf hI
  obtain ⟨g63_1, eg63_1⟩ : ∃ v, rd M0 63 1 = v := ⟨_, rfl⟩
  have bg63_1 : (-1000000000) ≤ g63_1 ∧ g63_1 ≤ 1000000000 := by rw [← eg63_1]; exact ir_63_1 hI.2.1
  obtain ⟨g63_0, eg63_0⟩ : ∃ v, rd M0 63 0 = v := ⟨_, rfl⟩
  have bg63_0 : (-2147483648) ≤ g63_0 ∧ g63_0 ≤ 2147483647 := by rw [← eg63_0]; exact ir_63_0 hI.2.1
  obtain ⟨g63_7, eg63_7⟩ : ∃ v, rd M0 63 7 = v := ⟨_, rfl⟩
  have bg63_7 : (-2147483648) ≤ g63_7 ∧ g63_7 ≤ 2147483647 := by rw [← eg63_7]; exact ir_63_7 hI.2.1
  refine Tr.aload_n (pc := 0) (i := 0) d_X9_weigh_0 rfl rfl ?_
  refine Tr.getf (pc := 1) d_X9_weigh_1 f_9_19 (by decide) (by decide) (ty_100 hS.1.1) ?_
  refine Tr.gen (P := fun v => (-2147483648) ≤ v ∧ v ≤ 2147483647) (ir_100_3 hS.1.2.1) (fun r1 er1 br1 => ?_)
  refine Tr.iload_n (pc := 4) (i := 3) d_X9_weigh_4 rfl rfl ?_
  refine Tr.icmp_ne (pc := 5) (tgt := 9) d_X9_weigh_5 rfl (fun c5 => ?_) (fun c5 => ?_)
  · refine Tr.aload_n (pc := 9) (i := 0) d_X9_weigh_9 rfl rfl ?_
    refine Tr.iload_n (pc := 10) (i := 3) d_X9_weigh_10 rfl rfl ?_
    refine Tr.putfS (pc := 11) (P := St Tru ws_X9_weigh_100_7_63 as_X9_weigh_100_7_63 M0) d_X9_weigh_11 f_9_19 (by decide) (by decide) (ty_100 hS.1.1) (st_100_3 hS (by decide) (by omega) trivial) (fun M11 hS w11 => ?_)
    refine Tr.aload_n (pc := 14) (i := 0) d_X9_weigh_14 rfl rfl ?_
    refine Tr.aload_n (pc := 15) (i := 2) d_X9_weigh_15 rfl rfl ?_
    refine Tr.getf (pc := 16) d_X9_weigh_16 f_9_23 (by decide) (by decide) (ty_63 hS.1.1) ?_
    refine Tr.gen (P := fun v => v = tref g63_1 5) (tl_ref hS ((Wr.b w11 rfl).trans eg63_1) (by decide)) (fun t16 et16 bt16 => ?_)
    refine Tr.iload_n (pc := 19) (i := 3) d_X9_weigh_19 rfl rfl ?_
    have nk20_0 : rd M11 63 0 = g63_0 := ((Wr.b w11 rfl).trans eg63_0)
    have nk20_7 : rd M11 63 7 = g63_7 := ((Wr.b w11 rfl).trans eg63_7)
    have nn20 := tl_n hS ((Wr.b w11 rfl).trans eg63_1)
    refine Tr.lald (pc := 20) d_X9_weigh_20 (tl_tyL hS ((Wr.b w11 rfl).trans eg63_1) bt16) (by omega) (by omega) ?_
    refine Tr.gen (P := fun v => (-9223372036854775808) ≤ v ∧ v ≤ 9223372036854775807) (tl_eL hS ((Wr.b w11 rfl).trans eg63_1) bt16 (by omega) (by omega)) (fun r20 er20 br20 => ?_)
    refine Tr.putfS (pc := 21) (P := St Tru ws_X9_weigh_100_7_63 as_X9_weigh_100_7_63 M0) d_X9_weigh_21 f_9_28 (by decide) (by decide) (ty_100 hS.1.1) (st_100_2 hS (by decide) (by omega) trivial) (fun M21 hS w21 => ?_)
    have htu := TU.new (a := a3) hS w21 (by rw [et16]; exact er20)
    refine Tr.aload_n (pc := 24) (i := 0) d_X9_weigh_24 rfl rfl ?_
    refine Tr.getf (pc := 25) d_X9_weigh_25 f_9_11 (by decide) (by decide) (ty_100 hS.1.1) ?_
    refine Tr.tp 101 (fx_100_0 hS.1.1) ?_
    refine Tr.lconst (pc := 28) (v := 0) d_X9_weigh_28 rfl (by decide) ?_
    refine Tr.callS (pc := 29) (as := [_, _]) d_X9_weigh_29 s_9_31 ok_J7_fill_d0a16 rfl rfl (Nat.le_of_ble_eq_true rfl) (Nat.le_of_ble_eq_true rfl) ?_
    refine Tr.imp (Tr.deep (by decide) (sp_J7_fill_d0a16_101 hS.1 0 (by omega))) ?_
    rintro M29 _ ⟨h29, rfl⟩
    have hS := St.tr hS h29 (by decide) (by decide)
    refine Tr.sc [] rfl ?_
    refine Tr.aload_n (pc := 32) (i := 0) d_X9_weigh_32 rfl rfl ?_
    refine Tr.getf (pc := 33) d_X9_weigh_33 f_9_15 (by decide) (by decide) (ty_100 hS.1.1) ?_
    refine Tr.tp 102 (fx_100_1 hS.1.1) ?_
    refine Tr.iconst (pc := 36) d_X9_weigh_36 (by decide) ?_
    refine Tr.callS (pc := 37) (as := [_, _]) d_X9_weigh_37 s_9_37 ok_J7_fill_53178 rfl rfl (Nat.le_of_ble_eq_true rfl) (Nat.le_of_ble_eq_true rfl) ?_
    refine Tr.imp (sp_fill (N := 256) (ty_102 hS.1.1) (by decide)) ?_
    rintro _ _ ⟨rfl, rfl⟩
    refine Tr.nmA (P := St Tru ws_X9_weigh_100_7_63 as_X9_weigh_100_7_63 M0) (sf_102 (v := (-1)) 256 hS (by decide) (by omega) trivial) (fil_wa _ _ _ _) (fun M37 hS w37 => ?_)
    refine Tr.sc [] rfl ?_
    refine Tr.aload_n (pc := 40) (i := 2) d_X9_weigh_40 rfl rfl ?_
    refine Tr.getf (pc := 41) d_X9_weigh_41 f_9_40 (by decide) (by decide) (ty_63 hS.1.1) ?_
    refine Tr.gen (P := fun v => v = tref g63_1 1) (tl_ref hS ((Wa.b w37 rfl).trans ((St.kp h29 (by decide) (by decide) (by decide)).trans ((Wr.b w21 rfl).trans ((Wr.b w11 rfl).trans eg63_1)))) (by decide)) (fun t41 et41 bt41 => ?_)
    refine Tr.iload_n (pc := 44) (i := 3) d_X9_weigh_44 rfl rfl ?_
    have nk45_0 : rd M37 63 0 = g63_0 := ((Wa.b w37 rfl).trans ((St.kp h29 (by decide) (by decide) (by decide)).trans ((Wr.b w21 rfl).trans ((Wr.b w11 rfl).trans eg63_0))))
    have nk45_7 : rd M37 63 7 = g63_7 := ((Wa.b w37 rfl).trans ((St.kp h29 (by decide) (by decide) (by decide)).trans ((Wr.b w21 rfl).trans ((Wr.b w11 rfl).trans eg63_7))))
    have nn45 := tl_n hS ((Wa.b w37 rfl).trans ((St.kp h29 (by decide) (by decide) (by decide)).trans ((Wr.b w21 rfl).trans ((Wr.b w11 rfl).trans eg63_1))))
    refine Tr.iald (pc := 45) d_X9_weigh_45 (tl_tyI hS ((Wa.b w37 rfl).trans ((St.kp h29 (by decide) (by decide) (by decide)).trans ((Wr.b w21 rfl).trans ((Wr.b w11 rfl).trans eg63_1)))) (j := 1) (by decide) (by decide) bt41) (by omega) (by omega) ?_
    refine Tr.gen (P := fun v => 0 ≤ v ∧ v ≤ 5) (tl_eP hS ((Wa.b w37 rfl).trans ((St.kp h29 (by decide) (by decide) (by decide)).trans ((Wr.b w21 rfl).trans ((Wr.b w11 rfl).trans eg63_1)))) (j := 1) (by decide) (by decide) bt41 (by omega) (by omega)) (fun r45 er45 br45 => ?_)
    refine Tr.istore (pc := 46) (i := 4) (ls2 := [(4, (0, r45)), (0, (2, 100)), (1, (2, 7)), (2, (2, 63)), (3, (0, a3))]) d_X9_weigh_46 (by decide) rfl ?_
    refine Tr.aload_n (pc := 48) (i := 1) d_X9_weigh_48 rfl rfl ?_
    refine Tr.getf (pc := 49) d_X9_weigh_49 f_9_43 (by decide) (by decide) (ty_7 hS.1.1) ?_
    refine Tr.tp 9 (fx_7_5 hS.1.1) ?_
    refine Tr.iload (pc := 52) (i := 4) d_X9_weigh_52 rfl ?_
    refine Tr.iconst (pc := 54) d_X9_weigh_54 (by decide) ?_
    refine Tr.imul (pc := 55) d_X9_weigh_55 ?_
    refine Tr.tp (4 * r45) ((w32_id (by omega)).trans (by omega)) ?_
    refine Tr.iconst (pc := 56) d_X9_weigh_56 (by decide) ?_
    refine Tr.iadd (pc := 57) d_X9_weigh_57 ?_
    refine Tr.tp (4 * r45 + 2) ((w32_id (by omega)).trans (by omega)) ?_
    refine Tr.iald (pc := 58) d_X9_weigh_58 (ty_9 hS.1.1) (by omega) (by omega) ?_
    refine Tr.gen (P := fun v => (-1) ≤ v ∧ v ≤ 999) (ar_9 hS.1.2.1 _) (fun r58 er58 br58 => ?_)
    refine Tr.istore (pc := 59) (i := 5) (ls2 := [(5, (0, r58)), (4, (0, r45)), (0, (2, 100)), (1, (2, 7)), (2, (2, 63)), (3, (0, a3))]) d_X9_weigh_59 (by decide) rfl ?_
    refine Tr.aload_n (pc := 61) (i := 1) d_X9_weigh_61 rfl rfl ?_
    refine Tr.iload (pc := 62) (i := 4) d_X9_weigh_62 rfl ?_
    refine Tr.callV (pc := 64) (as := [_]) d_X9_weigh_64 s_9_48 ok_X3_wakeCost rfl rfl (Nat.le_of_ble_eq_true rfl) (Nat.le_of_ble_eq_true rfl) (by decide) (ty_7 hS.1.1) ?_
    refine Tr.imp (Tr.deep (by decide) (sp_X3_wakeCost_7 hS.1 r45 (by omega))) ?_
    rintro M64 _ ⟨h64, r64, rfl, lr64, ur64⟩
    have hS := St.tr hS h64 (by decide) (by decide)
    refine Tr.sc [(0, r64)] rfl ?_
    refine Tr.istore (pc := 67) (i := 6) (ls2 := [(6, (0, r64)), (5, (0, r58)), (4, (0, r45)), (0, (2, 100)), (1, (2, 7)), (2, (2, 63)), (3, (0, a3))]) d_X9_weigh_67 (by decide) rfl ?_
    refine Tr.iconst (pc := 69) d_X9_weigh_69 (by decide) ?_
    refine Tr.istore (pc := 70) (i := 7) (ls2 := [(7, (0, 0)), (6, (0, r64)), (5, (0, r58)), (4, (0, r45)), (0, (2, 100)), (1, (2, 7)), (2, (2, 63)), (3, (0, a3))]) d_X9_weigh_70 (by decide) rfl ?_
    have J72 : ∀ (n72 : Nat) (M : Mem) (p72_7 : Int), St Tru ws_X9_weigh_100_7_63 as_X9_weigh_100_7_63 M0 M → (0 ≤ p72_7 ∧ p72_7 ≤ 2016) → rd M 100 2 = r20 → rd M 100 3 = a3 → rd M 63 0 = g63_0 → rd M 63 1 = g63_1 → rd M 63 7 = g63_7 → rd M 9 (4 * r45 + 2) = r58 → (TU M a3) → (2016 - p72_7).toNat < n72 → Tr l K 3 mX9_weigh 72 [(0, (2, 100)), (1, (2, 7)), (2, (2, 63)), (3, (0, a3)), (4, (0, r45)), (5, (0, r58)), (6, (0, r64)), (7, (0, p72_7))] [] M (q_X9_weigh_100_7_63 a3 M0) := by
      intro n72
      induction n72 with
      | zero => intro M p72_7 hS bp72_7 k72_100_2 k72_100_3 k72_63_0 k72_63_1 k72_63_7 k72_9_r4542 tp72_0 hm72; exact absurd hm72 (Nat.not_lt_zero _)
      | succ n72 J72 =>
        intro M p72_7 hS bp72_7 k72_100_2 k72_100_3 k72_63_0 k72_63_1 k72_63_7 k72_9_r4542 tp72_0 hm72
        refine Tr.iload (pc := 72) (i := 7) d_X9_weigh_72 rfl ?_
        refine Tr.aload_n (pc := 74) (i := 2) d_X9_weigh_74 rfl rfl ?_
        refine Tr.getf (pc := 75) d_X9_weigh_75 f_9_52 (by decide) (by decide) (ty_63 hS.1.1) ?_
        refine Tr.tp g63_7 k72_63_7 ?_
        refine Tr.icmp_ge (pc := 78) (tgt := 179) d_X9_weigh_78 rfl (fun c78 => ?_) (fun c78 => ?_)
        · have kz_100_3 : rd M 100 3 = a3 := k72_100_3
          exact Tr.vret (pc := 179) d_X9_weigh_179 rfl ⟨hS, rfl, ⟨tp72_0, by omega⟩⟩
        · refine Tr.aload_n (pc := 81) (i := 2) d_X9_weigh_81 rfl rfl ?_
          refine Tr.getf (pc := 82) d_X9_weigh_82 f_9_55 (by decide) (by decide) (ty_63 hS.1.1) ?_
          refine Tr.gen (P := fun v => v = tref g63_1 10) (tl_ref hS k72_63_1 (by decide)) (fun t82 et82 bt82 => ?_)
          refine Tr.iload (pc := 85) (i := 7) d_X9_weigh_85 rfl ?_
          have nk87_0 : rd M 63 0 = g63_0 := k72_63_0
          have nk87_7 : rd M 63 7 = g63_7 := k72_63_7
          have nn87 := tl_n hS k72_63_1
          refine Tr.iald (pc := 87) d_X9_weigh_87 (tl_tyI hS k72_63_1 (j := 10) (by decide) (by decide) bt82) (by omega) (by omega) ?_
          refine Tr.gen (P := fun v => (-2147483648) ≤ v ∧ v ≤ 2147483647) (tl_eI hS k72_63_1 (j := 10) (by decide) (by decide) bt82 (by omega) (by omega)) (fun r87 er87 br87 => ?_)
          refine Tr.istore (pc := 88) (i := 8) (ls2 := [(8, (0, r87)), (0, (2, 100)), (1, (2, 7)), (2, (2, 63)), (3, (0, a3)), (4, (0, r45)), (5, (0, r58)), (6, (0, r64)), (7, (0, p72_7))]) d_X9_weigh_88 (by decide) rfl ?_
          refine Tr.aload_n (pc := 90) (i := 2) d_X9_weigh_90 rfl rfl ?_
          refine Tr.getf (pc := 91) d_X9_weigh_91 f_9_58 (by decide) (by decide) (ty_63 hS.1.1) ?_
          refine Tr.gen (P := fun v => v = tref g63_1 8) (tl_ref hS k72_63_1 (by decide)) (fun t91 et91 bt91 => ?_)
          refine Tr.iload (pc := 94) (i := 7) d_X9_weigh_94 rfl ?_
          have nk96_0 : rd M 63 0 = g63_0 := k72_63_0
          have nk96_7 : rd M 63 7 = g63_7 := k72_63_7
          have nn96 := tl_n hS k72_63_1
          refine Tr.iald (pc := 96) d_X9_weigh_96 (tl_tyI hS k72_63_1 (j := 8) (by decide) (by decide) bt91) (by omega) (by omega) ?_
          refine Tr.gen (P := fun v => 0 ≤ v ∧ v ≤ 5) (tl_eP hS k72_63_1 (j := 8) (by decide) (by decide) bt91 (by omega) (by omega)) (fun r96 er96 br96 => ?_)
          refine Tr.iload (pc := 97) (i := 4) d_X9_weigh_97 rfl ?_
          have J173 : ∀ (M : Mem), St Tru ws_X9_weigh_100_7_63 as_X9_weigh_100_7_63 M0 M → rd M 100 2 = r20 → rd M 100 3 = a3 → rd M 63 0 = g63_0 → rd M 63 1 = g63_1 → rd M 63 7 = g63_7 → rd M 9 (4 * r45 + 2) = r58 → (TU M a3) → Tr l K 3 mX9_weigh 173 [(0, (2, 100)), (1, (2, 7)), (2, (2, 63)), (3, (0, a3)), (4, (0, r45)), (5, (0, r58)), (6, (0, r64)), (7, (0, p72_7))] [] M (q_X9_weigh_100_7_63 a3 M0) := by
            intro M  hS  k173_100_2 k173_100_3 k173_63_0 k173_63_1 k173_63_7 k173_9_r4542 tp173_0
            refine Tr.iincV (pc := 173) (n2 := (p72_7 + 1)) (ls2 := [(7, (0, (p72_7 + 1))), (0, (2, 100)), (1, (2, 7)), (2, (2, 63)), (3, (0, a3)), (4, (0, r45)), (5, (0, r58)), (6, (0, r64))]) d_X9_weigh_173 rfl (by decide) ((w32_id (by omega)).trans (by omega)) rfl ?_
            refine Tr.goto (pc := 176) (tgt := 72) d_X9_weigh_176 rfl ?_
            refine Tr.pick [1, 2, 3, 4, 5, 6, 7, 0] (ls2 := [(0, (2, 100)), (1, (2, 7)), (2, (2, 63)), (3, (0, a3)), (4, (0, r45)), (5, (0, r58)), (6, (0, r64)), (7, (0, (p72_7 + 1)))]) rfl ?_
            exact J72 _ _ hS (by omega) k173_100_2 k173_100_3 k173_63_0 k173_63_1 k173_63_7 k173_9_r4542 tp173_0 (by omega)
          refine Tr.icmp_ne (pc := 99) (tgt := 173) d_X9_weigh_99 rfl (fun c99 => ?_) (fun c99 => ?_)
          · refine Tr.pick [1, 2, 3, 4, 5, 6, 7, 8] (ls2 := [(0, (2, 100)), (1, (2, 7)), (2, (2, 63)), (3, (0, a3)), (4, (0, r45)), (5, (0, r58)), (6, (0, r64)), (7, (0, p72_7))]) rfl ?_
            exact J173 _ hS k72_100_2 k72_100_3 k72_63_0 k72_63_1 k72_63_7 k72_9_r4542 tp72_0
          · refine Tr.iload (pc := 102) (i := 8) d_X9_weigh_102 rfl ?_
            refine Tr.aload_n (pc := 104) (i := 2) d_X9_weigh_104 rfl rfl ?_
            refine Tr.getf (pc := 105) d_X9_weigh_105 f_9_61 (by decide) (by decide) (ty_63 hS.1.1) ?_
            refine Tr.gen (P := fun v => v = tref g63_1 2) (tl_ref hS k72_63_1 (by decide)) (fun t105 et105 bt105 => ?_)
            refine Tr.iload_n (pc := 108) (i := 3) d_X9_weigh_108 rfl rfl ?_
            have nk109_0 : rd M 63 0 = g63_0 := k72_63_0
            have nk109_7 : rd M 63 7 = g63_7 := k72_63_7
            have nn109 := tl_n hS k72_63_1
            refine Tr.iald (pc := 109) d_X9_weigh_109 (tl_tyI hS k72_63_1 (j := 2) (by decide) (by decide) bt105) (by omega) (by omega) ?_
            refine Tr.gen (P := fun v => (-2147483648) ≤ v ∧ v ≤ 2147483647) (tl_eI hS k72_63_1 (j := 2) (by decide) (by decide) bt105 (by omega) (by omega)) (fun r109 er109 br109 => ?_)
            refine Tr.icmp_lt (pc := 110) (tgt := 173) d_X9_weigh_110 rfl (fun c110 => ?_) (fun c110 => ?_)
            · refine Tr.pick [1, 2, 3, 4, 5, 6, 7, 8] (ls2 := [(0, (2, 100)), (1, (2, 7)), (2, (2, 63)), (3, (0, a3)), (4, (0, r45)), (5, (0, r58)), (6, (0, r64)), (7, (0, p72_7))]) rfl ?_
              exact J173 _ hS k72_100_2 k72_100_3 k72_63_0 k72_63_1 k72_63_7 k72_9_r4542 tp72_0
            · refine Tr.iload (pc := 113) (i := 8) d_X9_weigh_113 rfl ?_
              refine Tr.aload_n (pc := 115) (i := 2) d_X9_weigh_115 rfl rfl ?_
              refine Tr.getf (pc := 116) d_X9_weigh_116 f_9_64 (by decide) (by decide) (ty_63 hS.1.1) ?_
              refine Tr.gen (P := fun v => v = tref g63_1 3) (tl_ref hS k72_63_1 (by decide)) (fun t116 et116 bt116 => ?_)
              refine Tr.iload_n (pc := 119) (i := 3) d_X9_weigh_119 rfl rfl ?_
              have nk120_0 : rd M 63 0 = g63_0 := k72_63_0
              have nk120_7 : rd M 63 7 = g63_7 := k72_63_7
              have nn120 := tl_n hS k72_63_1
              refine Tr.iald (pc := 120) d_X9_weigh_120 (tl_tyI hS k72_63_1 (j := 3) (by decide) (by decide) bt116) (by omega) (by omega) ?_
              refine Tr.gen (P := fun v => (-2147483648) ≤ v ∧ v ≤ 2147483647) (tl_eI hS k72_63_1 (j := 3) (by decide) (by decide) bt116 (by omega) (by omega)) (fun r120 er120 br120 => ?_)
              refine Tr.icmp_ge (pc := 121) (tgt := 173) d_X9_weigh_121 rfl (fun c121 => ?_) (fun c121 => ?_)
              · refine Tr.pick [1, 2, 3, 4, 5, 6, 7, 8] (ls2 := [(0, (2, 100)), (1, (2, 7)), (2, (2, 63)), (3, (0, a3)), (4, (0, r45)), (5, (0, r58)), (6, (0, r64)), (7, (0, p72_7))]) rfl ?_
                exact J173 _ hS k72_100_2 k72_100_3 k72_63_0 k72_63_1 k72_63_7 k72_9_r4542 tp72_0
              · refine Tr.aload_n (pc := 124) (i := 2) d_X9_weigh_124 rfl rfl ?_
                refine Tr.getf (pc := 125) d_X9_weigh_125 f_9_67 (by decide) (by decide) (ty_63 hS.1.1) ?_
                refine Tr.gen (P := fun v => v = tref g63_1 11) (tl_ref hS k72_63_1 (by decide)) (fun t125 et125 bt125 => ?_)
                refine Tr.iload (pc := 128) (i := 7) d_X9_weigh_128 rfl ?_
                have nk130_0 : rd M 63 0 = g63_0 := k72_63_0
                have nk130_7 : rd M 63 7 = g63_7 := k72_63_7
                have nn130 := tl_n hS k72_63_1
                refine Tr.iald (pc := 130) d_X9_weigh_130 (tl_tyI hS k72_63_1 (j := 11) (by decide) (by decide) bt125) (by omega) (by omega) ?_
                refine Tr.gen (P := fun v => (-2147483648) ≤ v ∧ v ≤ 2147483647) (tl_eI hS k72_63_1 (j := 11) (by decide) (by decide) bt125 (by omega) (by omega)) (fun r130 er130 br130 => ?_)
                refine Tr.aload_n (pc := 131) (i := 1) d_X9_weigh_131 rfl rfl ?_
                refine Tr.getf (pc := 132) d_X9_weigh_132 f_9_70 (by decide) (by decide) (ty_7 hS.1.1) ?_
                refine Tr.tp 11 (fx_7_7 hS.1.1) ?_
                refine Tr.iload (pc := 135) (i := 4) d_X9_weigh_135 rfl ?_
                refine Tr.iald (pc := 137) d_X9_weigh_137 (ty_11 hS.1.1) (by omega) (by omega) ?_
                refine Tr.gen (P := fun v => 0 ≤ v ∧ v ≤ 50) (ar_11 hS.1.2.1 _) (fun r137 er137 br137 => ?_)
                refine Tr.iadd (pc := 138) d_X9_weigh_138 ?_
                refine Tr.gen (P := fun v => (-2147483648) ≤ v ∧ v ≤ 2147483647) (w32_b _) (fun r138 er138 br138 => ?_)
                refine Tr.aload_n (pc := 139) (i := 2) d_X9_weigh_139 rfl rfl ?_
                refine Tr.getf (pc := 140) d_X9_weigh_140 f_9_64 (by decide) (by decide) (ty_63 hS.1.1) ?_
                refine Tr.gen (P := fun v => v = tref g63_1 3) (tl_ref hS k72_63_1 (by decide)) (fun t140 et140 bt140 => ?_)
                refine Tr.iload_n (pc := 143) (i := 3) d_X9_weigh_143 rfl rfl ?_
                have nk144_0 : rd M 63 0 = g63_0 := k72_63_0
                have nk144_7 : rd M 63 7 = g63_7 := k72_63_7
                have nn144 := tl_n hS k72_63_1
                refine Tr.iald (pc := 144) d_X9_weigh_144 (tl_tyI hS k72_63_1 (j := 3) (by decide) (by decide) bt140) (by omega) (by omega) ?_
                refine Tr.gen (P := fun v => (-2147483648) ≤ v ∧ v ≤ 2147483647) (tl_eI hS k72_63_1 (j := 3) (by decide) (by decide) bt140 (by omega) (by omega)) (fun r144 er144 br144 => ?_)
                refine Tr.mmin (pc := 145) d_X9_weigh_145 ml_9_73 mw_mmin (Nat.le_of_ble_eq_true rfl) ?_
                refine Tr.gen (P := fun v => (v = r138 ∧ r138 ≤ r144) ∨ (v = r144 ∧ r144 ≤ r138)) (f_min_p _ _) (fun r145 er145 br145 => ?_)
                refine Tr.istore (pc := 148) (i := 9) (ls2 := [(9, (0, r145)), (8, (0, r87)), (0, (2, 100)), (1, (2, 7)), (2, (2, 63)), (3, (0, a3)), (4, (0, r45)), (5, (0, r58)), (6, (0, r64)), (7, (0, p72_7))]) d_X9_weigh_148 (by decide) rfl ?_
                refine Tr.aload_n (pc := 150) (i := 0) d_X9_weigh_150 rfl rfl ?_
                refine Tr.aload_n (pc := 151) (i := 0) d_X9_weigh_151 rfl rfl ?_
                refine Tr.aload_n (pc := 152) (i := 2) d_X9_weigh_152 rfl rfl ?_
                refine Tr.getf (pc := 153) d_X9_weigh_153 f_9_79 (by decide) (by decide) (ty_63 hS.1.1) ?_
                refine Tr.gen (P := fun v => v = tref g63_1 9) (tl_ref hS k72_63_1 (by decide)) (fun t153 et153 bt153 => ?_)
                refine Tr.iload (pc := 156) (i := 7) d_X9_weigh_156 rfl ?_
                have nk158_0 : rd M 63 0 = g63_0 := k72_63_0
                have nk158_7 : rd M 63 7 = g63_7 := k72_63_7
                have nn158 := tl_n hS k72_63_1
                refine Tr.iald (pc := 158) d_X9_weigh_158 (tl_tyI hS k72_63_1 (j := 9) (by decide) (by decide) bt153) (by omega) (by omega) ?_
                refine Tr.gen (P := fun v => (-2147483648) ≤ v ∧ v ≤ 2147483647) (tl_eI hS k72_63_1 (j := 9) (by decide) (by decide) bt153 (by omega) (by omega)) (fun r158 er158 br158 => ?_)
                refine Tr.callV (pc := 159) (as := [_]) d_X9_weigh_159 s_9_82 ok_X9_bitOf rfl rfl (Nat.le_of_ble_eq_true rfl) (Nat.le_of_ble_eq_true rfl) (by decide) (ty_100 hS.1.1) ?_
                refine Tr.imp (Tr.deep (by decide) (sp_X9_bitOf_100 hS.1 r158 (by omega))) ?_
                rintro M159 _ ⟨h159, r159, rfl, lr159, ur159, z159_0⟩
                have hS := St.tr hS h159 (by decide) (by decide)
                refine Tr.sc [(0, r159), (2, 100)] rfl ?_
                refine Tr.iload (pc := 162) (i := 8) d_X9_weigh_162 rfl ?_
                refine Tr.iload (pc := 164) (i := 9) d_X9_weigh_164 rfl ?_
                refine Tr.iload (pc := 166) (i := 5) d_X9_weigh_166 rfl ?_
                refine Tr.iload (pc := 168) (i := 6) d_X9_weigh_168 rfl ?_
                refine Tr.callV (pc := 170) (as := [_, _, _, _, _]) d_X9_weigh_170 s_9_85 ok_X9_spread rfl rfl (Nat.le_of_ble_eq_true rfl) (Nat.le_of_ble_eq_true rfl) (by decide) (ty_100 hS.1.1) ?_
                refine Tr.imp (Tr.deep (by decide) (sp_X9_spread_100 hS.1 r159 (by omega) r87 (by omega) r145 (by omega) r58 (by omega) r64 (by omega))) ?_
                rintro M170 _ ⟨h170, rfl⟩
                have hS := St.tr hS h170 (by decide) (by decide)
                refine Tr.sc [] rfl ?_
                refine Tr.pick [2, 3, 4, 5, 6, 7, 8, 9] (ls2 := [(0, (2, 100)), (1, (2, 7)), (2, (2, 63)), (3, (0, a3)), (4, (0, r45)), (5, (0, r58)), (6, (0, r64)), (7, (0, p72_7))]) rfl ?_
                exact J173 _ hS ((St.kp h170 (by decide) (by decide) (by decide)).trans ((St.kp h159 (by decide) (by decide) (by decide)).trans k72_100_2)) ((St.kp h170 (by decide) (by decide) (by decide)).trans ((St.kp h159 (by decide) (by decide) (by decide)).trans k72_100_3)) ((St.kp h170 (by decide) (by decide) (by decide)).trans ((St.kp h159 (by decide) (by decide) (by decide)).trans k72_63_0)) ((St.kp h170 (by decide) (by decide) (by decide)).trans ((St.kp h159 (by decide) (by decide) (by decide)).trans k72_63_1)) ((St.kp h170 (by decide) (by decide) (by decide)).trans ((St.kp h159 (by decide) (by decide) (by decide)).trans k72_63_7)) ((St.ka h170 (by decide) (by decide) (by decide)).trans ((St.ka h159 (by decide) (by decide) (by decide)).trans k72_9_r4542)) (TU.st (TU.st tp72_0 h159 (by decide)) h170 (by decide))
    refine Tr.pick [4, 5, 6, 7, 3, 2, 1, 0] (ls2 := [(0, (2, 100)), (1, (2, 7)), (2, (2, 63)), (3, (0, a3)), (4, (0, r45)), (5, (0, r58)), (6, (0, r64)), (7, (0, 0))]) rfl ?_
    exact J72 _ _ _ hS (by omega) ((St.kp h64 (by decide) (by decide) (by decide)).trans ((Wa.b w37 rfl).trans ((St.kp h29 (by decide) (by decide) (by decide)).trans w21.1))) ((St.kp h64 (by decide) (by decide) (by decide)).trans ((Wa.b w37 rfl).trans ((St.kp h29 (by decide) (by decide) (by decide)).trans ((Wr.b w21 rfl).trans w11.1)))) ((St.kp h64 (by decide) (by decide) (by decide)).trans ((Wa.b w37 rfl).trans ((St.kp h29 (by decide) (by decide) (by decide)).trans ((Wr.b w21 rfl).trans ((Wr.b w11 rfl).trans eg63_0))))) ((St.kp h64 (by decide) (by decide) (by decide)).trans ((Wa.b w37 rfl).trans ((St.kp h29 (by decide) (by decide) (by decide)).trans ((Wr.b w21 rfl).trans ((Wr.b w11 rfl).trans eg63_1))))) ((St.kp h64 (by decide) (by decide) (by decide)).trans ((Wa.b w37 rfl).trans ((St.kp h29 (by decide) (by decide) (by decide)).trans ((Wr.b w21 rfl).trans ((Wr.b w11 rfl).trans eg63_7))))) ((St.ka h64 (by decide) (by decide) (by decide)).trans er58) (TU.st (TU.wa (TU.st htu h29 (by decide)) w37 (by decide)) h64 (by decide)) (Nat.lt_succ_self _)
  · exact Tr.vret (pc := 8) d_X9_weigh_8 rfl ⟨hS, rfl, ⟨TU.of1 hS hq1 (er1.trans (by omega)) (by omega), er1.trans (by omega)⟩⟩

def ws_J6_bitCount_0f7a4 : List (Int × Int) := []
def as_J6_bitCount_0f7a4 : List Int := []
def q_J6_bitCount_0f7a4 (a0 : Int) (M0 M' : Mem) (r : Option PV) : Prop := St Tru ws_J6_bitCount_0f7a4 as_J6_bitCount_0f7a4 M0 M' ∧ ∃ v : Int, r = some (0, v) ∧ (-2147483648) ≤ v ∧ v ≤ 2147483647 ∧ (v = pop a0 ∧ 0 ≤ v ∧ v ≤ 8)
set_option maxRecDepth 100000 in
set_option maxHeartbeats 4000000 in
theorem sp_J6_bitCount_0f7a4 {l : Launch} {K : EC} {M0 : Mem} (hI : In Tru M0)  (a0 : Int) (ha0 : 0 ≤ a0 ∧ a0 ≤ 255)  : Tr l K 0 mJ6_bitCount_0f7a4 0 [(0, (0, a0))] [] M0 (q_J6_bitCount_0f7a4 a0 M0) := by
  have hS : St Tru ws_J6_bitCount_0f7a4 as_J6_bitCount_0f7a4 M0 M0 := St.rf hI
  refine Tr.iload_n (pc := 0) (i := 0) d_J6_bitCount_0f7a4_0 rfl rfl ?_
  refine Tr.iload_n (pc := 1) (i := 0) d_J6_bitCount_0f7a4_1 rfl rfl ?_
  refine Tr.iconst (pc := 2) d_J6_bitCount_0f7a4_2 (by decide) ?_
  refine Tr.iushr (pc := 3) d_J6_bitCount_0f7a4_3 ?_
  refine Tr.gen (P := fun v => (-2147483648) ≤ v ∧ v ≤ 2147483647) (i32_b _) (fun r3 er3 br3 => ?_)
  refine Tr.ldcw (pc := 4) d_J6_bitCount_0f7a4_4 k_18_265 (by decide) ?_
  refine Tr.iand (pc := 7) d_J6_bitCount_0f7a4_7 ?_
  refine Tr.gen (P := fun v => (-2147483648) ≤ v ∧ v ≤ 2147483647) (i32_b _) (fun r7 er7 br7 => ?_)
  refine Tr.isub (pc := 8) d_J6_bitCount_0f7a4_8 ?_
  refine Tr.gen (P := fun v => (-2147483648) ≤ v ∧ v ≤ 2147483647) (w32_b _) (fun r8 er8 br8 => ?_)
  refine Tr.istore_n (pc := 9) (i := 0) (ls2 := [(0, (0, r8))]) d_J6_bitCount_0f7a4_9 rfl (by decide) rfl ?_
  refine Tr.iload_n (pc := 10) (i := 0) d_J6_bitCount_0f7a4_10 rfl rfl ?_
  refine Tr.ldcw (pc := 11) d_J6_bitCount_0f7a4_11 k_18_266 (by decide) ?_
  refine Tr.iand (pc := 14) d_J6_bitCount_0f7a4_14 ?_
  refine Tr.gen (P := fun v => (-2147483648) ≤ v ∧ v ≤ 2147483647) (i32_b _) (fun r14 er14 br14 => ?_)
  refine Tr.iload_n (pc := 15) (i := 0) d_J6_bitCount_0f7a4_15 rfl rfl ?_
  refine Tr.iconst (pc := 16) d_J6_bitCount_0f7a4_16 (by decide) ?_
  refine Tr.iushr (pc := 17) d_J6_bitCount_0f7a4_17 ?_
  refine Tr.gen (P := fun v => (-2147483648) ≤ v ∧ v ≤ 2147483647) (i32_b _) (fun r17 er17 br17 => ?_)
  refine Tr.ldcw (pc := 18) d_J6_bitCount_0f7a4_18 k_18_266 (by decide) ?_
  refine Tr.iand (pc := 21) d_J6_bitCount_0f7a4_21 ?_
  refine Tr.gen (P := fun v => (-2147483648) ≤ v ∧ v ≤ 2147483647) (i32_b _) (fun r21 er21 br21 => ?_)
  refine Tr.iadd (pc := 22) d_J6_bitCount_0f7a4_22 ?_
  refine Tr.gen (P := fun v => (-2147483648) ≤ v ∧ v ≤ 2147483647) (w32_b _) (fun r22 er22 br22 => ?_)
  refine Tr.istore_n (pc := 23) (i := 0) (ls2 := [(0, (0, r22))]) d_J6_bitCount_0f7a4_23 rfl (by decide) rfl ?_
  refine Tr.iload_n (pc := 24) (i := 0) d_J6_bitCount_0f7a4_24 rfl rfl ?_
  refine Tr.iload_n (pc := 25) (i := 0) d_J6_bitCount_0f7a4_25 rfl rfl ?_
  refine Tr.iconst (pc := 26) d_J6_bitCount_0f7a4_26 (by decide) ?_
  refine Tr.iushr (pc := 27) d_J6_bitCount_0f7a4_27 ?_
  refine Tr.gen (P := fun v => (-2147483648) ≤ v ∧ v ≤ 2147483647) (i32_b _) (fun r27 er27 br27 => ?_)
  refine Tr.iadd (pc := 28) d_J6_bitCount_0f7a4_28 ?_
  refine Tr.gen (P := fun v => (-2147483648) ≤ v ∧ v ≤ 2147483647) (w32_b _) (fun r28 er28 br28 => ?_)
  refine Tr.ldcw (pc := 29) d_J6_bitCount_0f7a4_29 k_18_267 (by decide) ?_
  refine Tr.iand (pc := 32) d_J6_bitCount_0f7a4_32 ?_
  refine Tr.gen (P := fun v => (-2147483648) ≤ v ∧ v ≤ 2147483647) (i32_b _) (fun r32 er32 br32 => ?_)
  refine Tr.istore_n (pc := 33) (i := 0) (ls2 := [(0, (0, r32))]) d_J6_bitCount_0f7a4_33 rfl (by decide) rfl ?_
  refine Tr.iload_n (pc := 34) (i := 0) d_J6_bitCount_0f7a4_34 rfl rfl ?_
  refine Tr.iload_n (pc := 35) (i := 0) d_J6_bitCount_0f7a4_35 rfl rfl ?_
  refine Tr.bipush (pc := 36) d_J6_bitCount_0f7a4_36 rfl (by decide) ?_
  refine Tr.iushr (pc := 38) d_J6_bitCount_0f7a4_38 ?_
  refine Tr.gen (P := fun v => (-2147483648) ≤ v ∧ v ≤ 2147483647) (i32_b _) (fun r38 er38 br38 => ?_)
  refine Tr.iadd (pc := 39) d_J6_bitCount_0f7a4_39 ?_
  refine Tr.gen (P := fun v => (-2147483648) ≤ v ∧ v ≤ 2147483647) (w32_b _) (fun r39 er39 br39 => ?_)
  refine Tr.istore_n (pc := 40) (i := 0) (ls2 := [(0, (0, r39))]) d_J6_bitCount_0f7a4_40 rfl (by decide) rfl ?_
  refine Tr.iload_n (pc := 41) (i := 0) d_J6_bitCount_0f7a4_41 rfl rfl ?_
  refine Tr.iload_n (pc := 42) (i := 0) d_J6_bitCount_0f7a4_42 rfl rfl ?_
  refine Tr.bipush (pc := 43) d_J6_bitCount_0f7a4_43 rfl (by decide) ?_
  refine Tr.iushr (pc := 45) d_J6_bitCount_0f7a4_45 ?_
  refine Tr.gen (P := fun v => (-2147483648) ≤ v ∧ v ≤ 2147483647) (i32_b _) (fun r45 er45 br45 => ?_)
  refine Tr.iadd (pc := 46) d_J6_bitCount_0f7a4_46 ?_
  refine Tr.gen (P := fun v => (-2147483648) ≤ v ∧ v ≤ 2147483647) (w32_b _) (fun r46 er46 br46 => ?_)
  refine Tr.istore_n (pc := 47) (i := 0) (ls2 := [(0, (0, r46))]) d_J6_bitCount_0f7a4_47 rfl (by decide) rfl ?_
  refine Tr.iload_n (pc := 48) (i := 0) d_J6_bitCount_0f7a4_48 rfl rfl ?_
  refine Tr.bipush (pc := 49) d_J6_bitCount_0f7a4_49 rfl (by decide) ?_
  refine Tr.iand (pc := 51) d_J6_bitCount_0f7a4_51 ?_
  refine Tr.gen (P := fun v => (-2147483648) ≤ v ∧ v ≤ 2147483647) (i32_b _) (fun r51 er51 br51 => ?_)
  exact Tr.iret (pc := 52) d_J6_bitCount_0f7a4_52 rfl ⟨hS, _, rfl, by omega, by omega, (by have h8 := bcI_p ha0; have h7 : bcI a0 = r51 := (by simp only [bcI, er3, er7, er8, er14, er17, er21, er22, er27, er28, er32, er38, er39, er45, er46, er51]); rw [h7] at h8; omega)⟩

def ws_J9_abs_067f4 : List (Int × Int) := []
def as_J9_abs_067f4 : List Int := []
def q_J9_abs_067f4 (M0 M' : Mem) (r : Option PV) : Prop := St Tru ws_J9_abs_067f4 as_J9_abs_067f4 M0 M' ∧ ∃ v : Int, r = some (1, v) ∧ (-9223372036854775808) ≤ v ∧ v ≤ 9223372036854775807
set_option maxRecDepth 100000 in
set_option maxHeartbeats 4000000 in
theorem sp_J9_abs_067f4 {l : Launch} {K : EC} {M0 : Mem} (hI : In Tru M0)  (a0 : Int) (ha0 : (-9223372036854775808) ≤ a0 ∧ a0 ≤ 9223372036854775807)  : Tr l K 0 mJ9_abs_067f4 0 [(0, (1, a0))] [] M0 (q_J9_abs_067f4 M0) := by
  have hS : St Tru ws_J9_abs_067f4 as_J9_abs_067f4 M0 M0 := St.rf hI
  refine Tr.lload_n (pc := 0) (i := 0) d_J9_abs_067f4_0 rfl rfl ?_
  refine Tr.lconst (pc := 1) (v := 0) d_J9_abs_067f4_1 rfl (by decide) ?_
  refine Tr.lcmp (pc := 2) d_J9_abs_067f4_2 ?_
  refine Tr.gen (P := fun v => (v = 1 ∧ 0 < a0) ∨ (v = 0 ∧ a0 = 0) ∨ (v = -1 ∧ a0 < 0)) (f_lcmp_c _ _) (fun r2 er2 br2 => ?_)
  refine Tr.if_ge (pc := 3) (tgt := 11) d_J9_abs_067f4_3 rfl (fun c3 => ?_) (fun c3 => ?_)
  · refine Tr.lload_n (pc := 11) (i := 0) d_J9_abs_067f4_11 rfl rfl ?_
    exact Tr.lret (pc := 12) d_J9_abs_067f4_12 rfl ⟨hS, _, rfl, by omega, by omega⟩
  · refine Tr.lload_n (pc := 6) (i := 0) d_J9_abs_067f4_6 rfl rfl ?_
    refine Tr.lneg (pc := 7) d_J9_abs_067f4_7 ?_
    refine Tr.gen (P := fun v => (-9223372036854775808) ≤ v ∧ v ≤ 9223372036854775807) (w64_b _) (fun r7 er7 br7 => ?_)
    refine Tr.goto (pc := 8) (tgt := 12) d_J9_abs_067f4_8 rfl ?_
    exact Tr.lret (pc := 12) d_J9_abs_067f4_12 rfl ⟨hS, _, rfl, by omega, by omega⟩

def ws_X9_commonDivisor : List (Int × Int) := []
def as_X9_commonDivisor : List Int := []
def q_X9_commonDivisor (M0 M' : Mem) (r : Option PV) : Prop := St Tru ws_X9_commonDivisor as_X9_commonDivisor M0 M' ∧ ∃ v : Int, r = some (1, v) ∧ (-9223372036854775808) ≤ v ∧ v ≤ 9223372036854775807
set_option maxRecDepth 100000 in
set_option maxHeartbeats 4000000 in
theorem sp_X9_commonDivisor {l : Launch} {K : EC} {M0 : Mem} (hI : In Tru M0)  (a0 : Int) (ha0 : (-9223372036854775808) ≤ a0 ∧ a0 ≤ 9223372036854775807) (a2 : Int) (ha2 : 0 ≤ a2 ∧ a2 ≤ 46656)  : Tr l K 0 mX9_commonDivisor 0 [(0, (1, a0)), (2, (1, a2))] [] M0 (q_X9_commonDivisor M0) := by
  have hS : St Tru ws_X9_commonDivisor as_X9_commonDivisor M0 M0 := St.rf hI
  refine Tr.lload_n (pc := 0) (i := 0) d_X9_commonDivisor_0 rfl rfl ?_
  refine Tr.lstore (pc := 1) (i := 4) (ls2 := [(4, (1, a0)), (0, (1, a0)), (2, (1, a2))]) d_X9_commonDivisor_1 (by decide) rfl ?_
  refine Tr.lload_n (pc := 3) (i := 2) d_X9_commonDivisor_3 rfl rfl ?_
  refine Tr.lstore (pc := 4) (i := 6) (ls2 := [(6, (1, a2)), (4, (1, a0)), (0, (1, a0)), (2, (1, a2))]) d_X9_commonDivisor_4 (by decide) rfl ?_
  refine Tr.iconst (pc := 6) d_X9_commonDivisor_6 (by decide) ?_
  refine Tr.istore (pc := 7) (i := 8) (ls2 := [(8, (0, 0)), (6, (1, a2)), (4, (1, a0)), (0, (1, a0)), (2, (1, a2))]) d_X9_commonDivisor_7 (by decide) rfl ?_
  have J9 : ∀ (n9 : Nat) (M : Mem) (p9_4 p9_6 p9_8 : Int), St Tru ws_X9_commonDivisor as_X9_commonDivisor M0 M → ((-9223372036854775808) ≤ p9_4 ∧ p9_4 ≤ 9223372036854775807) → ((-9223372036854775808) ≤ p9_6 ∧ p9_6 ≤ 9223372036854775807) → (0 ≤ p9_8 ∧ p9_8 ≤ 200) → (200 - p9_8).toNat < n9 → Tr l K 0 mX9_commonDivisor 9 [(4, (1, p9_4)), (6, (1, p9_6)), (8, (0, p9_8))] [] M (q_X9_commonDivisor M0) := by
    intro n9
    induction n9 with
    | zero => intro M p9_4 p9_6 p9_8 hS bp9_4 bp9_6 bp9_8  hm9; exact absurd hm9 (Nat.not_lt_zero _)
    | succ n9 J9 =>
      intro M p9_4 p9_6 p9_8 hS bp9_4 bp9_6 bp9_8  hm9
      refine Tr.iload (pc := 9) (i := 8) d_X9_commonDivisor_9 rfl ?_
      refine Tr.sipush (pc := 11) d_X9_commonDivisor_11 rfl (by decide) ?_
      refine Tr.icmp_ge (pc := 14) (tgt := 45) d_X9_commonDivisor_14 rfl (fun c14 => ?_) (fun c14 => ?_)
      · refine Tr.lload (pc := 45) (i := 4) d_X9_commonDivisor_45 rfl ?_
        exact Tr.lret (pc := 47) d_X9_commonDivisor_47 rfl ⟨hS, _, rfl, by omega, by omega⟩
      · refine Tr.lload (pc := 17) (i := 6) d_X9_commonDivisor_17 rfl ?_
        refine Tr.lconst (pc := 19) (v := 0) d_X9_commonDivisor_19 rfl (by decide) ?_
        refine Tr.lcmp (pc := 20) d_X9_commonDivisor_20 ?_
        refine Tr.gen (P := fun v => (v = 1 ∧ 0 < p9_6) ∨ (v = 0 ∧ p9_6 = 0) ∨ (v = -1 ∧ p9_6 < 0)) (f_lcmp_c _ _) (fun r20 er20 br20 => ?_)
        refine Tr.if_eq (pc := 21) (tgt := 45) d_X9_commonDivisor_21 rfl (fun c21 => ?_) (fun c21 => ?_)
        · refine Tr.lload (pc := 45) (i := 4) d_X9_commonDivisor_45 rfl ?_
          exact Tr.lret (pc := 47) d_X9_commonDivisor_47 rfl ⟨hS, _, rfl, by omega, by omega⟩
        · refine Tr.lload (pc := 24) (i := 4) d_X9_commonDivisor_24 rfl ?_
          refine Tr.lload (pc := 26) (i := 6) d_X9_commonDivisor_26 rfl ?_
          refine Tr.lrem (pc := 28) d_X9_commonDivisor_28 (by omega) ?_
          refine Tr.gen (P := fun v => (-9223372036854775808) ≤ v ∧ v ≤ 9223372036854775807) (rem64_b _ _ (by omega)) (fun r28 er28 br28 => ?_)
          refine Tr.lstore (pc := 29) (i := 9) (ls2 := [(9, (1, r28)), (4, (1, p9_4)), (6, (1, p9_6)), (8, (0, p9_8))]) d_X9_commonDivisor_29 (by decide) rfl ?_
          refine Tr.lload (pc := 31) (i := 6) d_X9_commonDivisor_31 rfl ?_
          refine Tr.lstore (pc := 33) (i := 4) (ls2 := [(4, (1, p9_6)), (9, (1, r28)), (6, (1, p9_6)), (8, (0, p9_8))]) d_X9_commonDivisor_33 (by decide) rfl ?_
          refine Tr.lload (pc := 35) (i := 9) d_X9_commonDivisor_35 rfl ?_
          refine Tr.lstore (pc := 37) (i := 6) (ls2 := [(6, (1, r28)), (4, (1, p9_6)), (9, (1, r28)), (8, (0, p9_8))]) d_X9_commonDivisor_37 (by decide) rfl ?_
          refine Tr.iincV (pc := 39) (n2 := (p9_8 + 1)) (ls2 := [(8, (0, (p9_8 + 1))), (6, (1, r28)), (4, (1, p9_6)), (9, (1, r28))]) d_X9_commonDivisor_39 rfl (by decide) ((w32_id (by omega)).trans (by omega)) rfl ?_
          refine Tr.goto (pc := 42) (tgt := 9) d_X9_commonDivisor_42 rfl ?_
          refine Tr.pick [2, 1, 0] (ls2 := [(4, (1, p9_6)), (6, (1, r28)), (8, (0, (p9_8 + 1)))]) rfl ?_
          exact J9 _ _ _ _ hS (by omega) (by omega) (by omega) (by omega)
  refine Tr.pick [2, 1, 0] (ls2 := [(4, (1, a0)), (6, (1, a2)), (8, (0, 0))]) rfl ?_
  exact J9 _ _ _ _ _ hS (by omega) (by omega) (by omega) (Nat.lt_succ_self _)

def ws_X9_share_100 : List (Int × Int) := []
def as_X9_share_100 : List Int := []
def q_X9_share_100 (M0 M' : Mem) (r : Option PV) : Prop := St Tru ws_X9_share_100 as_X9_share_100 M0 M' ∧ ∃ v : Int, r = some (1, v) ∧ (-9223372036854775808) ≤ v ∧ v ≤ 9223372036854775807
set_option maxRecDepth 100000 in
set_option maxHeartbeats 4000000 in
theorem sp_X9_share_100 {l : Launch} {K : EC} {M0 : Mem} {xq : Int} (hI : In Tru M0) (hE : e_all K xq)  (a1 : Int) (ha1 : 0 ≤ a1 ∧ a1 ≤ 59) (a2 : Int) (ha2 : 0 ≤ a2 ∧ a2 ≤ 1)  (hq0 : bt (rd M0 100 2) a1) : Tr l K 3 mX9_share 0 [(0, (2, 100)), (1, (0, a1)), (2, (0, a2))] [] M0 (q_X9_share_100 M0) := by
  have hS : St Tru ws_X9_share_100 as_X9_share_100 M0 M0 := St.rf hI
  refine Tr.aload_n (pc := 0) (i := 0) d_X9_share_0 rfl rfl ?_
  refine Tr.getf (pc := 1) d_X9_share_1 f_9_28 (by decide) (by decide) (ty_100 hS.1.1) ?_
  refine Tr.gen (P := fun v => (-9223372036854775808) ≤ v ∧ v ≤ 9223372036854775807) (ir_100_2 hS.1.2.1) (fun r1 er1 br1 => ?_)
  refine Tr.callS (pc := 4) (as := [_]) d_X9_share_4 s_9_89 ok_J13_bitCount_95d88 rfl rfl (Nat.le_of_ble_eq_true rfl) (Nat.le_of_ble_eq_true rfl) ?_
  refine Tr.imp (Tr.deep (by decide) (sp_J13_bitCount_95d88 hS.1 r1 (by omega))) ?_
  rintro M4 _ ⟨h4, r4, rfl, lr4, ur4, wr4⟩
  have hS := St.tr hS h4 (by decide) (by decide)
  refine Tr.sc [(0, r4)] rfl ?_
  refine Tr.istore_n (pc := 7) (i := 3) (ls2 := [(3, (0, r4)), (0, (2, 100)), (1, (0, a1)), (2, (0, a2))]) d_X9_share_7 rfl (by decide) rfl ?_
  refine Tr.iload_n (pc := 8) (i := 3) d_X9_share_8 rfl rfl ?_
  refine Tr.iconst (pc := 9) d_X9_share_9 (by decide) ?_
  refine Tr.icmp_lt (pc := 10) (tgt := 19) d_X9_share_10 rfl (fun c10 => ?_) (fun c10 => ?_)
  · refine Tr.ldc2 (pc := 19) d_X9_share_19 kl_9_98 (by decide) ?_
    exact Tr.lret (pc := 22) d_X9_share_22 rfl ⟨hS, _, rfl, by omega, by omega⟩
  · refine Tr.iload_n (pc := 13) (i := 3) d_X9_share_13 rfl rfl ?_
    refine Tr.bipush (pc := 14) d_X9_share_14 rfl (by decide) ?_
    refine Tr.icmp_le (pc := 16) (tgt := 23) d_X9_share_16 rfl (fun c16 => ?_) (fun c16 => ?_)
    · refine Tr.aload_n (pc := 23) (i := 0) d_X9_share_23 rfl rfl ?_
      refine Tr.iload_n (pc := 24) (i := 1) d_X9_share_24 rfl rfl ?_
      refine Tr.callV (pc := 25) (as := [_]) d_X9_share_25 s_9_82 ok_X9_bitOf rfl rfl (Nat.le_of_ble_eq_true rfl) (Nat.le_of_ble_eq_true rfl) (by decide) (ty_100 hS.1.1) ?_
      refine Tr.imp (Tr.deep (by decide) (sp_X9_bitOf_100 hS.1 a1 (by omega))) ?_
      rintro M25 _ ⟨h25, r25, rfl, lr25, ur25, z25_0⟩
      have hS := St.tr hS h25 (by decide) (by decide)
      refine Tr.sc [(0, r25)] rfl ?_
      have hu25 : rd M4 100 2 = r1 := (St.kp h4 (by decide) (by decide) (by decide)).trans er1
      obtain ⟨qr, eqr⟩ : ∃ q9 : Nat, rk r1 a1 = q9 := ⟨_, rfl⟩
      have hb25 : r25 = f_ishl 1 (qr : Int) := by have h9 := z25_0 (by omega); rw [hu25, eqr] at h9; exact h9
      have hr25 : (qr : Int) + 1 ≤ r4 := by have h8 := rk_lt (show bt r1 a1 by rw [← er1]; exact hq0) (by omega); have h9 := wr4.1; rw [eqr] at h8; omega
      refine Tr.istore (pc := 28) (i := 4) (ls2 := [(4, (0, r25)), (3, (0, r4)), (0, (2, 100)), (1, (0, a1)), (2, (0, a2))]) d_X9_share_28 (by decide) rfl ?_
      refine Tr.lconst (pc := 30) (v := 0) d_X9_share_30 rfl (by decide) ?_
      refine Tr.lstore (pc := 31) (i := 5) (ls2 := [(5, (1, 0)), (4, (0, r25)), (3, (0, r4)), (0, (2, 100)), (1, (0, a1)), (2, (0, a2))]) d_X9_share_31 (by decide) rfl ?_
      refine Tr.iconst (pc := 33) d_X9_share_33 (by decide) ?_
      refine Tr.istore (pc := 34) (i := 7) (ls2 := [(7, (0, 0)), (5, (1, 0)), (4, (0, r25)), (3, (0, r4)), (0, (2, 100)), (1, (0, a1)), (2, (0, a2))]) d_X9_share_34 (by decide) rfl ?_
      have J36 : ∀ (n36 : Nat) (M : Mem) (p36_5 p36_7 : Int), St Tru ws_X9_share_100 as_X9_share_100 M0 M → ((-9223372036854775808) ≤ p36_5 ∧ p36_5 ≤ 9223372036854775807) → (0 ≤ p36_7 ∧ p36_7 ≤ 256) → rd M 100 2 = r1 → (256 - p36_7).toNat < n36 → Tr l K 3 mX9_share 36 [(0, (2, 100)), (2, (0, a2)), (3, (0, r4)), (4, (0, r25)), (5, (1, p36_5)), (7, (0, p36_7))] [] M (q_X9_share_100 M0) := by
        intro n36
        induction n36 with
        | zero => intro M p36_5 p36_7 hS bp36_5 bp36_7 k36_100_2 hm36; exact absurd hm36 (Nat.not_lt_zero _)
        | succ n36 J36 =>
          intro M p36_5 p36_7 hS bp36_5 bp36_7 k36_100_2 hm36
          refine Tr.iload (pc := 36) (i := 7) d_X9_share_36 rfl ?_
          refine Tr.iconst (pc := 38) d_X9_share_38 (by decide) ?_
          refine Tr.iload_n (pc := 39) (i := 3) d_X9_share_39 rfl rfl ?_
          refine Tr.ishl (pc := 40) d_X9_share_40 ?_
          refine Tr.gen (P := fun v => v = f_ishl 1 r4 ∧ (2 ≤ v ∧ v ≤ 256)) ⟨rfl, ish_b (by omega)⟩ (fun r40 er40 br40 => ?_)
          refine Tr.icmp_ge (pc := 41) (tgt := 112) d_X9_share_41 rfl (fun c41 => ?_) (fun c41 => ?_)
          · refine Tr.lload (pc := 112) (i := 5) d_X9_share_112 rfl ?_
            refine Tr.callS (pc := 114) (as := [_]) d_X9_share_114 s_9_107 ok_J9_abs_067f4 rfl rfl (Nat.le_of_ble_eq_true rfl) (Nat.le_of_ble_eq_true rfl) ?_
            refine Tr.imp (Tr.deep (by decide) (sp_J9_abs_067f4 hS.1 p36_5 (by omega))) ?_
            rintro M114 _ ⟨h114, r114, rfl, lr114, ur114⟩
            have hS := St.tr hS h114 (by decide) (by decide)
            refine Tr.sc [(1, r114)] rfl ?_
            refine Tr.gets (pc := 117) d_X9_share_117 sl_9_104 hE.2.2.2.2.2.1 ?_
            refine Tr.iload_n (pc := 120) (i := 3) d_X9_share_120 rfl rfl ?_
            refine Tr.xld (pc := 121) (i := 3) d_X9_share_121 rfl hE.2.2.1 (by omega) (by omega) ?_
            refine Tr.gen (P := fun v => 0 ≤ v ∧ v ≤ 40320) (xT_b (q := xr_3) (by decide +kernel) (by decide) _) (fun r121 er121 br121 => ?_)
            refine Tr.i2l (pc := 122) d_X9_share_122 ?_
            refine Tr.callS (pc := 123) (as := [_, _]) d_X9_share_123 s_9_111 ok_X9_commonDivisor rfl rfl (Nat.le_of_ble_eq_true rfl) (Nat.le_of_ble_eq_true rfl) ?_
            refine Tr.imp (Tr.deep (by decide) (sp_X9_commonDivisor hS.1 r114 (by omega) r121 (by omega))) ?_
            rintro M123 _ ⟨h123, r123, rfl, lr123, ur123⟩
            have hS := St.tr hS h123 (by decide) (by decide)
            refine Tr.sc [(1, r123)] rfl ?_
            refine Tr.lstore (pc := 126) (i := 7) (ls2 := [(7, (1, r123)), (0, (2, 100)), (2, (0, a2)), (3, (0, r4)), (4, (0, r25)), (5, (1, p36_5))]) d_X9_share_126 (by decide) rfl ?_
            refine Tr.lload (pc := 128) (i := 7) d_X9_share_128 rfl ?_
            refine Tr.lconst (pc := 130) (v := 0) d_X9_share_130 rfl (by decide) ?_
            refine Tr.lcmp (pc := 131) d_X9_share_131 ?_
            refine Tr.gen (P := fun v => (v = 1 ∧ 0 < r123) ∨ (v = 0 ∧ r123 = 0) ∨ (v = -1 ∧ r123 < 0)) (f_lcmp_c _ _) (fun r131 er131 br131 => ?_)
            refine Tr.if_ne (pc := 132) (tgt := 139) d_X9_share_132 rfl (fun c132 => ?_) (fun c132 => ?_)
            · refine Tr.iload_n (pc := 139) (i := 2) d_X9_share_139 rfl rfl ?_
              refine Tr.if_eq (pc := 140) (tgt := 148) d_X9_share_140 rfl (fun c140 => ?_) (fun c140 => ?_)
              · refine Tr.gets (pc := 148) d_X9_share_148 sl_9_104 hE.2.2.2.2.2.1 ?_
                refine Tr.iload_n (pc := 151) (i := 3) d_X9_share_151 rfl rfl ?_
                refine Tr.xld (pc := 152) (i := 3) d_X9_share_152 rfl hE.2.2.1 (by omega) (by omega) ?_
                refine Tr.gen (P := fun v => 0 ≤ v ∧ v ≤ 40320) (xT_b (q := xr_3) (by decide +kernel) (by decide) _) (fun r152 er152 br152 => ?_)
                refine Tr.i2l (pc := 153) d_X9_share_153 ?_
                refine Tr.lload (pc := 154) (i := 7) d_X9_share_154 rfl ?_
                refine Tr.ldiv (pc := 156) d_X9_share_156 (by omega) ?_
                refine Tr.gen (P := fun v => (-9223372036854775808) ≤ v ∧ v ≤ 9223372036854775807) (w64_b _) (fun r156 er156 br156 => ?_)
                exact Tr.lret (pc := 157) d_X9_share_157 rfl ⟨hS, _, rfl, by omega, by omega⟩
              · refine Tr.lload (pc := 143) (i := 5) d_X9_share_143 rfl ?_
                refine Tr.goto (pc := 145) (tgt := 154) d_X9_share_145 rfl ?_
                refine Tr.lload (pc := 154) (i := 7) d_X9_share_154 rfl ?_
                refine Tr.ldiv (pc := 156) d_X9_share_156 (by omega) ?_
                refine Tr.gen (P := fun v => (-9223372036854775808) ≤ v ∧ v ≤ 9223372036854775807) (w64_b _) (fun r156 er156 br156 => ?_)
                exact Tr.lret (pc := 157) d_X9_share_157 rfl ⟨hS, _, rfl, by omega, by omega⟩
            · refine Tr.ldc2 (pc := 135) d_X9_share_135 kl_9_98 (by decide) ?_
              exact Tr.lret (pc := 138) d_X9_share_138 rfl ⟨hS, _, rfl, by omega, by omega⟩
          · refine Tr.iload (pc := 44) (i := 7) d_X9_share_44 rfl ?_
            refine Tr.iload (pc := 46) (i := 4) d_X9_share_46 rfl ?_
            refine Tr.iand (pc := 48) d_X9_share_48 ?_
            refine Tr.gen (P := fun v => (-2147483648) ≤ v ∧ v ≤ 2147483647) (i32_b _) (fun r48 er48 br48 => ?_)
            have J106 : ∀ (M : Mem) (p106_5 : Int), St Tru ws_X9_share_100 as_X9_share_100 M0 M → ((-9223372036854775808) ≤ p106_5 ∧ p106_5 ≤ 9223372036854775807) → rd M 100 2 = r1 → Tr l K 3 mX9_share 106 [(0, (2, 100)), (2, (0, a2)), (3, (0, r4)), (4, (0, r25)), (5, (1, p106_5)), (7, (0, p36_7))] [] M (q_X9_share_100 M0) := by
              intro M p106_5 hS bp106_5 k106_100_2
              refine Tr.iincV (pc := 106) (n2 := (p36_7 + 1)) (ls2 := [(7, (0, (p36_7 + 1))), (0, (2, 100)), (2, (0, a2)), (3, (0, r4)), (4, (0, r25)), (5, (1, p106_5))]) d_X9_share_106 rfl (by decide) ((w32_id (by omega)).trans (by omega)) rfl ?_
              refine Tr.goto (pc := 109) (tgt := 36) d_X9_share_109 rfl ?_
              refine Tr.pick [1, 2, 3, 4, 5, 0] (ls2 := [(0, (2, 100)), (2, (0, a2)), (3, (0, r4)), (4, (0, r25)), (5, (1, p106_5)), (7, (0, (p36_7 + 1)))]) rfl ?_
              exact J36 _ _ _ hS (by omega) (by omega) k106_100_2 (by omega)
            refine Tr.if_ne (pc := 49) (tgt := 106) d_X9_share_49 rfl (fun c49 => ?_) (fun c49 => ?_)
            · refine Tr.pick [0, 1, 2, 3, 4, 5] (ls2 := [(0, (2, 100)), (2, (0, a2)), (3, (0, r4)), (4, (0, r25)), (5, (1, p36_5)), (7, (0, p36_7))]) rfl ?_
              exact J106 _ _ hS (by omega) k36_100_2
            · refine Tr.iload (pc := 52) (i := 7) d_X9_share_52 rfl ?_
              refine Tr.callS (pc := 54) (as := [_]) d_X9_share_54 s_9_100 ok_J6_bitCount_0f7a4 rfl rfl (Nat.le_of_ble_eq_true rfl) (Nat.le_of_ble_eq_true rfl) ?_
              refine Tr.imp (Tr.deep (by decide) (sp_J6_bitCount_0f7a4 hS.1 p36_7 (by omega))) ?_
              rintro M54 _ ⟨h54, r54, rfl, lr54, ur54, wr54⟩
              have hS := St.tr hS h54 (by decide) (by decide)
              refine Tr.sc [(0, r54)] rfl ?_
              have hz54 := sh_t (m := r4) (s := p36_7) (p := (qr : Int)) (b := r25) (by omega) (by omega) hb25 (by rw [← br40.1]; omega) (by rw [er48]; omega)
              refine Tr.istore (pc := 57) (i := 8) (ls2 := [(8, (0, r54)), (0, (2, 100)), (2, (0, a2)), (3, (0, r4)), (4, (0, r25)), (5, (1, p36_5)), (7, (0, p36_7))]) d_X9_share_57 (by decide) rfl ?_
              refine Tr.gets (pc := 59) d_X9_share_59 sl_9_104 hE.2.2.2.2.2.1 ?_
              refine Tr.iload (pc := 62) (i := 8) d_X9_share_62 rfl ?_
              refine Tr.xld (pc := 64) (i := 3) d_X9_share_64 rfl hE.2.2.1 (by omega) (by omega) ?_
              refine Tr.gen (P := fun v => 0 ≤ v ∧ v ≤ 40320) (xT_b (q := xr_3) (by decide +kernel) (by decide) _) (fun r64 er64 br64 => ?_)
              refine Tr.i2l (pc := 65) d_X9_share_65 ?_
              refine Tr.gets (pc := 66) d_X9_share_66 sl_9_104 hE.2.2.2.2.2.1 ?_
              refine Tr.iload_n (pc := 69) (i := 3) d_X9_share_69 rfl rfl ?_
              refine Tr.iconst (pc := 70) d_X9_share_70 (by decide) ?_
              refine Tr.isub (pc := 71) d_X9_share_71 ?_
              refine Tr.tp (r4 - 1) ((w32_id (by omega)).trans (by omega)) ?_
              refine Tr.iload (pc := 72) (i := 8) d_X9_share_72 rfl ?_
              refine Tr.isub (pc := 74) d_X9_share_74 ?_
              refine Tr.tp (r4 - r54 - 1) ((w32_id (by omega)).trans (by omega)) ?_
              refine Tr.xld (pc := 75) (i := 3) d_X9_share_75 rfl hE.2.2.1 (by omega) (by omega) ?_
              refine Tr.gen (P := fun v => 0 ≤ v ∧ v ≤ 40320) (xT_b (q := xr_3) (by decide +kernel) (by decide) _) (fun r75 er75 br75 => ?_)
              refine Tr.i2l (pc := 76) d_X9_share_76 ?_
              refine Tr.lmul (pc := 77) d_X9_share_77 ?_
              refine Tr.gen (P := fun v => 0 ≤ v ∧ v ≤ 1625702400) (w64_mul (A := 40320) (B := 40320) (by omega) (by omega) (by omega) (by omega) (by decide)) (fun r77 er77 br77 => ?_)
              refine Tr.lstore (pc := 78) (i := 9) (ls2 := [(9, (1, r77)), (8, (0, r54)), (0, (2, 100)), (2, (0, a2)), (3, (0, r4)), (4, (0, r25)), (5, (1, p36_5)), (7, (0, p36_7))]) d_X9_share_78 (by decide) rfl ?_
              refine Tr.lload (pc := 80) (i := 5) d_X9_share_80 rfl ?_
              refine Tr.lload (pc := 82) (i := 9) d_X9_share_82 rfl ?_
              refine Tr.aload_n (pc := 84) (i := 0) d_X9_share_84 rfl rfl ?_
              refine Tr.getf (pc := 85) d_X9_share_85 f_9_11 (by decide) (by decide) (ty_100 hS.1.1) ?_
              refine Tr.tp 101 (fx_100_0 hS.1.1) ?_
              refine Tr.iload (pc := 88) (i := 7) d_X9_share_88 rfl ?_
              refine Tr.iload (pc := 90) (i := 4) d_X9_share_90 rfl ?_
              refine Tr.ior (pc := 92) d_X9_share_92 ?_
              refine Tr.gen (P := fun v => 0 ≤ v ∧ v ≤ 255) hz54.2 (fun r92 er92 br92 => ?_)
              refine Tr.lald (pc := 93) d_X9_share_93 (ty_101 hS.1.1) (by omega) (by omega) ?_
              refine Tr.gen (P := fun v => (-9223372036854775808) ≤ v ∧ v ≤ 9223372036854775807) (ar_101 hS.1.2.1 _) (fun r93 er93 br93 => ?_)
              refine Tr.aload_n (pc := 94) (i := 0) d_X9_share_94 rfl rfl ?_
              refine Tr.getf (pc := 95) d_X9_share_95 f_9_11 (by decide) (by decide) (ty_100 hS.1.1) ?_
              refine Tr.tp 101 (fx_100_0 hS.1.1) ?_
              refine Tr.iload (pc := 98) (i := 7) d_X9_share_98 rfl ?_
              refine Tr.lald (pc := 100) d_X9_share_100 (ty_101 hS.1.1) (by omega) (by omega) ?_
              refine Tr.gen (P := fun v => (-9223372036854775808) ≤ v ∧ v ≤ 9223372036854775807) (ar_101 hS.1.2.1 _) (fun r100 er100 br100 => ?_)
              refine Tr.lsub (pc := 101) d_X9_share_101 ?_
              refine Tr.gen (P := fun v => (-9223372036854775808) ≤ v ∧ v ≤ 9223372036854775807) (w64_b _) (fun r101 er101 br101 => ?_)
              refine Tr.lmul (pc := 102) d_X9_share_102 ?_
              refine Tr.gen (P := fun v => (-9223372036854775808) ≤ v ∧ v ≤ 9223372036854775807) (w64_b _) (fun r102 er102 br102 => ?_)
              refine Tr.ladd (pc := 103) d_X9_share_103 ?_
              refine Tr.gen (P := fun v => (-9223372036854775808) ≤ v ∧ v ≤ 9223372036854775807) (w64_b _) (fun r103 er103 br103 => ?_)
              refine Tr.lstore (pc := 104) (i := 5) (ls2 := [(5, (1, r103)), (9, (1, r77)), (8, (0, r54)), (0, (2, 100)), (2, (0, a2)), (3, (0, r4)), (4, (0, r25)), (7, (0, p36_7))]) d_X9_share_104 (by decide) rfl ?_
              refine Tr.pick [3, 4, 5, 6, 0, 7] (ls2 := [(0, (2, 100)), (2, (0, a2)), (3, (0, r4)), (4, (0, r25)), (5, (1, r103)), (7, (0, p36_7))]) rfl ?_
              exact J106 _ _ hS (by omega) ((St.kp h54 (by decide) (by decide) (by decide)).trans k36_100_2)
      refine Tr.pick [4, 6, 3, 2, 1, 0] (ls2 := [(0, (2, 100)), (2, (0, a2)), (3, (0, r4)), (4, (0, r25)), (5, (1, 0)), (7, (0, 0))]) rfl ?_
      exact J36 _ _ _ _ hS (by omega) (by omega) ((St.kp h25 (by decide) (by decide) (by decide)).trans ((St.kp h4 (by decide) (by decide) (by decide)).trans er1)) (Nat.lt_succ_self _)
    · refine Tr.ldc2 (pc := 19) d_X9_share_19 kl_9_98 (by decide) ?_
      exact Tr.lret (pc := 22) d_X9_share_22 rfl ⟨hS, _, rfl, by omega, by omega⟩

def ws_X11_byTurns_0_w1 : List (Int × Int) := [(100, 2), (100, 3)]
def as_X11_byTurns_0_w1 : List Int := [101, 102]
def q_X11_byTurns_0_w1 (a1 : Int) (a2 : Int) (a3 : Int) (a4 : Int) (M0 M' : Mem) (r : Option PV) : Prop := St Tru ws_X11_byTurns_0_w1 as_X11_byTurns_0_w1 M0 M' ∧ ∃ v : Int, r = some (1, v) ∧ (-9223372036854775808) ≤ v ∧ v ≤ 9223372036854775807 ∧ (TW M')
set_option maxRecDepth 100000 in
set_option maxHeartbeats 4000000 in
theorem sp_X11_byTurns_0_w1 {l : Launch} {K : EC} {M0 : Mem} {xq : Int} (hI : In Tru M0) (hE : e_all K xq) (en_0_4 : rd M0 0 4 = 7) (en_0_9 : rd M0 0 9 = 1) (a1 : Int) (ha1 : (-2147483648) ≤ a1 ∧ a1 ≤ 2147483647) (a2 : Int) (ha2 : (-2147483648) ≤ a2 ∧ a2 ≤ 2147483647) (a3 : Int) (ha3 : (-2147483648) ≤ a3 ∧ a3 ≤ 2147483647) (a4 : Int) (ha4 : 0 ≤ a4 ∧ a4 ≤ 1)  (hq0 : TW M0) : Tr l K 4 mX11_byTurns 0 [(0, (2, 0)), (1, (0, a1)), (2, (0, a2)), (3, (0, a3)), (4, (0, a4))] [] M0 (q_X11_byTurns_0_w1 a1 a2 a3 a4 M0) := by
  have hS : St Tru ws_X11_byTurns_0_w1 as_X11_byTurns_0_w1 M0 M0 := St.rf hI
  obtain ⟨g63_1, eg63_1⟩ : ∃ v, rd M0 63 1 = v := ⟨_, rfl⟩
  have bg63_1 : (-1000000000) ≤ g63_1 ∧ g63_1 ≤ 1000000000 := by rw [← eg63_1]; exact ir_63_1 hI.2.1
  obtain ⟨g63_0, eg63_0⟩ : ∃ v, rd M0 63 0 = v := ⟨_, rfl⟩
  have bg63_0 : (-2147483648) ≤ g63_0 ∧ g63_0 ≤ 2147483647 := by rw [← eg63_0]; exact ir_63_0 hI.2.1
  refine Tr.aload_n (pc := 0) (i := 0) d_X11_byTurns_0 rfl rfl ?_
  refine Tr.iload_n (pc := 1) (i := 1) d_X11_byTurns_1 rfl rfl ?_
  refine Tr.iload_n (pc := 2) (i := 2) d_X11_byTurns_2 rfl rfl ?_
  refine Tr.callV (pc := 3) (as := [_, _]) d_X11_byTurns_3 s_11_214 ok_X11_stretchPlace rfl rfl (Nat.le_of_ble_eq_true rfl) (Nat.le_of_ble_eq_true rfl) (by decide) (ty_0 hS.1.1) ?_
  refine Tr.imp (Tr.deep (by decide) (sp_X11_stretchPlace_0_w1 hS.1 ((St.kp hS (by decide) (by decide) (by decide)).trans en_0_4) ((St.kp hS (by decide) (by decide) (by decide)).trans en_0_9) a1 (by omega) a2 (by omega))) ?_
  rintro M3 _ ⟨h3, r3, rfl, lr3, ur3, z3_0⟩
  have hS := St.tr hS h3 (by decide) (by decide)
  have ka3_63_0 : rd M3 63 0 = g63_0 := ((St.kp h3 (by decide) (by decide) (by decide)).trans eg63_0)
  refine Tr.sc [(0, r3)] rfl ?_
  refine Tr.istore (pc := 6) (i := 5) (ls2 := [(5, (0, r3)), (0, (2, 0)), (1, (0, a1)), (2, (0, a2)), (3, (0, a3)), (4, (0, a4))]) d_X11_byTurns_6 (by decide) rfl ?_
  refine Tr.iload (pc := 8) (i := 5) d_X11_byTurns_8 rfl ?_
  refine Tr.if_lt (pc := 10) (tgt := 21) d_X11_byTurns_10 rfl (fun c10 => ?_) (fun c10 => ?_)
  · refine Tr.ldc2 (pc := 21) d_X11_byTurns_21 kl_11_230 (by decide) ?_
    exact Tr.lret (pc := 24) d_X11_byTurns_24 rfl ⟨hS, _, rfl, by omega, by omega, (TW.st hq0 h3 (by decide))⟩
  · refine Tr.aload_n (pc := 13) (i := 0) d_X11_byTurns_13 rfl rfl ?_
    refine Tr.iload_n (pc := 14) (i := 3) d_X11_byTurns_14 rfl rfl ?_
    refine Tr.callV (pc := 15) (as := [_]) d_X11_byTurns_15 s_11_191 ok_X11_isLine rfl rfl (Nat.le_of_ble_eq_true rfl) (Nat.le_of_ble_eq_true rfl) (by decide) (ty_0 hS.1.1) ?_
    refine Tr.imp (Tr.deep (by decide) (sp_X11_isLine_0 hS.1 ((St.kp hS (by decide) (by decide) (by decide)).trans en_0_4) a3 (by omega))) ?_
    rintro M15 _ ⟨h15, r15, rfl, lr15, ur15, wr15⟩
    have hS := St.tr hS h15 (by decide) (by decide)
    refine Tr.sc [(0, r15)] rfl ?_
    refine Tr.if_ne (pc := 18) (tgt := 25) d_X11_byTurns_18 rfl (fun c18 => ?_) (fun c18 => ?_)
    · refine Tr.aload_n (pc := 25) (i := 0) d_X11_byTurns_25 rfl rfl ?_
      refine Tr.getf (pc := 26) d_X11_byTurns_26 f_11_46 (by decide) (by decide) (ty_0 hS.1.1) ?_
      refine Tr.tp 48 (fx_0_7 hS.1.1) ?_
      refine Tr.getf (pc := 29) d_X11_byTurns_29 f_11_178 (by decide) (by decide) (ty_48 hS.1.1) ?_
      refine Tr.tp 56 (fx_48_0 hS.1.1) ?_
      refine Tr.getf (pc := 32) d_X11_byTurns_32 f_11_201 (by decide) (by decide) (ty_56 hS.1.1) ?_
      refine Tr.tp 63 (fx_56_8 hS.1.1) ?_
      refine Tr.getf (pc := 35) d_X11_byTurns_35 f_11_226 (by decide) (by decide) (ty_63 hS.1.1) ?_
      refine Tr.gen (P := fun v => v = tref g63_1 5) (tl_ref hS ((St.kp h15 (by decide) (by decide) (by decide)).trans ((St.kp h3 (by decide) (by decide) (by decide)).trans eg63_1)) (by decide)) (fun t35 et35 bt35 => ?_)
      refine Tr.iload (pc := 38) (i := 5) d_X11_byTurns_38 rfl ?_
      have nk40_0 : rd M15 63 0 = g63_0 := ((St.kp h15 (by decide) (by decide) (by decide)).trans ((St.kp h3 (by decide) (by decide) (by decide)).trans eg63_0))
      have nn40 := tl_n hS ((St.kp h15 (by decide) (by decide) (by decide)).trans ((St.kp h3 (by decide) (by decide) (by decide)).trans eg63_1))
      refine Tr.lald (pc := 40) d_X11_byTurns_40 (tl_tyL hS ((St.kp h15 (by decide) (by decide) (by decide)).trans ((St.kp h3 (by decide) (by decide) (by decide)).trans eg63_1)) bt35) (by omega) (by omega) ?_
      refine Tr.gen (P := fun v => (-9223372036854775808) ≤ v ∧ v ≤ 9223372036854775807) (tl_eL hS ((St.kp h15 (by decide) (by decide) (by decide)).trans ((St.kp h3 (by decide) (by decide) (by decide)).trans eg63_1)) bt35 (by omega) (by omega)) (fun r40 er40 br40 => ?_)
      refine Tr.lstore (pc := 41) (i := 6) (ls2 := [(6, (1, r40)), (5, (0, r3)), (0, (2, 0)), (1, (0, a1)), (2, (0, a2)), (3, (0, a3)), (4, (0, a4))]) d_X11_byTurns_41 (by decide) rfl ?_
      refine Tr.lload (pc := 43) (i := 6) d_X11_byTurns_43 rfl ?_
      refine Tr.iload_n (pc := 45) (i := 3) d_X11_byTurns_45 rfl rfl ?_
      refine Tr.lshr (pc := 46) d_X11_byTurns_46 ?_
      refine Tr.gen (P := fun v => (-9223372036854775808) ≤ v ∧ v ≤ 9223372036854775807) (i64_b _) (fun r46 er46 br46 => ?_)
      refine Tr.lconst (pc := 47) (v := 1) d_X11_byTurns_47 rfl (by decide) ?_
      refine Tr.land (pc := 48) d_X11_byTurns_48 ?_
      refine Tr.gen (P := fun v => v = r46 % 2 ∧ (0 ≤ v ∧ v ≤ 1)) ⟨(f_land_1 _).1, (f_land_1 _).2⟩ (fun r48 er48 br48 => ?_)
      refine Tr.lconst (pc := 49) (v := 0) d_X11_byTurns_49 rfl (by decide) ?_
      refine Tr.lcmp (pc := 50) d_X11_byTurns_50 ?_
      refine Tr.gen (P := fun v => (v = 1 ∧ 0 < r48) ∨ (v = 0 ∧ r48 = 0) ∨ (v = -1 ∧ r48 < 0)) (f_lcmp_c _ _) (fun r50 er50 br50 => ?_)
      refine Tr.if_eq (pc := 51) (tgt := 64) d_X11_byTurns_51 rfl (fun c51 => ?_) (fun c51 => ?_)
      · refine Tr.ldc2 (pc := 64) d_X11_byTurns_64 kl_11_230 (by decide) ?_
        exact Tr.lret (pc := 67) d_X11_byTurns_67 rfl ⟨hS, _, rfl, by omega, by omega, (TW.st (TW.st hq0 h3 (by decide)) h15 (by decide))⟩
      · refine Tr.lload (pc := 54) (i := 6) d_X11_byTurns_54 rfl ?_
        refine Tr.callS (pc := 56) (as := [_]) d_X11_byTurns_56 s_11_232 ok_J13_bitCount_95d88 rfl rfl (Nat.le_of_ble_eq_true rfl) (Nat.le_of_ble_eq_true rfl) ?_
        refine Tr.imp (Tr.deep (by decide) (sp_J13_bitCount_95d88 hS.1 r40 (by omega))) ?_
        rintro M56 _ ⟨h56, r56, rfl, lr56, ur56, wr56⟩
        have hS := St.tr hS h56 (by decide) (by decide)
        refine Tr.sc [(0, r56)] rfl ?_
        refine Tr.bipush (pc := 59) d_X11_byTurns_59 rfl (by decide) ?_
        refine Tr.icmp_le (pc := 61) (tgt := 68) d_X11_byTurns_61 rfl (fun c61 => ?_) (fun c61 => ?_)
        · refine Tr.aload_n (pc := 68) (i := 0) d_X11_byTurns_68 rfl rfl ?_
          refine Tr.getf (pc := 69) d_X11_byTurns_69 f_11_56 (by decide) (by decide) (ty_0 hS.1.1) ?_
          refine Tr.tp 100 (fx_0_10 hS.1.1) ?_
          refine Tr.aload_n (pc := 72) (i := 0) d_X11_byTurns_72 rfl rfl ?_
          refine Tr.getf (pc := 73) d_X11_byTurns_73 f_11_30 (by decide) (by decide) (ty_0 hS.1.1) ?_
          refine Tr.tp 7 ((St.kp hS (by decide) (by decide) (by decide)).trans en_0_4) ?_
          refine Tr.aload_n (pc := 76) (i := 0) d_X11_byTurns_76 rfl rfl ?_
          refine Tr.getf (pc := 77) d_X11_byTurns_77 f_11_46 (by decide) (by decide) (ty_0 hS.1.1) ?_
          refine Tr.tp 48 (fx_0_7 hS.1.1) ?_
          refine Tr.getf (pc := 80) d_X11_byTurns_80 f_11_178 (by decide) (by decide) (ty_48 hS.1.1) ?_
          refine Tr.tp 56 (fx_48_0 hS.1.1) ?_
          refine Tr.getf (pc := 83) d_X11_byTurns_83 f_11_201 (by decide) (by decide) (ty_56 hS.1.1) ?_
          refine Tr.tp 63 (fx_56_8 hS.1.1) ?_
          refine Tr.iload (pc := 86) (i := 5) d_X11_byTurns_86 rfl ?_
          refine Tr.callV (pc := 88) (as := [_, _, _]) d_X11_byTurns_88 s_11_238 ok_X9_weigh rfl rfl (Nat.le_of_ble_eq_true rfl) (Nat.le_of_ble_eq_true rfl) (by decide) (ty_100 hS.1.1) ?_
          have kb88_63_0 : rd M56 63 0 = g63_0 := ((St.kp h56 (by decide) (by decide) (by decide)).trans ((St.kp h15 (by decide) (by decide) (by decide)).trans ((St.kp h3 (by decide) (by decide) (by decide)).trans eg63_0)))
          refine Tr.imp (Tr.deep (by decide) (sp_X9_weigh_100_7_63 hS.1 r3 (by omega) (by omega) (TW.st (TW.st (TW.st hq0 h3 (by decide)) h15 (by decide)) h56 (by decide)))) ?_
          rintro M88 _ ⟨h88, rfl, z88_0⟩
          have hS := St.tr hS h88 (by decide) (by decide)
          refine Tr.sc [] rfl ?_
          have hus : rd M88 100 2 = r40 := z88_0.1.1.trans ((St.ud h88 (by decide) _).trans ((St.ud h56 (by decide) _).trans (by rw [et35]; exact er40)))
          refine Tr.aload_n (pc := 91) (i := 0) d_X11_byTurns_91 rfl rfl ?_
          refine Tr.getf (pc := 92) d_X11_byTurns_92 f_11_56 (by decide) (by decide) (ty_0 hS.1.1) ?_
          refine Tr.tp 100 (fx_0_10 hS.1.1) ?_
          refine Tr.iload_n (pc := 95) (i := 3) d_X11_byTurns_95 rfl rfl ?_
          refine Tr.iload (pc := 96) (i := 4) d_X11_byTurns_96 rfl ?_
          refine Tr.callV (pc := 98) (as := [_, _]) d_X11_byTurns_98 s_11_242 ok_X9_share rfl rfl (Nat.le_of_ble_eq_true rfl) (Nat.le_of_ble_eq_true rfl) (by decide) (ty_100 hS.1.1) ?_
          refine Tr.imp (Tr.deep (by decide) (sp_X9_share_100 hS.1 hE a3 (by omega) a4 (by omega) (by rw [hus]; exact bt_of er46 (by omega) (by omega) (by rw [er48]; omega)))) ?_
          rintro M98 _ ⟨h98, r98, rfl, lr98, ur98⟩
          have hS := St.tr hS h98 (by decide) (by decide)
          refine Tr.sc [(1, r98)] rfl ?_
          exact Tr.lret (pc := 101) d_X11_byTurns_101 rfl ⟨hS, _, rfl, by omega, by omega, (TW.st (Or.inr (by rw [z88_0.2]; exact z88_0.1.1)) h98 (by decide))⟩
        · refine Tr.ldc2 (pc := 64) d_X11_byTurns_64 kl_11_230 (by decide) ?_
          exact Tr.lret (pc := 67) d_X11_byTurns_67 rfl ⟨hS, _, rfl, by omega, by omega, (TW.st (TW.st (TW.st hq0 h3 (by decide)) h15 (by decide)) h56 (by decide))⟩
    · refine Tr.ldc2 (pc := 21) d_X11_byTurns_21 kl_11_230 (by decide) ?_
      exact Tr.lret (pc := 24) d_X11_byTurns_24 rfl ⟨hS, _, rfl, by omega, by omega, (TW.st (TW.st hq0 h3 (by decide)) h15 (by decide))⟩
end
/-! 43.01 -/
section
def ws_X11_has_0_w1 : List (Int × Int) := []
def as_X11_has_0_w1 : List Int := []
def q_X11_has_0_w1 (M0 M' : Mem) (r : Option PV) : Prop := St Tru ws_X11_has_0_w1 as_X11_has_0_w1 M0 M' ∧ ∃ v : Int, r = some (0, v) ∧ (-1) ≤ v ∧ v ≤ 60
set_option maxRecDepth 100000 in
set_option maxHeartbeats 4000000 in
theorem sp_X11_has_0_w1 {l : Launch} {K : EC} {M0 : Mem} (hI : In Tru M0) (en_0_4 : rd M0 0 4 = 27) (a1 : Int) (ha1 : (-2147483648) ≤ a1 ∧ a1 ≤ 2147483647)  : Tr l K 0 mX11_has 0 [(0, (2, 0)), (1, (0, a1))] [] M0 (q_X11_has_0_w1 M0) := by
  have hS : St Tru ws_X11_has_0_w1 as_X11_has_0_w1 M0 M0 := St.rf hI
  refine Tr.iload_n (pc := 0) (i := 1) d_X11_has_0 rfl rfl ?_
  rcases (show (a1 < 0 ∨ 5 < a1) ∨ a1 = 0 ∨ a1 = 1 ∨ a1 = 2 ∨ a1 = 3 ∨ a1 = 4 ∨ a1 = 5 by omega) with c1 | c1 | c1 | c1 | c1 | c1 | c1
  · refine Tr.tswOut (pc := 1) (tgt := 77) d_X11_has_1 c1 rfl ?_
    refine Tr.iconst (pc := 77) d_X11_has_77 (by decide) ?_
    exact Tr.iret (pc := 78) d_X11_has_78 rfl ⟨hS, _, rfl, by omega, by omega⟩
  · refine Tr.tp 0 c1 ?_
    refine Tr.tswIn (pc := 1) (off := 39) (tgt := 40) d_X11_has_1 (by decide) (by decide) rfl rfl ?_
    refine Tr.aload_n (pc := 40) (i := 0) d_X11_has_40 rfl rfl ?_
    refine Tr.getf (pc := 41) d_X11_has_41 f_11_30 (by decide) (by decide) (ty_0 hS.1.1) ?_
    refine Tr.tp 27 ((St.kp hS (by decide) (by decide) (by decide)).trans en_0_4) ?_
    refine Tr.getf (pc := 44) d_X11_has_44 f_11_130 (by decide) (by decide) (ty_27 hS.1.1) ?_
    refine Tr.tp 28 (fx_27_4 hS.1.1) ?_
    refine Tr.iload_n (pc := 47) (i := 1) d_X11_has_47 rfl rfl ?_
    refine Tr.tp 0 (by omega) ?_
    refine Tr.iald (pc := 48) d_X11_has_48 (ty_28 hS.1.1) (by omega) (by omega) ?_
    refine Tr.gen (P := fun v => 0 ≤ v ∧ v ≤ 6) (ir_28_0 hS.1.2.1) (fun r48 er48 br48 => ?_)
    exact Tr.iret (pc := 49) d_X11_has_49 rfl ⟨hS, _, rfl, by omega, by omega⟩
  · refine Tr.tp 1 c1 ?_
    refine Tr.tswIn (pc := 1) (off := 39) (tgt := 40) d_X11_has_1 (by decide) (by decide) rfl rfl ?_
    refine Tr.aload_n (pc := 40) (i := 0) d_X11_has_40 rfl rfl ?_
    refine Tr.getf (pc := 41) d_X11_has_41 f_11_30 (by decide) (by decide) (ty_0 hS.1.1) ?_
    refine Tr.tp 27 ((St.kp hS (by decide) (by decide) (by decide)).trans en_0_4) ?_
    refine Tr.getf (pc := 44) d_X11_has_44 f_11_130 (by decide) (by decide) (ty_27 hS.1.1) ?_
    refine Tr.tp 28 (fx_27_4 hS.1.1) ?_
    refine Tr.iload_n (pc := 47) (i := 1) d_X11_has_47 rfl rfl ?_
    refine Tr.tp 1 (by omega) ?_
    refine Tr.iald (pc := 48) d_X11_has_48 (ty_28 hS.1.1) (by omega) (by omega) ?_
    refine Tr.gen (P := fun v => 0 ≤ v ∧ v ≤ 3) (ir_28_1 hS.1.2.1) (fun r48 er48 br48 => ?_)
    exact Tr.iret (pc := 49) d_X11_has_49 rfl ⟨hS, _, rfl, by omega, by omega⟩
  · refine Tr.tp 2 c1 ?_
    refine Tr.tswIn (pc := 1) (off := 39) (tgt := 40) d_X11_has_1 (by decide) (by decide) rfl rfl ?_
    refine Tr.aload_n (pc := 40) (i := 0) d_X11_has_40 rfl rfl ?_
    refine Tr.getf (pc := 41) d_X11_has_41 f_11_30 (by decide) (by decide) (ty_0 hS.1.1) ?_
    refine Tr.tp 27 ((St.kp hS (by decide) (by decide) (by decide)).trans en_0_4) ?_
    refine Tr.getf (pc := 44) d_X11_has_44 f_11_130 (by decide) (by decide) (ty_27 hS.1.1) ?_
    refine Tr.tp 28 (fx_27_4 hS.1.1) ?_
    refine Tr.iload_n (pc := 47) (i := 1) d_X11_has_47 rfl rfl ?_
    refine Tr.tp 2 (by omega) ?_
    refine Tr.iald (pc := 48) d_X11_has_48 (ty_28 hS.1.1) (by omega) (by omega) ?_
    refine Tr.gen (P := fun v => 0 ≤ v ∧ v ≤ 6) (ir_28_2 hS.1.2.1) (fun r48 er48 br48 => ?_)
    exact Tr.iret (pc := 49) d_X11_has_49 rfl ⟨hS, _, rfl, by omega, by omega⟩
  · refine Tr.tp 3 c1 ?_
    refine Tr.tswIn (pc := 1) (off := 49) (tgt := 50) d_X11_has_1 (by decide) (by decide) rfl rfl ?_
    refine Tr.aload_n (pc := 50) (i := 0) d_X11_has_50 rfl rfl ?_
    refine Tr.getf (pc := 51) d_X11_has_51 f_11_30 (by decide) (by decide) (ty_0 hS.1.1) ?_
    refine Tr.tp 27 ((St.kp hS (by decide) (by decide) (by decide)).trans en_0_4) ?_
    refine Tr.getf (pc := 54) d_X11_has_54 f_11_115 (by decide) (by decide) (ty_27 hS.1.1) ?_
    refine Tr.tp 35 (fx_27_11 hS.1.1) ?_
    refine Tr.getf (pc := 57) d_X11_has_57 f_11_119 (by decide) (by decide) (ty_35 hS.1.1) ?_
    refine Tr.gen (P := fun v => 0 ≤ v ∧ v ≤ 60) (ir_35_0 hS.1.2.1) (fun r57 er57 br57 => ?_)
    exact Tr.iret (pc := 60) d_X11_has_60 rfl ⟨hS, _, rfl, by omega, by omega⟩
  · refine Tr.tp 4 c1 ?_
    refine Tr.tswIn (pc := 1) (off := 60) (tgt := 61) d_X11_has_1 (by decide) (by decide) rfl rfl ?_
    refine Tr.aload_n (pc := 61) (i := 0) d_X11_has_61 rfl rfl ?_
    refine Tr.getf (pc := 62) d_X11_has_62 f_11_70 (by decide) (by decide) (ty_0 hS.1.1) ?_
    refine Tr.tp 107 (fx_0_12 hS.1.1) ?_
    refine Tr.getf (pc := 65) d_X11_has_65 f_11_133 (by decide) (by decide) (ty_107 hS.1.1) ?_
    refine Tr.gen (P := fun v => 0 ≤ v ∧ v ≤ 12) (ir_107_0 hS.1.2.1) (fun r65 er65 br65 => ?_)
    exact Tr.iret (pc := 68) d_X11_has_68 rfl ⟨hS, _, rfl, by omega, by omega⟩
  · refine Tr.tp 5 c1 ?_
    refine Tr.tswIn (pc := 1) (off := 68) (tgt := 69) d_X11_has_1 (by decide) (by decide) rfl rfl ?_
    refine Tr.aload_n (pc := 69) (i := 0) d_X11_has_69 rfl rfl ?_
    refine Tr.getf (pc := 70) d_X11_has_70 f_11_77 (by decide) (by decide) (ty_0 hS.1.1) ?_
    refine Tr.tp 113 (fx_0_13 hS.1.1) ?_
    refine Tr.getf (pc := 73) d_X11_has_73 f_11_136 (by decide) (by decide) (ty_113 hS.1.1) ?_
    refine Tr.gen (P := fun v => 0 ≤ v ∧ v ≤ 6) (ir_113_0 hS.1.2.1) (fun r73 er73 br73 => ?_)
    exact Tr.iret (pc := 76) d_X11_has_76 rfl ⟨hS, _, rfl, by omega, by omega⟩

def ws_X3_letterOf_27 : List (Int × Int) := []
def as_X3_letterOf_27 : List Int := []
def q_X3_letterOf_27 (M0 M' : Mem) (r : Option PV) : Prop := St Tru ws_X3_letterOf_27 as_X3_letterOf_27 M0 M' ∧ ∃ v : Int, r = some (0, v) ∧ (-2147483648) ≤ v ∧ v ≤ 2147483647
set_option maxRecDepth 100000 in
set_option maxHeartbeats 4000000 in
theorem sp_X3_letterOf_27 {l : Launch} {K : EC} {M0 : Mem} {xq : Int} (hI : In Tru M0) (hE : e_all K xq)  (a1 : Int) (ha1 : 0 ≤ a1 ∧ a1 ≤ 2) (a2 : Int) (ha2 : 0 ≤ a2 ∧ a2 ≤ 5) (a3 : Int) (ha3 : (-2147483648) ≤ a3 ∧ a3 ≤ 2147483647)  : Tr l K 0 mX3_letterOf 0 [(0, (2, 27)), (1, (0, a1)), (2, (0, a2)), (3, (0, a3))] [] M0 (q_X3_letterOf_27 M0) := by
  have hS : St Tru ws_X3_letterOf_27 as_X3_letterOf_27 M0 M0 := St.rf hI
  refine Tr.aload_n (pc := 0) (i := 0) d_X3_letterOf_0 rfl rfl ?_
  refine Tr.getf (pc := 1) d_X3_letterOf_1 f_3_30 (by decide) (by decide) (ty_27 hS.1.1) ?_
  refine Tr.tp 34 (fx_27_10 hS.1.1) ?_
  refine Tr.gets (pc := 4) d_X3_letterOf_4 sl_3_65 hE.2.2.2.2.1 ?_
  refine Tr.iload_n (pc := 7) (i := 1) d_X3_letterOf_7 rfl rfl ?_
  refine Tr.xld (pc := 8) (i := 2) d_X3_letterOf_8 rfl hE.2.1 (by omega) (by omega) ?_
  refine Tr.gen (P := fun v => 0 ≤ v ∧ v ≤ 9) (xT_b (q := xr_2) (by decide +kernel) (by decide) _) (fun r8 er8 br8 => ?_)
  refine Tr.iload_n (pc := 9) (i := 2) d_X3_letterOf_9 rfl rfl ?_
  refine Tr.iadd (pc := 10) d_X3_letterOf_10 ?_
  refine Tr.tp (a2 + r8) ((w32_id (by omega)).trans (by omega)) ?_
  refine Tr.iald (pc := 11) d_X3_letterOf_11 (ty_34 hS.1.1) (by omega) (by omega) ?_
  refine Tr.gen (P := fun v => (-2147483648) ≤ v ∧ v ≤ 2147483647) (ar_34 hS.1.2.1 _) (fun r11 er11 br11 => ?_)
  refine Tr.istore (pc := 12) (i := 4) (ls2 := [(4, (0, r11)), (0, (2, 27)), (1, (0, a1)), (2, (0, a2)), (3, (0, a3))]) d_X3_letterOf_12 (by decide) rfl ?_
  refine Tr.iconst (pc := 14) d_X3_letterOf_14 (by decide) ?_
  refine Tr.istore (pc := 15) (i := 5) (ls2 := [(5, (0, 0)), (4, (0, r11)), (0, (2, 27)), (1, (0, a1)), (2, (0, a2)), (3, (0, a3))]) d_X3_letterOf_15 (by decide) rfl ?_
  refine Tr.iload (pc := 17) (i := 4) d_X3_letterOf_17 rfl ?_
  refine Tr.istore (pc := 19) (i := 6) (ls2 := [(6, (0, r11)), (5, (0, 0)), (4, (0, r11)), (0, (2, 27)), (1, (0, a1)), (2, (0, a2)), (3, (0, a3))]) d_X3_letterOf_19 (by decide) rfl ?_
  have J21 : ∀ (n21 : Nat) (M : Mem) (p21_5 p21_6 : Int), St Tru ws_X3_letterOf_27 as_X3_letterOf_27 M0 M → (0 ≤ p21_5 ∧ p21_5 ≤ 6) → ((-2147483648) ≤ p21_6 ∧ p21_6 ≤ 2147483647) → rd M 34 (a2 + r8) = r11 → (6 - p21_5).toNat < n21 → Tr l K 0 mX3_letterOf 21 [(3, (0, a3)), (4, (0, r11)), (5, (0, p21_5)), (6, (0, p21_6))] [] M (q_X3_letterOf_27 M0) := by
    intro n21
    induction n21 with
    | zero => intro M p21_5 p21_6 hS bp21_5 bp21_6 k21_34_a21r810 hm21; exact absurd hm21 (Nat.not_lt_zero _)
    | succ n21 J21 =>
      intro M p21_5 p21_6 hS bp21_5 bp21_6 k21_34_a21r810 hm21
      refine Tr.iload (pc := 21) (i := 6) d_X3_letterOf_21 rfl ?_
      have J46 : ∀ (M : Mem), St Tru ws_X3_letterOf_27 as_X3_letterOf_27 M0 M → rd M 34 (a2 + r8) = r11 → Tr l K 0 mX3_letterOf 46 [(3, (0, a3)), (4, (0, r11)), (5, (0, p21_5))] [] M (q_X3_letterOf_27 M0) := by
        intro M  hS  k46_34_a21r810
        refine Tr.iload_n (pc := 46) (i := 3) d_X3_letterOf_46 rfl rfl ?_
        refine Tr.if_lt (pc := 47) (tgt := 56) d_X3_letterOf_47 rfl (fun c47 => ?_) (fun c47 => ?_)
        · refine Tr.iconst (pc := 56) d_X3_letterOf_56 (by decide) ?_
          exact Tr.iret (pc := 57) d_X3_letterOf_57 rfl ⟨hS, _, rfl, by omega, by omega⟩
        · refine Tr.iload_n (pc := 50) (i := 3) d_X3_letterOf_50 rfl rfl ?_
          refine Tr.iload (pc := 51) (i := 5) d_X3_letterOf_51 rfl ?_
          refine Tr.icmp_lt (pc := 53) (tgt := 58) d_X3_letterOf_53 rfl (fun c53 => ?_) (fun c53 => ?_)
          · refine Tr.iload (pc := 58) (i := 5) d_X3_letterOf_58 rfl ?_
            refine Tr.iconst (pc := 60) d_X3_letterOf_60 (by decide) ?_
            refine Tr.isub (pc := 61) d_X3_letterOf_61 ?_
            refine Tr.tp (p21_5 - 1) ((w32_id (by omega)).trans (by omega)) ?_
            refine Tr.istore (pc := 62) (i := 6) (ls2 := [(6, (0, (p21_5 - 1))), (3, (0, a3)), (4, (0, r11)), (5, (0, p21_5))]) d_X3_letterOf_62 (by decide) rfl ?_
            have J64 : ∀ (n64 : Nat) (M : Mem) (p64_4 p64_6 : Int), St Tru ws_X3_letterOf_27 as_X3_letterOf_27 M0 M → ((-2147483648) ≤ p64_4 ∧ p64_4 ≤ 2147483647) → (0 ≤ p64_6 ∧ p64_6 ≤ 5) → rd M 34 (a2 + r8) = r11 → (p64_6 - 0).toNat < n64 → Tr l K 0 mX3_letterOf 64 [(3, (0, a3)), (4, (0, p64_4)), (6, (0, p64_6))] [] M (q_X3_letterOf_27 M0) := by
              intro n64
              induction n64 with
              | zero => intro M p64_4 p64_6 hS bp64_4 bp64_6 k64_34_a21r810 hm64; exact absurd hm64 (Nat.not_lt_zero _)
              | succ n64 J64 =>
                intro M p64_4 p64_6 hS bp64_4 bp64_6 k64_34_a21r810 hm64
                refine Tr.iload (pc := 64) (i := 6) d_X3_letterOf_64 rfl ?_
                refine Tr.iload_n (pc := 66) (i := 3) d_X3_letterOf_66 rfl rfl ?_
                refine Tr.icmp_le (pc := 67) (tgt := 83) d_X3_letterOf_67 rfl (fun c67 => ?_) (fun c67 => ?_)
                · refine Tr.iload (pc := 83) (i := 4) d_X3_letterOf_83 rfl ?_
                  refine Tr.bipush (pc := 85) d_X3_letterOf_85 rfl (by decide) ?_
                  refine Tr.irem (pc := 87) d_X3_letterOf_87 (by omega) ?_
                  refine Tr.gen (P := fun v => (-2147483648) ≤ v ∧ v ≤ 2147483647) (rem32_b _ _ (by omega)) (fun r87 er87 br87 => ?_)
                  refine Tr.bipush (pc := 88) d_X3_letterOf_88 rfl (by decide) ?_
                  refine Tr.iadd (pc := 90) d_X3_letterOf_90 ?_
                  refine Tr.gen (P := fun v => (-2147483648) ≤ v ∧ v ≤ 2147483647) (w32_b _) (fun r90 er90 br90 => ?_)
                  exact Tr.iret (pc := 91) d_X3_letterOf_91 rfl ⟨hS, _, rfl, by omega, by omega⟩
                · refine Tr.iload (pc := 70) (i := 4) d_X3_letterOf_70 rfl ?_
                  refine Tr.bipush (pc := 72) d_X3_letterOf_72 rfl (by decide) ?_
                  refine Tr.idiv (pc := 74) d_X3_letterOf_74 (by omega) ?_
                  refine Tr.gen (P := fun v => (-2147483648) ≤ v ∧ v ≤ 2147483647) (w32_b _) (fun r74 er74 br74 => ?_)
                  refine Tr.istore (pc := 75) (i := 4) (ls2 := [(4, (0, r74)), (3, (0, a3)), (6, (0, p64_6))]) d_X3_letterOf_75 (by decide) rfl ?_
                  refine Tr.iincV (pc := 77) (n2 := (p64_6 - 1)) (ls2 := [(6, (0, (p64_6 - 1))), (4, (0, r74)), (3, (0, a3))]) d_X3_letterOf_77 rfl (by decide) ((w32_id (by omega)).trans (by omega)) rfl ?_
                  refine Tr.goto (pc := 80) (tgt := 64) d_X3_letterOf_80 rfl ?_
                  refine Tr.pick [2, 1, 0] (ls2 := [(3, (0, a3)), (4, (0, r74)), (6, (0, (p64_6 - 1)))]) rfl ?_
                  exact J64 _ _ _ hS (by omega) (by omega) k64_34_a21r810 (by omega)
            refine Tr.pick [1, 2, 0] (ls2 := [(3, (0, a3)), (4, (0, r11)), (6, (0, (p21_5 - 1)))]) rfl ?_
            exact J64 _ _ _ _ hS (by omega) (by omega) k46_34_a21r810 (Nat.lt_succ_self _)
          · refine Tr.iconst (pc := 56) d_X3_letterOf_56 (by decide) ?_
            exact Tr.iret (pc := 57) d_X3_letterOf_57 rfl ⟨hS, _, rfl, by omega, by omega⟩
      refine Tr.if_le (pc := 23) (tgt := 46) d_X3_letterOf_23 rfl (fun c23 => ?_) (fun c23 => ?_)
      · refine Tr.pick [0, 1, 2] (ls2 := [(3, (0, a3)), (4, (0, r11)), (5, (0, p21_5))]) rfl ?_
        exact J46 _ hS k21_34_a21r810
      · refine Tr.iload (pc := 26) (i := 5) d_X3_letterOf_26 rfl ?_
        refine Tr.bipush (pc := 28) d_X3_letterOf_28 rfl (by decide) ?_
        refine Tr.icmp_ge (pc := 30) (tgt := 46) d_X3_letterOf_30 rfl (fun c30 => ?_) (fun c30 => ?_)
        · refine Tr.pick [0, 1, 2] (ls2 := [(3, (0, a3)), (4, (0, r11)), (5, (0, p21_5))]) rfl ?_
          exact J46 _ hS k21_34_a21r810
        · refine Tr.iincV (pc := 33) (n2 := (p21_5 + 1)) (ls2 := [(5, (0, (p21_5 + 1))), (3, (0, a3)), (4, (0, r11)), (6, (0, p21_6))]) d_X3_letterOf_33 rfl (by decide) ((w32_id (by omega)).trans (by omega)) rfl ?_
          refine Tr.iload (pc := 36) (i := 6) d_X3_letterOf_36 rfl ?_
          refine Tr.bipush (pc := 38) d_X3_letterOf_38 rfl (by decide) ?_
          refine Tr.idiv (pc := 40) d_X3_letterOf_40 (by omega) ?_
          refine Tr.gen (P := fun v => v = p21_6 / 27 ∧ (0 ≤ v ∧ v ≤ 79536431)) (div32_l (c := 27) (by omega) (by decide) (by omega) (by omega)) (fun r40 er40 br40 => ?_)
          refine Tr.istore (pc := 41) (i := 6) (ls2 := [(6, (0, r40)), (5, (0, (p21_5 + 1))), (3, (0, a3)), (4, (0, r11))]) d_X3_letterOf_41 (by decide) rfl ?_
          refine Tr.goto (pc := 43) (tgt := 21) d_X3_letterOf_43 rfl ?_
          refine Tr.pick [2, 3, 1, 0] (ls2 := [(3, (0, a3)), (4, (0, r11)), (5, (0, (p21_5 + 1))), (6, (0, r40))]) rfl ?_
          exact J21 _ _ _ hS (by omega) (by omega) k21_34_a21r810 (by omega)
  refine Tr.pick [6, 2, 1, 0] (ls2 := [(3, (0, a3)), (4, (0, r11)), (5, (0, 0)), (6, (0, r11))]) rfl ?_
  exact J21 _ _ _ _ hS (by omega) (by omega) er11 (Nat.lt_succ_self _)

def ws_X11_letter_0_w1 : List (Int × Int) := []
def as_X11_letter_0_w1 : List Int := []
def q_X11_letter_0_w1 (M0 M' : Mem) (r : Option PV) : Prop := St Tru ws_X11_letter_0_w1 as_X11_letter_0_w1 M0 M' ∧ ∃ v : Int, r = some (0, v) ∧ (-2147483648) ≤ v ∧ v ≤ 2147483647
set_option maxRecDepth 100000 in
set_option maxHeartbeats 4000000 in
theorem sp_X11_letter_0_w1 {l : Launch} {K : EC} {M0 : Mem} {xq : Int} (hI : In Tru M0) (hE : e_all K xq) (en_0_4 : rd M0 0 4 = 27) (a1 : Int) (ha1 : (-2147483648) ≤ a1 ∧ a1 ≤ 2147483647) (a2 : Int) (ha2 : (-2147483648) ≤ a2 ∧ a2 ≤ 2147483647) (a3 : Int) (ha3 : (-2147483648) ≤ a3 ∧ a3 ≤ 2147483647)  : Tr l K 1 mX11_letter 0 [(0, (2, 0)), (1, (0, a1)), (2, (0, a2)), (3, (0, a3))] [] M0 (q_X11_letter_0_w1 M0) := by
  have hS : St Tru ws_X11_letter_0_w1 as_X11_letter_0_w1 M0 M0 := St.rf hI
  refine Tr.iload_n (pc := 0) (i := 1) d_X11_letter_0 rfl rfl ?_
  refine Tr.if_lt (pc := 1) (tgt := 26) d_X11_letter_1 rfl (fun c1 => ?_) (fun c1 => ?_)
  · refine Tr.iconst (pc := 26) d_X11_letter_26 (by decide) ?_
    exact Tr.iret (pc := 27) d_X11_letter_27 rfl ⟨hS, _, rfl, by omega, by omega⟩
  · refine Tr.iload_n (pc := 4) (i := 1) d_X11_letter_4 rfl rfl ?_
    refine Tr.iconst (pc := 5) d_X11_letter_5 (by decide) ?_
    refine Tr.icmp_ge (pc := 6) (tgt := 26) d_X11_letter_6 rfl (fun c6 => ?_) (fun c6 => ?_)
    · refine Tr.iconst (pc := 26) d_X11_letter_26 (by decide) ?_
      exact Tr.iret (pc := 27) d_X11_letter_27 rfl ⟨hS, _, rfl, by omega, by omega⟩
    · refine Tr.iload_n (pc := 9) (i := 2) d_X11_letter_9 rfl rfl ?_
      refine Tr.if_lt (pc := 10) (tgt := 26) d_X11_letter_10 rfl (fun c10 => ?_) (fun c10 => ?_)
      · refine Tr.iconst (pc := 26) d_X11_letter_26 (by decide) ?_
        exact Tr.iret (pc := 27) d_X11_letter_27 rfl ⟨hS, _, rfl, by omega, by omega⟩
      · refine Tr.iload_n (pc := 13) (i := 2) d_X11_letter_13 rfl rfl ?_
        refine Tr.aload_n (pc := 14) (i := 0) d_X11_letter_14 rfl rfl ?_
        refine Tr.getf (pc := 15) d_X11_letter_15 f_11_30 (by decide) (by decide) (ty_0 hS.1.1) ?_
        refine Tr.tp 27 ((St.kp hS (by decide) (by decide) (by decide)).trans en_0_4) ?_
        refine Tr.getf (pc := 18) d_X11_letter_18 f_11_130 (by decide) (by decide) (ty_27 hS.1.1) ?_
        refine Tr.tp 28 (fx_27_4 hS.1.1) ?_
        refine Tr.iload_n (pc := 21) (i := 1) d_X11_letter_21 rfl rfl ?_
        refine Tr.iald (pc := 22) d_X11_letter_22 (ty_28 hS.1.1) (by omega) (by omega) ?_
        refine Tr.gen (P := fun v => 0 ≤ v ∧ v ≤ 6) (arp_28 hS.1.2.1 (by omega) (by omega)) (fun r22 er22 br22 => ?_)
        refine Tr.icmp_lt (pc := 23) (tgt := 28) d_X11_letter_23 rfl (fun c23 => ?_) (fun c23 => ?_)
        · refine Tr.aload_n (pc := 28) (i := 0) d_X11_letter_28 rfl rfl ?_
          refine Tr.getf (pc := 29) d_X11_letter_29 f_11_30 (by decide) (by decide) (ty_0 hS.1.1) ?_
          refine Tr.tp 27 ((St.kp hS (by decide) (by decide) (by decide)).trans en_0_4) ?_
          refine Tr.iload_n (pc := 32) (i := 1) d_X11_letter_32 rfl rfl ?_
          refine Tr.iload_n (pc := 33) (i := 2) d_X11_letter_33 rfl rfl ?_
          refine Tr.iload_n (pc := 34) (i := 3) d_X11_letter_34 rfl rfl ?_
          refine Tr.callV (pc := 35) (as := [_, _, _]) d_X11_letter_35 s_11_137 ok_X3_letterOf rfl rfl (Nat.le_of_ble_eq_true rfl) (Nat.le_of_ble_eq_true rfl) (by decide) (ty_27 hS.1.1) ?_
          refine Tr.imp (Tr.deep (by decide) (sp_X3_letterOf_27 hS.1 hE a1 (by omega) a2 (by omega) a3 (by omega))) ?_
          rintro M35 _ ⟨h35, r35, rfl, lr35, ur35⟩
          have hS := St.tr hS h35 (by decide) (by decide)
          refine Tr.sc [(0, r35)] rfl ?_
          exact Tr.iret (pc := 38) d_X11_letter_38 rfl ⟨hS, _, rfl, by omega, by omega⟩
        · refine Tr.iconst (pc := 26) d_X11_letter_26 (by decide) ?_
          exact Tr.iret (pc := 27) d_X11_letter_27 rfl ⟨hS, _, rfl, by omega, by omega⟩

def ws_X11_put_0_w1 : List (Int × Int) := []
def as_X11_put_0_w1 : List Int := [47]
def q_X11_put_0_w1 (M0 M' : Mem) (r : Option PV) : Prop := St Tru ws_X11_put_0_w1 as_X11_put_0_w1 M0 M' ∧ ∃ v : Int, r = some (0, v) ∧ 0 ≤ v ∧ v ≤ 1
set_option maxRecDepth 100000 in
set_option maxHeartbeats 4000000 in
theorem sp_X11_put_0_w1 {l : Launch} {K : EC} {M0 : Mem} (hI : In Tru M0) (en_0_4 : rd M0 0 4 = 27) (a1 : Int) (ha1 : (-2147483648) ≤ a1 ∧ a1 ≤ 2147483647) (a2 : Int) (ha2 : (-2147483648) ≤ a2 ∧ a2 ≤ 2147483647)  : Tr l K 0 mX11_put 0 [(0, (2, 0)), (1, (0, a1)), (2, (0, a2))] [] M0 (q_X11_put_0_w1 M0) := by
  have hS : St Tru ws_X11_put_0_w1 as_X11_put_0_w1 M0 M0 := St.rf hI
  refine Tr.iload_n (pc := 0) (i := 1) d_X11_put_0 rfl rfl ?_
  refine Tr.if_lt (pc := 1) (tgt := 17) d_X11_put_1 rfl (fun c1 => ?_) (fun c1 => ?_)
  · refine Tr.iconst (pc := 17) d_X11_put_17 (by decide) ?_
    exact Tr.zret (pc := 18) d_X11_put_18 rfl (by omega) ⟨hS, _, rfl, by omega, by omega⟩
  · refine Tr.iload_n (pc := 4) (i := 1) d_X11_put_4 rfl rfl ?_
    refine Tr.aload_n (pc := 5) (i := 0) d_X11_put_5 rfl rfl ?_
    refine Tr.getf (pc := 6) d_X11_put_6 f_11_30 (by decide) (by decide) (ty_0 hS.1.1) ?_
    refine Tr.tp 27 ((St.kp hS (by decide) (by decide) (by decide)).trans en_0_4) ?_
    refine Tr.getf (pc := 9) d_X11_put_9 f_11_130 (by decide) (by decide) (ty_27 hS.1.1) ?_
    refine Tr.tp 28 (fx_27_4 hS.1.1) ?_
    refine Tr.iconst (pc := 12) d_X11_put_12 (by decide) ?_
    refine Tr.iald (pc := 13) d_X11_put_13 (ty_28 hS.1.1) (by omega) (by omega) ?_
    refine Tr.gen (P := fun v => 0 ≤ v ∧ v ≤ 3) (ir_28_1 hS.1.2.1) (fun r13 er13 br13 => ?_)
    refine Tr.icmp_lt (pc := 14) (tgt := 19) d_X11_put_14 rfl (fun c14 => ?_) (fun c14 => ?_)
    · refine Tr.iload_n (pc := 19) (i := 2) d_X11_put_19 rfl rfl ?_
      refine Tr.aload_n (pc := 20) (i := 0) d_X11_put_20 rfl rfl ?_
      refine Tr.getf (pc := 21) d_X11_put_21 f_11_30 (by decide) (by decide) (ty_0 hS.1.1) ?_
      refine Tr.tp 27 ((St.kp hS (by decide) (by decide) (by decide)).trans en_0_4) ?_
      refine Tr.getf (pc := 24) d_X11_put_24 f_11_100 (by decide) (by decide) (ty_27 hS.1.1) ?_
      refine Tr.tp 32 (fx_27_8 hS.1.1) ?_
      refine Tr.iload_n (pc := 27) (i := 1) d_X11_put_27 rfl rfl ?_
      refine Tr.iald (pc := 28) d_X11_put_28 (ty_32 hS.1.1) (by omega) (by omega) ?_
      refine Tr.gen (P := fun v => (-1) ≤ v ∧ v ≤ 99) (ar_32 hS.1.2.1 _) (fun r28 er28 br28 => ?_)
      refine Tr.icmp_lt (pc := 29) (tgt := 45) d_X11_put_29 rfl (fun c29 => ?_) (fun c29 => ?_)
      · refine Tr.iconst (pc := 45) d_X11_put_45 (by decide) ?_
        exact Tr.zret (pc := 46) d_X11_put_46 rfl (by omega) ⟨hS, _, rfl, by omega, by omega⟩
      · refine Tr.iload_n (pc := 32) (i := 2) d_X11_put_32 rfl rfl ?_
        refine Tr.aload_n (pc := 33) (i := 0) d_X11_put_33 rfl rfl ?_
        refine Tr.getf (pc := 34) d_X11_put_34 f_11_30 (by decide) (by decide) (ty_0 hS.1.1) ?_
        refine Tr.tp 27 ((St.kp hS (by decide) (by decide) (by decide)).trans en_0_4) ?_
        refine Tr.getf (pc := 37) d_X11_put_37 f_11_141 (by decide) (by decide) (ty_27 hS.1.1) ?_
        refine Tr.tp 33 (fx_27_9 hS.1.1) ?_
        refine Tr.iload_n (pc := 40) (i := 1) d_X11_put_40 rfl rfl ?_
        refine Tr.iald (pc := 41) d_X11_put_41 (ty_33 hS.1.1) (by omega) (by omega) ?_
        refine Tr.gen (P := fun v => (-1) ≤ v ∧ v ≤ 99) (ar_33 hS.1.2.1 _) (fun r41 er41 br41 => ?_)
        refine Tr.icmp_le (pc := 42) (tgt := 47) d_X11_put_42 rfl (fun c42 => ?_) (fun c42 => ?_)
        · refine Tr.aload_n (pc := 47) (i := 0) d_X11_put_47 rfl rfl ?_
          refine Tr.getf (pc := 48) d_X11_put_48 f_11_37 (by decide) (by decide) (ty_0 hS.1.1) ?_
          refine Tr.tp 47 (fx_0_6 hS.1.1) ?_
          refine Tr.iload_n (pc := 51) (i := 1) d_X11_put_51 rfl rfl ?_
          refine Tr.iload_n (pc := 52) (i := 2) d_X11_put_52 rfl rfl ?_
          refine Tr.iastS (pc := 53) (P := St Tru ws_X11_put_0_w1 as_X11_put_0_w1 M0) d_X11_put_53 (ty_47 hS.1.1) (by omega) (by omega) (sa_47 hS (by decide) (by omega) trivial) (fun M53 hS w53 => ?_)
          refine Tr.iconst (pc := 54) d_X11_put_54 (by decide) ?_
          exact Tr.zret (pc := 55) d_X11_put_55 rfl (by omega) ⟨hS, _, rfl, by omega, by omega⟩
        · refine Tr.iconst (pc := 45) d_X11_put_45 (by decide) ?_
          exact Tr.zret (pc := 46) d_X11_put_46 rfl (by omega) ⟨hS, _, rfl, by omega, by omega⟩
    · refine Tr.iconst (pc := 17) d_X11_put_17 (by decide) ?_
      exact Tr.zret (pc := 18) d_X11_put_18 rfl (by omega) ⟨hS, _, rfl, by omega, by omega⟩

def ws_X11_value_0_w2 : List (Int × Int) := []
def as_X11_value_0_w2 : List Int := []
def q_X11_value_0_w2 (M0 M' : Mem) (r : Option PV) : Prop := St Tru ws_X11_value_0_w2 as_X11_value_0_w2 M0 M' ∧ ∃ v : Int, r = some (0, v) ∧ (-2147483648) ≤ v ∧ v ≤ 2147483647
set_option maxRecDepth 100000 in
set_option maxHeartbeats 4000000 in
theorem sp_X11_value_0_w2 {l : Launch} {K : EC} {M0 : Mem} (hI : In Tru M0) (en_0_4 : rd M0 0 4 = 27) (en_0_9 : rd M0 0 9 = 1) (a1 : Int) (ha1 : (-2147483648) ≤ a1 ∧ a1 ≤ 2147483647)  : Tr l K 0 mX11_value 0 [(0, (2, 0)), (1, (0, a1))] [] M0 (q_X11_value_0_w2 M0) := by
  have hS : St Tru ws_X11_value_0_w2 as_X11_value_0_w2 M0 M0 := St.rf hI
  refine Tr.aload_n (pc := 0) (i := 0) d_X11_value_0 rfl rfl ?_
  refine Tr.getz (pc := 1) d_X11_value_1 f_11_109 (by decide) (ty_0 hS.1.1) ?_
  refine Tr.tp 1 ((St.kp hS (by decide) (by decide) (by decide)).trans en_0_9) ?_
  refine Tr.if_eq (pc := 4) (tgt := 24) d_X11_value_4 rfl (fun hc => absurd hc (by omega)) (fun _ => ?_)
  refine Tr.iload_n (pc := 7) (i := 1) d_X11_value_7 rfl rfl ?_
  refine Tr.if_lt (pc := 8) (tgt := 24) d_X11_value_8 rfl (fun c8 => ?_) (fun c8 => ?_)
  · refine Tr.ldc (pc := 24) d_X11_value_24 k_11_170 (by decide) ?_
    exact Tr.iret (pc := 26) d_X11_value_26 rfl ⟨hS, _, rfl, by omega, by omega⟩
  · refine Tr.iload_n (pc := 11) (i := 1) d_X11_value_11 rfl rfl ?_
    refine Tr.aload_n (pc := 12) (i := 0) d_X11_value_12 rfl rfl ?_
    refine Tr.getf (pc := 13) d_X11_value_13 f_11_30 (by decide) (by decide) (ty_0 hS.1.1) ?_
    refine Tr.tp 27 ((St.kp hS (by decide) (by decide) (by decide)).trans en_0_4) ?_
    refine Tr.getf (pc := 16) d_X11_value_16 f_11_130 (by decide) (by decide) (ty_27 hS.1.1) ?_
    refine Tr.tp 28 (fx_27_4 hS.1.1) ?_
    refine Tr.iconst (pc := 19) d_X11_value_19 (by decide) ?_
    refine Tr.iald (pc := 20) d_X11_value_20 (ty_28 hS.1.1) (by omega) (by omega) ?_
    refine Tr.gen (P := fun v => 0 ≤ v ∧ v ≤ 6) (ir_28_2 hS.1.2.1) (fun r20 er20 br20 => ?_)
    refine Tr.icmp_lt (pc := 21) (tgt := 27) d_X11_value_21 rfl (fun c21 => ?_) (fun c21 => ?_)
    · refine Tr.aload_n (pc := 27) (i := 0) d_X11_value_27 rfl rfl ?_
      refine Tr.getf (pc := 28) d_X11_value_28 f_11_46 (by decide) (by decide) (ty_0 hS.1.1) ?_
      refine Tr.tp 48 (fx_0_7 hS.1.1) ?_
      refine Tr.getf (pc := 31) d_X11_value_31 f_11_171 (by decide) (by decide) (ty_48 hS.1.1) ?_
      refine Tr.tp 50 (fx_48_3 hS.1.1) ?_
      refine Tr.iload_n (pc := 34) (i := 1) d_X11_value_34 rfl rfl ?_
      refine Tr.iald (pc := 35) d_X11_value_35 (ty_50 hS.1.1) (by omega) (by omega) ?_
      refine Tr.gen (P := fun v => (-2147483648) ≤ v ∧ v ≤ 2147483647) (ar_50 hS.1.2.1 _) (fun r35 er35 br35 => ?_)
      exact Tr.iret (pc := 36) d_X11_value_36 rfl ⟨hS, _, rfl, by omega, by omega⟩
    · refine Tr.ldc (pc := 24) d_X11_value_24 k_11_170 (by decide) ?_
      exact Tr.iret (pc := 26) d_X11_value_26 rfl ⟨hS, _, rfl, by omega, by omega⟩

def ws_X11_isPart_0_w1 : List (Int × Int) := []
def as_X11_isPart_0_w1 : List Int := []
def q_X11_isPart_0_w1 (a1 : Int) (M0 M' : Mem) (r : Option PV) : Prop := St Tru ws_X11_isPart_0_w1 as_X11_isPart_0_w1 M0 M' ∧ ∃ v : Int, r = some (0, v) ∧ 0 ≤ v ∧ v ≤ 1 ∧ (v = 1 → (0 ≤ a1 ∧ a1 ≤ 5))
set_option maxRecDepth 100000 in
set_option maxHeartbeats 4000000 in
theorem sp_X11_isPart_0_w1 {l : Launch} {K : EC} {M0 : Mem} (hI : In Tru M0) (en_0_4 : rd M0 0 4 = 27) (a1 : Int) (ha1 : (-2147483648) ≤ a1 ∧ a1 ≤ 2147483647)  : Tr l K 0 mX11_isPart 0 [(0, (2, 0)), (1, (0, a1))] [] M0 (q_X11_isPart_0_w1 a1 M0) := by
  have hS : St Tru ws_X11_isPart_0_w1 as_X11_isPart_0_w1 M0 M0 := St.rf hI
  refine Tr.iload_n (pc := 0) (i := 1) d_X11_isPart_0 rfl rfl ?_
  refine Tr.if_lt (pc := 1) (tgt := 21) d_X11_isPart_1 rfl (fun c1 => ?_) (fun c1 => ?_)
  · refine Tr.iconst (pc := 21) d_X11_isPart_21 (by decide) ?_
    exact Tr.zret (pc := 22) d_X11_isPart_22 rfl (by omega) ⟨hS, _, rfl, by omega, by omega, by omega⟩
  · refine Tr.iload_n (pc := 4) (i := 1) d_X11_isPart_4 rfl rfl ?_
    refine Tr.aload_n (pc := 5) (i := 0) d_X11_isPart_5 rfl rfl ?_
    refine Tr.getf (pc := 6) d_X11_isPart_6 f_11_30 (by decide) (by decide) (ty_0 hS.1.1) ?_
    refine Tr.tp 27 ((St.kp hS (by decide) (by decide) (by decide)).trans en_0_4) ?_
    refine Tr.getf (pc := 9) d_X11_isPart_9 f_11_130 (by decide) (by decide) (ty_27 hS.1.1) ?_
    refine Tr.tp 28 (fx_27_4 hS.1.1) ?_
    refine Tr.iconst (pc := 12) d_X11_isPart_12 (by decide) ?_
    refine Tr.iald (pc := 13) d_X11_isPart_13 (ty_28 hS.1.1) (by omega) (by omega) ?_
    refine Tr.gen (P := fun v => 0 ≤ v ∧ v ≤ 6) (ir_28_0 hS.1.2.1) (fun r13 er13 br13 => ?_)
    refine Tr.icmp_ge (pc := 14) (tgt := 21) d_X11_isPart_14 rfl (fun c14 => ?_) (fun c14 => ?_)
    · refine Tr.iconst (pc := 21) d_X11_isPart_21 (by decide) ?_
      exact Tr.zret (pc := 22) d_X11_isPart_22 rfl (by omega) ⟨hS, _, rfl, by omega, by omega, by omega⟩
    · refine Tr.iconst (pc := 17) d_X11_isPart_17 (by decide) ?_
      refine Tr.goto (pc := 18) (tgt := 22) d_X11_isPart_18 rfl ?_
      exact Tr.zret (pc := 22) d_X11_isPart_22 rfl (by omega) ⟨hS, _, rfl, by omega, by omega, by omega⟩

def ws_X11_spent_0_w2 : List (Int × Int) := []
def as_X11_spent_0_w2 : List Int := []
def q_X11_spent_0_w2 (M0 M' : Mem) (r : Option PV) : Prop := St Tru ws_X11_spent_0_w2 as_X11_spent_0_w2 M0 M' ∧ ∃ v : Int, r = some (0, v) ∧ (-2147483648) ≤ v ∧ v ≤ 2147483647
set_option maxRecDepth 100000 in
set_option maxHeartbeats 4000000 in
theorem sp_X11_spent_0_w2 {l : Launch} {K : EC} {M0 : Mem} (hI : In Tru M0) (en_0_4 : rd M0 0 4 = 27) (en_0_9 : rd M0 0 9 = 1) (a1 : Int) (ha1 : (-2147483648) ≤ a1 ∧ a1 ≤ 2147483647) (a2 : Int) (ha2 : (-2147483648) ≤ a2 ∧ a2 ≤ 2147483647)  : Tr l K 1 mX11_spent 0 [(0, (2, 0)), (1, (0, a1)), (2, (0, a2))] [] M0 (q_X11_spent_0_w2 M0) := by
  have hS : St Tru ws_X11_spent_0_w2 as_X11_spent_0_w2 M0 M0 := St.rf hI
  refine Tr.aload_n (pc := 0) (i := 0) d_X11_spent_0 rfl rfl ?_
  refine Tr.getz (pc := 1) d_X11_spent_1 f_11_109 (by decide) (ty_0 hS.1.1) ?_
  refine Tr.tp 1 ((St.kp hS (by decide) (by decide) (by decide)).trans en_0_9) ?_
  refine Tr.if_eq (pc := 4) (tgt := 24) d_X11_spent_4 rfl (fun hc => absurd hc (by omega)) (fun _ => ?_)
  refine Tr.aload_n (pc := 7) (i := 0) d_X11_spent_7 rfl rfl ?_
  refine Tr.iload_n (pc := 8) (i := 1) d_X11_spent_8 rfl rfl ?_
  refine Tr.callV (pc := 9) (as := [_]) d_X11_spent_9 s_11_174 ok_X11_isPart rfl rfl (Nat.le_of_ble_eq_true rfl) (Nat.le_of_ble_eq_true rfl) (by decide) (ty_0 hS.1.1) ?_
  refine Tr.imp (Tr.deep (by decide) (sp_X11_isPart_0_w1 hS.1 ((St.kp hS (by decide) (by decide) (by decide)).trans en_0_4) a1 (by omega))) ?_
  rintro M9 _ ⟨h9, r9, rfl, lr9, ur9, wr9⟩
  have hS := St.tr hS h9 (by decide) (by decide)
  refine Tr.sc [(0, r9)] rfl ?_
  refine Tr.if_eq (pc := 12) (tgt := 24) d_X11_spent_12 rfl (fun c12 => ?_) (fun c12 => ?_)
  · refine Tr.iconst (pc := 24) d_X11_spent_24 (by decide) ?_
    exact Tr.iret (pc := 25) d_X11_spent_25 rfl ⟨hS, _, rfl, by omega, by omega⟩
  · refine Tr.iload_n (pc := 15) (i := 2) d_X11_spent_15 rfl rfl ?_
    refine Tr.if_lt (pc := 16) (tgt := 24) d_X11_spent_16 rfl (fun c16 => ?_) (fun c16 => ?_)
    · refine Tr.iconst (pc := 24) d_X11_spent_24 (by decide) ?_
      exact Tr.iret (pc := 25) d_X11_spent_25 rfl ⟨hS, _, rfl, by omega, by omega⟩
    · refine Tr.iload_n (pc := 19) (i := 2) d_X11_spent_19 rfl rfl ?_
      refine Tr.iconst (pc := 20) d_X11_spent_20 (by decide) ?_
      refine Tr.icmp_lt (pc := 21) (tgt := 26) d_X11_spent_21 rfl (fun c21 => ?_) (fun c21 => ?_)
      · refine Tr.aload_n (pc := 26) (i := 0) d_X11_spent_26 rfl rfl ?_
        refine Tr.getf (pc := 27) d_X11_spent_27 f_11_46 (by decide) (by decide) (ty_0 hS.1.1) ?_
        refine Tr.tp 48 (fx_0_7 hS.1.1) ?_
        refine Tr.getf (pc := 30) d_X11_spent_30 f_11_178 (by decide) (by decide) (ty_48 hS.1.1) ?_
        refine Tr.tp 56 (fx_48_0 hS.1.1) ?_
        refine Tr.getf (pc := 33) d_X11_spent_33 f_11_182 (by decide) (by decide) (ty_56 hS.1.1) ?_
        refine Tr.tp 57 (fx_56_2 hS.1.1) ?_
        refine Tr.iload_n (pc := 36) (i := 1) d_X11_spent_36 rfl rfl ?_
        refine Tr.iconst (pc := 37) d_X11_spent_37 (by decide) ?_
        refine Tr.imul (pc := 38) d_X11_spent_38 ?_
        refine Tr.tp (4 * a1) ((w32_id (by omega)).trans (by omega)) ?_
        refine Tr.iload_n (pc := 39) (i := 2) d_X11_spent_39 rfl rfl ?_
        refine Tr.iadd (pc := 40) d_X11_spent_40 ?_
        refine Tr.tp (4 * a1 + a2) ((w32_id (by omega)).trans (by omega)) ?_
        refine Tr.iald (pc := 41) d_X11_spent_41 (ty_57 hS.1.1) (by omega) (by omega) ?_
        refine Tr.gen (P := fun v => (-2147483648) ≤ v ∧ v ≤ 2147483647) (ar_57 hS.1.2.1 _) (fun r41 er41 br41 => ?_)
        exact Tr.iret (pc := 42) d_X11_spent_42 rfl ⟨hS, _, rfl, by omega, by omega⟩
      · refine Tr.iconst (pc := 24) d_X11_spent_24 (by decide) ?_
        exact Tr.iret (pc := 25) d_X11_spent_25 rfl ⟨hS, _, rfl, by omega, by omega⟩

def ws_X11_isLine_0_w1 : List (Int × Int) := []
def as_X11_isLine_0_w1 : List Int := []
def q_X11_isLine_0_w1 (a1 : Int) (M0 M' : Mem) (r : Option PV) : Prop := St Tru ws_X11_isLine_0_w1 as_X11_isLine_0_w1 M0 M' ∧ ∃ v : Int, r = some (0, v) ∧ 0 ≤ v ∧ v ≤ 1 ∧ (v = 1 → (0 ≤ a1 ∧ a1 ≤ 59))
set_option maxRecDepth 100000 in
set_option maxHeartbeats 4000000 in
theorem sp_X11_isLine_0_w1 {l : Launch} {K : EC} {M0 : Mem} (hI : In Tru M0) (en_0_4 : rd M0 0 4 = 27) (a1 : Int) (ha1 : (-2147483648) ≤ a1 ∧ a1 ≤ 2147483647)  : Tr l K 0 mX11_isLine 0 [(0, (2, 0)), (1, (0, a1))] [] M0 (q_X11_isLine_0_w1 a1 M0) := by
  have hS : St Tru ws_X11_isLine_0_w1 as_X11_isLine_0_w1 M0 M0 := St.rf hI
  refine Tr.iload_n (pc := 0) (i := 1) d_X11_isLine_0 rfl rfl ?_
  refine Tr.if_lt (pc := 1) (tgt := 22) d_X11_isLine_1 rfl (fun c1 => ?_) (fun c1 => ?_)
  · refine Tr.iconst (pc := 22) d_X11_isLine_22 (by decide) ?_
    exact Tr.zret (pc := 23) d_X11_isLine_23 rfl (by omega) ⟨hS, _, rfl, by omega, by omega, by omega⟩
  · refine Tr.iload_n (pc := 4) (i := 1) d_X11_isLine_4 rfl rfl ?_
    refine Tr.aload_n (pc := 5) (i := 0) d_X11_isLine_5 rfl rfl ?_
    refine Tr.getf (pc := 6) d_X11_isLine_6 f_11_30 (by decide) (by decide) (ty_0 hS.1.1) ?_
    refine Tr.tp 27 ((St.kp hS (by decide) (by decide) (by decide)).trans en_0_4) ?_
    refine Tr.getf (pc := 9) d_X11_isLine_9 f_11_115 (by decide) (by decide) (ty_27 hS.1.1) ?_
    refine Tr.tp 35 (fx_27_11 hS.1.1) ?_
    refine Tr.getf (pc := 12) d_X11_isLine_12 f_11_119 (by decide) (by decide) (ty_35 hS.1.1) ?_
    refine Tr.gen (P := fun v => 0 ≤ v ∧ v ≤ 60) (ir_35_0 hS.1.2.1) (fun r12 er12 br12 => ?_)
    refine Tr.icmp_ge (pc := 15) (tgt := 22) d_X11_isLine_15 rfl (fun c15 => ?_) (fun c15 => ?_)
    · refine Tr.iconst (pc := 22) d_X11_isLine_22 (by decide) ?_
      exact Tr.zret (pc := 23) d_X11_isLine_23 rfl (by omega) ⟨hS, _, rfl, by omega, by omega, by omega⟩
    · refine Tr.iconst (pc := 18) d_X11_isLine_18 (by decide) ?_
      refine Tr.goto (pc := 19) (tgt := 23) d_X11_isLine_19 rfl ?_
      exact Tr.zret (pc := 23) d_X11_isLine_23 rfl (by omega) ⟨hS, _, rfl, by omega, by omega, by omega⟩

def ws_X1_paysInParts_56_w1 : List (Int × Int) := []
def as_X1_paysInParts_56_w1 : List Int := []
def q_X1_paysInParts_56_w1 (M0 M' : Mem) (r : Option PV) : Prop := St Tru ws_X1_paysInParts_56_w1 as_X1_paysInParts_56_w1 M0 M' ∧ ∃ v : Int, r = some (0, v) ∧ (-2147483648) ≤ v ∧ v ≤ 2147483647
set_option maxRecDepth 100000 in
set_option maxHeartbeats 4000000 in
theorem sp_X1_paysInParts_56_w1 {l : Launch} {K : EC} {M0 : Mem} (hI : In Tru M0) (en_56_1 : rd M0 56 1 = 27) (a1 : Int) (ha1 : 0 ≤ a1 ∧ a1 ≤ 59)  : Tr l K 2 mX1_paysInParts 0 [(0, (2, 56)), (1, (0, a1))] [] M0 (q_X1_paysInParts_56_w1 M0) := by
  have hS : St Tru ws_X1_paysInParts_56_w1 as_X1_paysInParts_56_w1 M0 M0 := St.rf hI
  obtain ⟨g63_1, eg63_1⟩ : ∃ v, rd M0 63 1 = v := ⟨_, rfl⟩
  have bg63_1 : (-1000000000) ≤ g63_1 ∧ g63_1 ≤ 1000000000 := by rw [← eg63_1]; exact ir_63_1 hI.2.1
  obtain ⟨g63_0, eg63_0⟩ : ∃ v, rd M0 63 0 = v := ⟨_, rfl⟩
  have bg63_0 : (-2147483648) ≤ g63_0 ∧ g63_0 ≤ 2147483647 := by rw [← eg63_0]; exact ir_63_0 hI.2.1
  refine Tr.aload_n (pc := 0) (i := 0) d_X1_paysInParts_0 rfl rfl ?_
  refine Tr.getf (pc := 1) d_X1_paysInParts_1 f_1_21 (by decide) (by decide) (ty_56 hS.1.1) ?_
  refine Tr.tp 60 (fx_56_5 hS.1.1) ?_
  refine Tr.iload_n (pc := 4) (i := 1) d_X1_paysInParts_4 rfl rfl ?_
  refine Tr.iald (pc := 5) d_X1_paysInParts_5 (ty_60 hS.1.1) (by omega) (by omega) ?_
  refine Tr.gen (P := fun v => (-2147483648) ≤ v ∧ v ≤ 2147483647) (ar_60 hS.1.2.1 _) (fun r5 er5 br5 => ?_)
  refine Tr.istore_n (pc := 6) (i := 2) (ls2 := [(2, (0, r5)), (0, (2, 56)), (1, (0, a1))]) d_X1_paysInParts_6 rfl (by decide) rfl ?_
  refine Tr.iconst (pc := 7) d_X1_paysInParts_7 (by decide) ?_
  refine Tr.istore_n (pc := 8) (i := 3) (ls2 := [(3, (0, 0)), (2, (0, r5)), (0, (2, 56)), (1, (0, a1))]) d_X1_paysInParts_8 rfl (by decide) rfl ?_
  have J9 : ∀ (n9 : Nat) (M : Mem) (p9_2 p9_3 : Int), St Tru ws_X1_paysInParts_56_w1 as_X1_paysInParts_56_w1 M0 M → ((-2147483648) ≤ p9_2 ∧ p9_2 ≤ 2147483647) → (0 ≤ p9_3 ∧ p9_3 ≤ 2016) → rd M 60 a1 = r5 → rd M 63 0 = g63_0 → rd M 63 1 = g63_1 → (2016 - p9_3).toNat < n9 → Tr l K 2 mX1_paysInParts 9 [(0, (2, 56)), (1, (0, a1)), (2, (0, p9_2)), (3, (0, p9_3))] [] M (q_X1_paysInParts_56_w1 M0) := by
    intro n9
    induction n9 with
    | zero => intro M p9_2 p9_3 hS bp9_2 bp9_3 k9_60_a110 k9_63_0 k9_63_1 hm9; exact absurd hm9 (Nat.not_lt_zero _)
    | succ n9 J9 =>
      intro M p9_2 p9_3 hS bp9_2 bp9_3 k9_60_a110 k9_63_0 k9_63_1 hm9
      refine Tr.iload_n (pc := 9) (i := 3) d_X1_paysInParts_9 rfl rfl ?_
      refine Tr.aload_n (pc := 10) (i := 0) d_X1_paysInParts_10 rfl rfl ?_
      refine Tr.getf (pc := 11) d_X1_paysInParts_11 f_1_33 (by decide) (by decide) (ty_56 hS.1.1) ?_
      refine Tr.tp 63 (fx_56_8 hS.1.1) ?_
      refine Tr.getf (pc := 14) d_X1_paysInParts_14 f_1_94 (by decide) (by decide) (ty_63 hS.1.1) ?_
      refine Tr.tp g63_0 k9_63_0 ?_
      refine Tr.icmp_ge (pc := 17) (tgt := 95) d_X1_paysInParts_17 rfl (fun c17 => ?_) (fun c17 => ?_)
      · refine Tr.iload_n (pc := 95) (i := 2) d_X1_paysInParts_95 rfl rfl ?_
        exact Tr.iret (pc := 96) d_X1_paysInParts_96 rfl ⟨hS, _, rfl, by omega, by omega⟩
      · refine Tr.aload_n (pc := 20) (i := 0) d_X1_paysInParts_20 rfl rfl ?_
        refine Tr.getf (pc := 21) d_X1_paysInParts_21 f_1_33 (by decide) (by decide) (ty_56 hS.1.1) ?_
        refine Tr.tp 63 (fx_56_8 hS.1.1) ?_
        refine Tr.getf (pc := 24) d_X1_paysInParts_24 f_1_97 (by decide) (by decide) (ty_63 hS.1.1) ?_
        refine Tr.gen (P := fun v => v = tref g63_1 5) (tl_ref hS k9_63_1 (by decide)) (fun t24 et24 bt24 => ?_)
        refine Tr.iload_n (pc := 27) (i := 3) d_X1_paysInParts_27 rfl rfl ?_
        have nk28_0 : rd M 63 0 = g63_0 := k9_63_0
        have nn28 := tl_n hS k9_63_1
        refine Tr.lald (pc := 28) d_X1_paysInParts_28 (tl_tyL hS k9_63_1 bt24) (by omega) (by omega) ?_
        refine Tr.gen (P := fun v => (-9223372036854775808) ≤ v ∧ v ≤ 9223372036854775807) (tl_eL hS k9_63_1 bt24 (by omega) (by omega)) (fun r28 er28 br28 => ?_)
        refine Tr.iload_n (pc := 29) (i := 1) d_X1_paysInParts_29 rfl rfl ?_
        refine Tr.lshr (pc := 30) d_X1_paysInParts_30 ?_
        refine Tr.gen (P := fun v => (-9223372036854775808) ≤ v ∧ v ≤ 9223372036854775807) (i64_b _) (fun r30 er30 br30 => ?_)
        refine Tr.lconst (pc := 31) (v := 1) d_X1_paysInParts_31 rfl (by decide) ?_
        refine Tr.land (pc := 32) d_X1_paysInParts_32 ?_
        refine Tr.gen (P := fun v => v = r30 % 2 ∧ (0 ≤ v ∧ v ≤ 1)) ⟨(f_land_1 _).1, (f_land_1 _).2⟩ (fun r32 er32 br32 => ?_)
        refine Tr.lconst (pc := 33) (v := 1) d_X1_paysInParts_33 rfl (by decide) ?_
        refine Tr.lcmp (pc := 34) d_X1_paysInParts_34 ?_
        refine Tr.gen (P := fun v => (v = 1 ∧ 1 < r32) ∨ (v = 0 ∧ r32 = 1) ∨ (v = -1 ∧ r32 < 1)) (f_lcmp_c _ _) (fun r34 er34 br34 => ?_)
        have J89 : ∀ (M : Mem) (p89_2 : Int), St Tru ws_X1_paysInParts_56_w1 as_X1_paysInParts_56_w1 M0 M → ((-2147483648) ≤ p89_2 ∧ p89_2 ≤ 2147483647) → rd M 60 a1 = r5 → rd M 63 0 = g63_0 → rd M 63 1 = g63_1 → Tr l K 2 mX1_paysInParts 89 [(0, (2, 56)), (1, (0, a1)), (2, (0, p89_2)), (3, (0, p9_3))] [] M (q_X1_paysInParts_56_w1 M0) := by
          intro M p89_2 hS bp89_2 k89_60_a110 k89_63_0 k89_63_1
          refine Tr.iincV (pc := 89) (n2 := (p9_3 + 1)) (ls2 := [(3, (0, (p9_3 + 1))), (0, (2, 56)), (1, (0, a1)), (2, (0, p89_2))]) d_X1_paysInParts_89 rfl (by decide) ((w32_id (by omega)).trans (by omega)) rfl ?_
          refine Tr.goto (pc := 92) (tgt := 9) d_X1_paysInParts_92 rfl ?_
          refine Tr.pick [1, 2, 3, 0] (ls2 := [(0, (2, 56)), (1, (0, a1)), (2, (0, p89_2)), (3, (0, (p9_3 + 1)))]) rfl ?_
          exact J9 _ _ _ hS (by omega) (by omega) k89_60_a110 k89_63_0 k89_63_1 (by omega)
        refine Tr.if_ne (pc := 35) (tgt := 89) d_X1_paysInParts_35 rfl (fun c35 => ?_) (fun c35 => ?_)
        · refine Tr.pick [0, 1, 2, 3] (ls2 := [(0, (2, 56)), (1, (0, a1)), (2, (0, p9_2)), (3, (0, p9_3))]) rfl ?_
          exact J89 _ _ hS (by omega) k9_60_a110 k9_63_0 k9_63_1
        · refine Tr.aload_n (pc := 38) (i := 0) d_X1_paysInParts_38 rfl rfl ?_
          refine Tr.getf (pc := 39) d_X1_paysInParts_39 f_1_33 (by decide) (by decide) (ty_56 hS.1.1) ?_
          refine Tr.tp 63 (fx_56_8 hS.1.1) ?_
          refine Tr.getf (pc := 42) d_X1_paysInParts_42 f_1_101 (by decide) (by decide) (ty_63 hS.1.1) ?_
          refine Tr.gen (P := fun v => v = tref g63_1 4) (tl_ref hS k9_63_1 (by decide)) (fun t42 et42 bt42 => ?_)
          refine Tr.iload_n (pc := 45) (i := 3) d_X1_paysInParts_45 rfl rfl ?_
          have nk46_0 : rd M 63 0 = g63_0 := k9_63_0
          have nn46 := tl_n hS k9_63_1
          refine Tr.iald (pc := 46) d_X1_paysInParts_46 (tl_tyI hS k9_63_1 (j := 4) (by decide) (by decide) bt42) (by omega) (by omega) ?_
          refine Tr.gen (P := fun v => (-2147483648) ≤ v ∧ v ≤ 2147483647) (tl_eI hS k9_63_1 (j := 4) (by decide) (by decide) bt42 (by omega) (by omega)) (fun r46 er46 br46 => ?_)
          refine Tr.aload_n (pc := 47) (i := 0) d_X1_paysInParts_47 rfl rfl ?_
          refine Tr.getf (pc := 48) d_X1_paysInParts_48 f_1_41 (by decide) (by decide) (ty_56 hS.1.1) ?_
          refine Tr.tp 27 ((St.kp hS (by decide) (by decide) (by decide)).trans en_56_1) ?_
          refine Tr.getf (pc := 51) d_X1_paysInParts_51 f_1_71 (by decide) (by decide) (ty_27 hS.1.1) ?_
          refine Tr.tp 29 (fx_27_5 hS.1.1) ?_
          refine Tr.aload_n (pc := 54) (i := 0) d_X1_paysInParts_54 rfl rfl ?_
          refine Tr.getf (pc := 55) d_X1_paysInParts_55 f_1_33 (by decide) (by decide) (ty_56 hS.1.1) ?_
          refine Tr.tp 63 (fx_56_8 hS.1.1) ?_
          refine Tr.getf (pc := 58) d_X1_paysInParts_58 f_1_104 (by decide) (by decide) (ty_63 hS.1.1) ?_
          refine Tr.gen (P := fun v => v = tref g63_1 1) (tl_ref hS k9_63_1 (by decide)) (fun t58 et58 bt58 => ?_)
          refine Tr.iload_n (pc := 61) (i := 3) d_X1_paysInParts_61 rfl rfl ?_
          have nk62_0 : rd M 63 0 = g63_0 := k9_63_0
          have nn62 := tl_n hS k9_63_1
          refine Tr.iald (pc := 62) d_X1_paysInParts_62 (tl_tyI hS k9_63_1 (j := 1) (by decide) (by decide) bt58) (by omega) (by omega) ?_
          refine Tr.gen (P := fun v => 0 ≤ v ∧ v ≤ 5) (tl_eP hS k9_63_1 (j := 1) (by decide) (by decide) bt58 (by omega) (by omega)) (fun r62 er62 br62 => ?_)
          refine Tr.iconst (pc := 63) d_X1_paysInParts_63 (by decide) ?_
          refine Tr.imul (pc := 64) d_X1_paysInParts_64 ?_
          refine Tr.tp (4 * r62) ((w32_id (by omega)).trans (by omega)) ?_
          refine Tr.iconst (pc := 65) d_X1_paysInParts_65 (by decide) ?_
          refine Tr.iadd (pc := 66) d_X1_paysInParts_66 ?_
          refine Tr.tp (4 * r62 + 2) ((w32_id (by omega)).trans (by omega)) ?_
          refine Tr.iald (pc := 67) d_X1_paysInParts_67 (ty_29 hS.1.1) (by omega) (by omega) ?_
          refine Tr.gen (P := fun v => (-1) ≤ v ∧ v ≤ 999) (ar_29 hS.1.2.1 _) (fun r67 er67 br67 => ?_)
          refine Tr.imul (pc := 68) d_X1_paysInParts_68 ?_
          refine Tr.gen (P := fun v => (-2147483648) ≤ v ∧ v ≤ 2147483647) (w32_b _) (fun r68 er68 br68 => ?_)
          refine Tr.istore (pc := 69) (i := 4) (ls2 := [(4, (0, r68)), (0, (2, 56)), (1, (0, a1)), (2, (0, p9_2)), (3, (0, p9_3))]) d_X1_paysInParts_69 (by decide) rfl ?_
          refine Tr.iload_n (pc := 71) (i := 2) d_X1_paysInParts_71 rfl rfl ?_
          refine Tr.iload (pc := 72) (i := 4) d_X1_paysInParts_72 rfl ?_
          refine Tr.aload_n (pc := 74) (i := 0) d_X1_paysInParts_74 rfl rfl ?_
          refine Tr.getf (pc := 75) d_X1_paysInParts_75 f_1_33 (by decide) (by decide) (ty_56 hS.1.1) ?_
          refine Tr.tp 63 (fx_56_8 hS.1.1) ?_
          refine Tr.getf (pc := 78) d_X1_paysInParts_78 f_1_97 (by decide) (by decide) (ty_63 hS.1.1) ?_
          refine Tr.gen (P := fun v => v = tref g63_1 5) (tl_ref hS k9_63_1 (by decide)) (fun t78 et78 bt78 => ?_)
          refine Tr.iload_n (pc := 81) (i := 3) d_X1_paysInParts_81 rfl rfl ?_
          have nk82_0 : rd M 63 0 = g63_0 := k9_63_0
          have nn82 := tl_n hS k9_63_1
          refine Tr.lald (pc := 82) d_X1_paysInParts_82 (tl_tyL hS k9_63_1 bt78) (by omega) (by omega) ?_
          refine Tr.gen (P := fun v => (-9223372036854775808) ≤ v ∧ v ≤ 9223372036854775807) (tl_eL hS k9_63_1 bt78 (by omega) (by omega)) (fun r82 er82 br82 => ?_)
          refine Tr.iload_n (pc := 83) (i := 1) d_X1_paysInParts_83 rfl rfl ?_
          refine Tr.callS (pc := 84) (as := [_, _, _]) d_X1_paysInParts_84 s_1_107 ok_X1_part rfl rfl (Nat.le_of_ble_eq_true rfl) (Nat.le_of_ble_eq_true rfl) ?_
          refine Tr.imp (Tr.deep (by decide) (sp_X1_part hS.1 r68 (by omega) r82 (by omega) a1 (by omega))) ?_
          rintro M84 _ ⟨h84, r84, rfl, lr84, ur84⟩
          have hS := St.tr hS h84 (by decide) (by decide)
          refine Tr.sc [(0, r84), (0, p9_2)] rfl ?_
          refine Tr.iadd (pc := 87) d_X1_paysInParts_87 ?_
          refine Tr.gen (P := fun v => (-2147483648) ≤ v ∧ v ≤ 2147483647) (w32_b _) (fun r87 er87 br87 => ?_)
          refine Tr.istore_n (pc := 88) (i := 2) (ls2 := [(2, (0, r87)), (4, (0, r68)), (0, (2, 56)), (1, (0, a1)), (3, (0, p9_3))]) d_X1_paysInParts_88 rfl (by decide) rfl ?_
          refine Tr.pick [2, 3, 0, 4] (ls2 := [(0, (2, 56)), (1, (0, a1)), (2, (0, r87)), (3, (0, p9_3))]) rfl ?_
          exact J89 _ _ hS (by omega) ((St.ka h84 (by decide) (by decide) (by decide)).trans k9_60_a110) ((St.kp h84 (by decide) (by decide) (by decide)).trans k9_63_0) ((St.kp h84 (by decide) (by decide) (by decide)).trans k9_63_1)
  refine Tr.pick [2, 3, 1, 0] (ls2 := [(0, (2, 56)), (1, (0, a1)), (2, (0, r5)), (3, (0, 0))]) rfl ?_
  exact J9 _ _ _ _ hS (by omega) (by omega) er5 eg63_0 eg63_1 (Nat.lt_succ_self _)

def ws_X1_sippedAsleep_56_w1 : List (Int × Int) := []
def as_X1_sippedAsleep_56_w1 : List Int := []
def q_X1_sippedAsleep_56_w1 (M0 M' : Mem) (r : Option PV) : Prop := St Tru ws_X1_sippedAsleep_56_w1 as_X1_sippedAsleep_56_w1 M0 M' ∧ ∃ v : Int, r = some (0, v) ∧ (-2147483648) ≤ v ∧ v ≤ 2147483647
set_option maxRecDepth 100000 in
set_option maxHeartbeats 4000000 in
theorem sp_X1_sippedAsleep_56_w1 {l : Launch} {K : EC} {M0 : Mem} (hI : In Tru M0) (en_56_1 : rd M0 56 1 = 27)   : Tr l K 0 mX1_sippedAsleep 0 [(0, (2, 56))] [] M0 (q_X1_sippedAsleep_56_w1 M0) := by
  have hS : St Tru ws_X1_sippedAsleep_56_w1 as_X1_sippedAsleep_56_w1 M0 M0 := St.rf hI
  refine Tr.iconst (pc := 0) d_X1_sippedAsleep_0 (by decide) ?_
  refine Tr.istore_n (pc := 1) (i := 1) (ls2 := [(1, (0, 0)), (0, (2, 56))]) d_X1_sippedAsleep_1 rfl (by decide) rfl ?_
  refine Tr.iconst (pc := 2) d_X1_sippedAsleep_2 (by decide) ?_
  refine Tr.istore_n (pc := 3) (i := 2) (ls2 := [(2, (0, 0)), (1, (0, 0)), (0, (2, 56))]) d_X1_sippedAsleep_3 rfl (by decide) rfl ?_
  have J4 : ∀ (n4 : Nat) (M : Mem) (p4_1 p4_2 : Int), St Tru ws_X1_sippedAsleep_56_w1 as_X1_sippedAsleep_56_w1 M0 M → ((-2147483648) ≤ p4_1 ∧ p4_1 ≤ 2147483647) → (0 ≤ p4_2 ∧ p4_2 ≤ 6) → (6 - p4_2).toNat < n4 → Tr l K 0 mX1_sippedAsleep 4 [(0, (2, 56)), (1, (0, p4_1)), (2, (0, p4_2))] [] M (q_X1_sippedAsleep_56_w1 M0) := by
    intro n4
    induction n4 with
    | zero => intro M p4_1 p4_2 hS bp4_1 bp4_2  hm4; exact absurd hm4 (Nat.not_lt_zero _)
    | succ n4 J4 =>
      intro M p4_1 p4_2 hS bp4_1 bp4_2  hm4
      refine Tr.iload_n (pc := 4) (i := 2) d_X1_sippedAsleep_4 rfl rfl ?_
      refine Tr.aload_n (pc := 5) (i := 0) d_X1_sippedAsleep_5 rfl rfl ?_
      refine Tr.getf (pc := 6) d_X1_sippedAsleep_6 f_1_41 (by decide) (by decide) (ty_56 hS.1.1) ?_
      refine Tr.tp 27 ((St.kp hS (by decide) (by decide) (by decide)).trans en_56_1) ?_
      refine Tr.getf (pc := 9) d_X1_sippedAsleep_9 f_1_91 (by decide) (by decide) (ty_27 hS.1.1) ?_
      refine Tr.tp 28 (fx_27_4 hS.1.1) ?_
      refine Tr.iconst (pc := 12) d_X1_sippedAsleep_12 (by decide) ?_
      refine Tr.iald (pc := 13) d_X1_sippedAsleep_13 (ty_28 hS.1.1) (by omega) (by omega) ?_
      refine Tr.gen (P := fun v => 0 ≤ v ∧ v ≤ 6) (ir_28_0 hS.1.2.1) (fun r13 er13 br13 => ?_)
      refine Tr.icmp_ge (pc := 14) (tgt := 50) d_X1_sippedAsleep_14 rfl (fun c14 => ?_) (fun c14 => ?_)
      · refine Tr.iload_n (pc := 50) (i := 1) d_X1_sippedAsleep_50 rfl rfl ?_
        exact Tr.iret (pc := 51) d_X1_sippedAsleep_51 rfl ⟨hS, _, rfl, by omega, by omega⟩
      · refine Tr.iload_n (pc := 17) (i := 1) d_X1_sippedAsleep_17 rfl rfl ?_
        refine Tr.aload_n (pc := 18) (i := 0) d_X1_sippedAsleep_18 rfl rfl ?_
        refine Tr.getf (pc := 19) d_X1_sippedAsleep_19 f_1_9 (by decide) (by decide) (ty_56 hS.1.1) ?_
        refine Tr.tp 57 (fx_56_2 hS.1.1) ?_
        refine Tr.iload_n (pc := 22) (i := 2) d_X1_sippedAsleep_22 rfl rfl ?_
        refine Tr.iconst (pc := 23) d_X1_sippedAsleep_23 (by decide) ?_
        refine Tr.imul (pc := 24) d_X1_sippedAsleep_24 ?_
        refine Tr.tp (4 * p4_2) ((w32_id (by omega)).trans (by omega)) ?_
        refine Tr.iconst (pc := 25) d_X1_sippedAsleep_25 (by decide) ?_
        refine Tr.iadd (pc := 26) d_X1_sippedAsleep_26 ?_
        refine Tr.tp (4 * p4_2) ((w32_id (by omega)).trans (by omega)) ?_
        refine Tr.iald (pc := 27) d_X1_sippedAsleep_27 (ty_57 hS.1.1) (by omega) (by omega) ?_
        refine Tr.gen (P := fun v => (-2147483648) ≤ v ∧ v ≤ 2147483647) (ar_57 hS.1.2.1 _) (fun r27 er27 br27 => ?_)
        refine Tr.aload_n (pc := 28) (i := 0) d_X1_sippedAsleep_28 rfl rfl ?_
        refine Tr.getf (pc := 29) d_X1_sippedAsleep_29 f_1_41 (by decide) (by decide) (ty_56 hS.1.1) ?_
        refine Tr.tp 27 ((St.kp hS (by decide) (by decide) (by decide)).trans en_56_1) ?_
        refine Tr.getf (pc := 32) d_X1_sippedAsleep_32 f_1_71 (by decide) (by decide) (ty_27 hS.1.1) ?_
        refine Tr.tp 29 (fx_27_5 hS.1.1) ?_
        refine Tr.iload_n (pc := 35) (i := 2) d_X1_sippedAsleep_35 rfl rfl ?_
        refine Tr.iconst (pc := 36) d_X1_sippedAsleep_36 (by decide) ?_
        refine Tr.imul (pc := 37) d_X1_sippedAsleep_37 ?_
        refine Tr.tp (4 * p4_2) ((w32_id (by omega)).trans (by omega)) ?_
        refine Tr.iconst (pc := 38) d_X1_sippedAsleep_38 (by decide) ?_
        refine Tr.iadd (pc := 39) d_X1_sippedAsleep_39 ?_
        refine Tr.tp (4 * p4_2) ((w32_id (by omega)).trans (by omega)) ?_
        refine Tr.iald (pc := 40) d_X1_sippedAsleep_40 (ty_29 hS.1.1) (by omega) (by omega) ?_
        refine Tr.gen (P := fun v => (-1) ≤ v ∧ v ≤ 999) (ar_29 hS.1.2.1 _) (fun r40 er40 br40 => ?_)
        refine Tr.imul (pc := 41) d_X1_sippedAsleep_41 ?_
        refine Tr.gen (P := fun v => (-2147483648) ≤ v ∧ v ≤ 2147483647) (w32_b _) (fun r41 er41 br41 => ?_)
        refine Tr.iadd (pc := 42) d_X1_sippedAsleep_42 ?_
        refine Tr.gen (P := fun v => (-2147483648) ≤ v ∧ v ≤ 2147483647) (w32_b _) (fun r42 er42 br42 => ?_)
        refine Tr.istore_n (pc := 43) (i := 1) (ls2 := [(1, (0, r42)), (0, (2, 56)), (2, (0, p4_2))]) d_X1_sippedAsleep_43 rfl (by decide) rfl ?_
        refine Tr.iincV (pc := 44) (n2 := (p4_2 + 1)) (ls2 := [(2, (0, (p4_2 + 1))), (1, (0, r42)), (0, (2, 56))]) d_X1_sippedAsleep_44 rfl (by decide) ((w32_id (by omega)).trans (by omega)) rfl ?_
        refine Tr.goto (pc := 47) (tgt := 4) d_X1_sippedAsleep_47 rfl ?_
        refine Tr.pick [2, 1, 0] (ls2 := [(0, (2, 56)), (1, (0, r42)), (2, (0, (p4_2 + 1)))]) rfl ?_
        exact J4 _ _ _ hS (by omega) (by omega) (by omega)
  refine Tr.pick [2, 1, 0] (ls2 := [(0, (2, 56)), (1, (0, 0)), (2, (0, 0))]) rfl ?_
  exact J4 _ _ _ _ hS (by omega) (by omega) (Nat.lt_succ_self _)

def ws_X11_pays_0_w2 : List (Int × Int) := []
def as_X11_pays_0_w2 : List Int := []
def q_X11_pays_0_w2 (M0 M' : Mem) (r : Option PV) : Prop := St Tru ws_X11_pays_0_w2 as_X11_pays_0_w2 M0 M' ∧ ∃ v : Int, r = some (0, v) ∧ (-2147483648) ≤ v ∧ v ≤ 2147483647
set_option maxRecDepth 100000 in
set_option maxHeartbeats 4000000 in
theorem sp_X11_pays_0_w2 {l : Launch} {K : EC} {M0 : Mem} (hI : In Tru M0) (en_0_4 : rd M0 0 4 = 27) (en_0_9 : rd M0 0 9 = 1) (en_56_1 : rd M0 56 1 = 27) (a1 : Int) (ha1 : (-2147483648) ≤ a1 ∧ a1 ≤ 2147483647) (a2 : Int) (ha2 : (-2147483648) ≤ a2 ∧ a2 ≤ 2147483647)  : Tr l K 3 mX11_pays 0 [(0, (2, 0)), (1, (0, a1)), (2, (0, a2))] [] M0 (q_X11_pays_0_w2 M0) := by
  have hS : St Tru ws_X11_pays_0_w2 as_X11_pays_0_w2 M0 M0 := St.rf hI
  refine Tr.aload_n (pc := 0) (i := 0) d_X11_pays_0 rfl rfl ?_
  refine Tr.getz (pc := 1) d_X11_pays_1 f_11_109 (by decide) (ty_0 hS.1.1) ?_
  refine Tr.tp 1 ((St.kp hS (by decide) (by decide) (by decide)).trans en_0_9) ?_
  refine Tr.if_eq (pc := 4) (tgt := 16) d_X11_pays_4 rfl (fun hc => absurd hc (by omega)) (fun _ => ?_)
  refine Tr.iload_n (pc := 7) (i := 2) d_X11_pays_7 rfl rfl ?_
  refine Tr.if_lt (pc := 8) (tgt := 16) d_X11_pays_8 rfl (fun c8 => ?_) (fun c8 => ?_)
  · refine Tr.iconst (pc := 16) d_X11_pays_16 (by decide) ?_
    exact Tr.iret (pc := 17) d_X11_pays_17 rfl ⟨hS, _, rfl, by omega, by omega⟩
  · refine Tr.iload_n (pc := 11) (i := 2) d_X11_pays_11 rfl rfl ?_
    refine Tr.iconst (pc := 12) d_X11_pays_12 (by decide) ?_
    refine Tr.icmp_le (pc := 13) (tgt := 18) d_X11_pays_13 rfl (fun c13 => ?_) (fun c13 => ?_)
    · refine Tr.iload_n (pc := 18) (i := 1) d_X11_pays_18 rfl rfl ?_
      refine Tr.iconst (pc := 19) d_X11_pays_19 (by decide) ?_
      refine Tr.icmp_ne (pc := 20) (tgt := 34) d_X11_pays_20 rfl (fun c20 => ?_) (fun c20 => ?_)
      · refine Tr.aload_n (pc := 34) (i := 0) d_X11_pays_34 rfl rfl ?_
        refine Tr.iload_n (pc := 35) (i := 1) d_X11_pays_35 rfl rfl ?_
        refine Tr.callV (pc := 36) (as := [_]) d_X11_pays_36 s_11_191 ok_X11_isLine rfl rfl (Nat.le_of_ble_eq_true rfl) (Nat.le_of_ble_eq_true rfl) (by decide) (ty_0 hS.1.1) ?_
        refine Tr.imp (Tr.deep (by decide) (sp_X11_isLine_0_w1 hS.1 ((St.kp hS (by decide) (by decide) (by decide)).trans en_0_4) a1 (by omega))) ?_
        rintro M36 _ ⟨h36, r36, rfl, lr36, ur36, wr36⟩
        have hS := St.tr hS h36 (by decide) (by decide)
        refine Tr.sc [(0, r36)] rfl ?_
        refine Tr.if_ne (pc := 39) (tgt := 44) d_X11_pays_39 rfl (fun c39 => ?_) (fun c39 => ?_)
        · refine Tr.iload_n (pc := 44) (i := 2) d_X11_pays_44 rfl rfl ?_
          refine Tr.if_ne (pc := 45) (tgt := 62) d_X11_pays_45 rfl (fun c45 => ?_) (fun c45 => ?_)
          · refine Tr.aload_n (pc := 62) (i := 0) d_X11_pays_62 rfl rfl ?_
            refine Tr.getf (pc := 63) d_X11_pays_63 f_11_46 (by decide) (by decide) (ty_0 hS.1.1) ?_
            refine Tr.tp 48 (fx_0_7 hS.1.1) ?_
            refine Tr.getf (pc := 66) d_X11_pays_66 f_11_178 (by decide) (by decide) (ty_48 hS.1.1) ?_
            refine Tr.tp 56 (fx_48_0 hS.1.1) ?_
            refine Tr.iload_n (pc := 69) (i := 1) d_X11_pays_69 rfl rfl ?_
            refine Tr.callV (pc := 70) (as := [_]) d_X11_pays_70 s_11_198 ok_X1_paysInParts rfl rfl (Nat.le_of_ble_eq_true rfl) (Nat.le_of_ble_eq_true rfl) (by decide) (ty_56 hS.1.1) ?_
            refine Tr.imp (Tr.deep (by decide) (sp_X1_paysInParts_56_w1 hS.1 ((St.kp hS (by decide) (by decide) (by decide)).trans en_56_1) a1 (by omega))) ?_
            rintro M70 _ ⟨h70, r70, rfl, lr70, ur70⟩
            have hS := St.tr hS h70 (by decide) (by decide)
            refine Tr.sc [(0, r70)] rfl ?_
            exact Tr.iret (pc := 73) d_X11_pays_73 rfl ⟨hS, _, rfl, by omega, by omega⟩
          · refine Tr.aload_n (pc := 48) (i := 0) d_X11_pays_48 rfl rfl ?_
            refine Tr.getf (pc := 49) d_X11_pays_49 f_11_46 (by decide) (by decide) (ty_0 hS.1.1) ?_
            refine Tr.tp 48 (fx_0_7 hS.1.1) ?_
            refine Tr.getf (pc := 52) d_X11_pays_52 f_11_178 (by decide) (by decide) (ty_48 hS.1.1) ?_
            refine Tr.tp 56 (fx_48_0 hS.1.1) ?_
            refine Tr.iload_n (pc := 55) (i := 1) d_X11_pays_55 rfl rfl ?_
            refine Tr.callV (pc := 56) (as := [_]) d_X11_pays_56 s_11_194 ok_X1_paysAsLast rfl rfl (Nat.le_of_ble_eq_true rfl) (Nat.le_of_ble_eq_true rfl) (by decide) (ty_56 hS.1.1) ?_
            refine Tr.imp (Tr.deep (by decide) (sp_X1_paysAsLast_56 hS.1 a1 (by omega))) ?_
            rintro M56 _ ⟨h56, r56, rfl, lr56, ur56⟩
            have hS := St.tr hS h56 (by decide) (by decide)
            refine Tr.sc [(0, r56)] rfl ?_
            refine Tr.goto (pc := 59) (tgt := 73) d_X11_pays_59 rfl ?_
            exact Tr.iret (pc := 73) d_X11_pays_73 rfl ⟨hS, _, rfl, by omega, by omega⟩
        · refine Tr.iconst (pc := 42) d_X11_pays_42 (by decide) ?_
          exact Tr.iret (pc := 43) d_X11_pays_43 rfl ⟨hS, _, rfl, by omega, by omega⟩
      · refine Tr.aload_n (pc := 23) (i := 0) d_X11_pays_23 rfl rfl ?_
        refine Tr.getf (pc := 24) d_X11_pays_24 f_11_46 (by decide) (by decide) (ty_0 hS.1.1) ?_
        refine Tr.tp 48 (fx_0_7 hS.1.1) ?_
        refine Tr.getf (pc := 27) d_X11_pays_27 f_11_178 (by decide) (by decide) (ty_48 hS.1.1) ?_
        refine Tr.tp 56 (fx_48_0 hS.1.1) ?_
        refine Tr.callV (pc := 30) (as := []) d_X11_pays_30 s_11_187 ok_X1_sippedAsleep rfl rfl (Nat.le_of_ble_eq_true rfl) (Nat.le_of_ble_eq_true rfl) (by decide) (ty_56 hS.1.1) ?_
        refine Tr.imp (Tr.deep (by decide) (sp_X1_sippedAsleep_56_w1 hS.1 ((St.kp hS (by decide) (by decide) (by decide)).trans en_56_1))) ?_
        rintro M30 _ ⟨h30, r30, rfl, lr30, ur30⟩
        have hS := St.tr hS h30 (by decide) (by decide)
        refine Tr.sc [(0, r30)] rfl ?_
        exact Tr.iret (pc := 33) d_X11_pays_33 rfl ⟨hS, _, rfl, by omega, by omega⟩
    · refine Tr.iconst (pc := 16) d_X11_pays_16 (by decide) ?_
      exact Tr.iret (pc := 17) d_X11_pays_17 rfl ⟨hS, _, rfl, by omega, by omega⟩

def ws_X11_stretches_0_w2 : List (Int × Int) := []
def as_X11_stretches_0_w2 : List Int := []
def q_X11_stretches_0_w2 (M0 M' : Mem) (r : Option PV) : Prop := St Tru ws_X11_stretches_0_w2 as_X11_stretches_0_w2 M0 M' ∧ ∃ v : Int, r = some (0, v) ∧ (-2147483648) ≤ v ∧ v ≤ 2147483647
set_option maxRecDepth 100000 in
set_option maxHeartbeats 4000000 in
theorem sp_X11_stretches_0_w2 {l : Launch} {K : EC} {M0 : Mem} (hI : In Tru M0) (en_0_4 : rd M0 0 4 = 27) (en_0_9 : rd M0 0 9 = 1) (a1 : Int) (ha1 : (-2147483648) ≤ a1 ∧ a1 ≤ 2147483647)  : Tr l K 1 mX11_stretches 0 [(0, (2, 0)), (1, (0, a1))] [] M0 (q_X11_stretches_0_w2 M0) := by
  have hS : St Tru ws_X11_stretches_0_w2 as_X11_stretches_0_w2 M0 M0 := St.rf hI
  refine Tr.aload_n (pc := 0) (i := 0) d_X11_stretches_0 rfl rfl ?_
  refine Tr.getz (pc := 1) d_X11_stretches_1 f_11_109 (by decide) (ty_0 hS.1.1) ?_
  refine Tr.tp 1 ((St.kp hS (by decide) (by decide) (by decide)).trans en_0_9) ?_
  refine Tr.if_eq (pc := 4) (tgt := 15) d_X11_stretches_4 rfl (fun hc => absurd hc (by omega)) (fun _ => ?_)
  refine Tr.aload_n (pc := 7) (i := 0) d_X11_stretches_7 rfl rfl ?_
  refine Tr.iload_n (pc := 8) (i := 1) d_X11_stretches_8 rfl rfl ?_
  refine Tr.callV (pc := 9) (as := [_]) d_X11_stretches_9 s_11_174 ok_X11_isPart rfl rfl (Nat.le_of_ble_eq_true rfl) (Nat.le_of_ble_eq_true rfl) (by decide) (ty_0 hS.1.1) ?_
  refine Tr.imp (Tr.deep (by decide) (sp_X11_isPart_0_w1 hS.1 ((St.kp hS (by decide) (by decide) (by decide)).trans en_0_4) a1 (by omega))) ?_
  rintro M9 _ ⟨h9, r9, rfl, lr9, ur9, wr9⟩
  have hS := St.tr hS h9 (by decide) (by decide)
  refine Tr.sc [(0, r9)] rfl ?_
  refine Tr.if_ne (pc := 12) (tgt := 17) d_X11_stretches_12 rfl (fun c12 => ?_) (fun c12 => ?_)
  · refine Tr.aload_n (pc := 17) (i := 0) d_X11_stretches_17 rfl rfl ?_
    refine Tr.getf (pc := 18) d_X11_stretches_18 f_11_46 (by decide) (by decide) (ty_0 hS.1.1) ?_
    refine Tr.tp 48 (fx_0_7 hS.1.1) ?_
    refine Tr.getf (pc := 21) d_X11_stretches_21 f_11_178 (by decide) (by decide) (ty_48 hS.1.1) ?_
    refine Tr.tp 56 (fx_48_0 hS.1.1) ?_
    refine Tr.getf (pc := 24) d_X11_stretches_24 f_11_201 (by decide) (by decide) (ty_56 hS.1.1) ?_
    refine Tr.tp 63 (fx_56_8 hS.1.1) ?_
    refine Tr.iload_n (pc := 27) (i := 1) d_X11_stretches_27 rfl rfl ?_
    refine Tr.callV (pc := 28) (as := [_]) d_X11_stretches_28 s_11_205 ok_X8_countOf rfl rfl (Nat.le_of_ble_eq_true rfl) (Nat.le_of_ble_eq_true rfl) (by decide) (ty_63 hS.1.1) ?_
    refine Tr.imp (Tr.deep (by decide) (sp_X8_countOf_63 hS.1 a1 (by omega))) ?_
    rintro M28 _ ⟨h28, r28, rfl, lr28, ur28⟩
    have hS := St.tr hS h28 (by decide) (by decide)
    refine Tr.sc [(0, r28)] rfl ?_
    exact Tr.iret (pc := 31) d_X11_stretches_31 rfl ⟨hS, _, rfl, by omega, by omega⟩
  · refine Tr.iconst (pc := 15) d_X11_stretches_15 (by decide) ?_
    exact Tr.iret (pc := 16) d_X11_stretches_16 rfl ⟨hS, _, rfl, by omega, by omega⟩

def ws_X11_stretchPlace_0_w2 : List (Int × Int) := []
def as_X11_stretchPlace_0_w2 : List Int := []
def q_X11_stretchPlace_0_w2 (a1 : Int) (a2 : Int) (M0 M' : Mem) (r : Option PV) : Prop := St Tru ws_X11_stretchPlace_0_w2 as_X11_stretchPlace_0_w2 M0 M' ∧ ∃ v : Int, r = some (0, v) ∧ (-1) ≤ v ∧ v ≤ 2015 ∧ (v < rd M' 63 0 ∨ v = -1)
set_option maxRecDepth 100000 in
set_option maxHeartbeats 4000000 in
theorem sp_X11_stretchPlace_0_w2 {l : Launch} {K : EC} {M0 : Mem} (hI : In Tru M0) (en_0_4 : rd M0 0 4 = 27) (en_0_9 : rd M0 0 9 = 1) (a1 : Int) (ha1 : (-2147483648) ≤ a1 ∧ a1 ≤ 2147483647) (a2 : Int) (ha2 : (-2147483648) ≤ a2 ∧ a2 ≤ 2147483647)  : Tr l K 1 mX11_stretchPlace 0 [(0, (2, 0)), (1, (0, a1)), (2, (0, a2))] [] M0 (q_X11_stretchPlace_0_w2 a1 a2 M0) := by
  have hS : St Tru ws_X11_stretchPlace_0_w2 as_X11_stretchPlace_0_w2 M0 M0 := St.rf hI
  obtain ⟨g63_1, eg63_1⟩ : ∃ v, rd M0 63 1 = v := ⟨_, rfl⟩
  have bg63_1 : (-1000000000) ≤ g63_1 ∧ g63_1 ≤ 1000000000 := by rw [← eg63_1]; exact ir_63_1 hI.2.1
  obtain ⟨g63_0, eg63_0⟩ : ∃ v, rd M0 63 0 = v := ⟨_, rfl⟩
  have bg63_0 : (-2147483648) ≤ g63_0 ∧ g63_0 ≤ 2147483647 := by rw [← eg63_0]; exact ir_63_0 hI.2.1
  refine Tr.aload_n (pc := 0) (i := 0) d_X11_stretchPlace_0 rfl rfl ?_
  refine Tr.getz (pc := 1) d_X11_stretchPlace_1 f_11_109 (by decide) (ty_0 hS.1.1) ?_
  refine Tr.tp 1 ((St.kp hS (by decide) (by decide) (by decide)).trans en_0_9) ?_
  refine Tr.if_eq (pc := 4) (tgt := 19) d_X11_stretchPlace_4 rfl (fun hc => absurd hc (by omega)) (fun _ => ?_)
  refine Tr.aload_n (pc := 7) (i := 0) d_X11_stretchPlace_7 rfl rfl ?_
  refine Tr.iload_n (pc := 8) (i := 1) d_X11_stretchPlace_8 rfl rfl ?_
  refine Tr.callV (pc := 9) (as := [_]) d_X11_stretchPlace_9 s_11_174 ok_X11_isPart rfl rfl (Nat.le_of_ble_eq_true rfl) (Nat.le_of_ble_eq_true rfl) (by decide) (ty_0 hS.1.1) ?_
  refine Tr.imp (Tr.deep (by decide) (sp_X11_isPart_0_w1 hS.1 ((St.kp hS (by decide) (by decide) (by decide)).trans en_0_4) a1 (by omega))) ?_
  rintro M9 _ ⟨h9, r9, rfl, lr9, ur9, wr9⟩
  have hS := St.tr hS h9 (by decide) (by decide)
  refine Tr.sc [(0, r9)] rfl ?_
  refine Tr.if_eq (pc := 12) (tgt := 19) d_X11_stretchPlace_12 rfl (fun c12 => ?_) (fun c12 => ?_)
  · refine Tr.iconst (pc := 19) d_X11_stretchPlace_19 (by decide) ?_
    have kr_63_0 : rd M9 63 0 = g63_0 := ((St.kp h9 (by decide) (by decide) (by decide)).trans eg63_0)
    exact Tr.iret (pc := 20) d_X11_stretchPlace_20 rfl ⟨hS, _, rfl, by omega, by omega, by omega⟩
  · refine Tr.iload_n (pc := 15) (i := 2) d_X11_stretchPlace_15 rfl rfl ?_
    refine Tr.if_ge (pc := 16) (tgt := 21) d_X11_stretchPlace_16 rfl (fun c16 => ?_) (fun c16 => ?_)
    · refine Tr.aload_n (pc := 21) (i := 0) d_X11_stretchPlace_21 rfl rfl ?_
      refine Tr.getf (pc := 22) d_X11_stretchPlace_22 f_11_46 (by decide) (by decide) (ty_0 hS.1.1) ?_
      refine Tr.tp 48 (fx_0_7 hS.1.1) ?_
      refine Tr.getf (pc := 25) d_X11_stretchPlace_25 f_11_178 (by decide) (by decide) (ty_48 hS.1.1) ?_
      refine Tr.tp 56 (fx_48_0 hS.1.1) ?_
      refine Tr.getf (pc := 28) d_X11_stretchPlace_28 f_11_201 (by decide) (by decide) (ty_56 hS.1.1) ?_
      refine Tr.tp 63 (fx_56_8 hS.1.1) ?_
      refine Tr.iload_n (pc := 31) (i := 1) d_X11_stretchPlace_31 rfl rfl ?_
      refine Tr.iload_n (pc := 32) (i := 2) d_X11_stretchPlace_32 rfl rfl ?_
      refine Tr.callV (pc := 33) (as := [_, _]) d_X11_stretchPlace_33 s_11_210 ok_X8_placeOf rfl rfl (Nat.le_of_ble_eq_true rfl) (Nat.le_of_ble_eq_true rfl) (by decide) (ty_63 hS.1.1) ?_
      refine Tr.imp (Tr.deep (by decide) (sp_X8_placeOf_63 hS.1 a1 (by omega) a2 (by omega))) ?_
      rintro M33 _ ⟨h33, r33, rfl, lr33, ur33, z33_0⟩
      have hS := St.tr hS h33 (by decide) (by decide)
      have ka33_63_0 : rd M33 63 0 = g63_0 := ((St.kp h33 (by decide) (by decide) (by decide)).trans ((St.kp h9 (by decide) (by decide) (by decide)).trans eg63_0))
      refine Tr.sc [(0, r33)] rfl ?_
      have kr_63_0 : rd M33 63 0 = g63_0 := ((St.kp h33 (by decide) (by decide) (by decide)).trans ((St.kp h9 (by decide) (by decide) (by decide)).trans eg63_0))
      exact Tr.iret (pc := 36) d_X11_stretchPlace_36 rfl ⟨hS, _, rfl, by omega, by omega, by omega⟩
    · refine Tr.iconst (pc := 19) d_X11_stretchPlace_19 (by decide) ?_
      have kr_63_0 : rd M9 63 0 = g63_0 := ((St.kp h9 (by decide) (by decide) (by decide)).trans eg63_0)
      exact Tr.iret (pc := 20) d_X11_stretchPlace_20 rfl ⟨hS, _, rfl, by omega, by omega, by omega⟩
end
