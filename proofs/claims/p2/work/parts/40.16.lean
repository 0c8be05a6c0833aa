def ws_X12_costOf_120_w1 : List (Int × Int) := []
def as_X12_costOf_120_w1 : List Int := [177]
def q_X12_costOf_120_w1 (M0 M' : Mem) (r : Option PV) : Prop := St Tru ws_X12_costOf_120_w1 as_X12_costOf_120_w1 M0 M' ∧ ∃ v : Int, r = some (1, v) ∧ (-9223372036854775808) ≤ v ∧ v ≤ 9223372036854775807
theorem kp_X12_costOf_120_w1_120_12 {q : Mem → Prop} {M0 M : Mem} (h : St q ws_X12_costOf_120_w1 as_X12_costOf_120_w1 M0 M) : rd M 120 12 = rd M0 120 12 := St.kp h (by decide) (by decide) (by decide)
theorem ka_X12_costOf_120_w1_131 {q : Mem → Prop} {M0 M : Mem} (h : St q ws_X12_costOf_120_w1 as_X12_costOf_120_w1 M0 M) (j : Int) : rd M 131 j = rd M0 131 j := St.ka h (by decide) (by decide) (by decide)
theorem ka_X12_costOf_120_w1_137 {q : Mem → Prop} {M0 M : Mem} (h : St q ws_X12_costOf_120_w1 as_X12_costOf_120_w1 M0 M) (j : Int) : rd M 137 j = rd M0 137 j := St.ka h (by decide) (by decide) (by decide)
theorem ka_X12_costOf_120_w1_138 {q : Mem → Prop} {M0 M : Mem} (h : St q ws_X12_costOf_120_w1 as_X12_costOf_120_w1 M0 M) (j : Int) : rd M 138 j = rd M0 138 j := St.ka h (by decide) (by decide) (by decide)
theorem ka_X12_costOf_120_w1_139 {q : Mem → Prop} {M0 M : Mem} (h : St q ws_X12_costOf_120_w1 as_X12_costOf_120_w1 M0 M) (j : Int) : rd M 139 j = rd M0 139 j := St.ka h (by decide) (by decide) (by decide)
theorem ka_X12_costOf_120_w1_140 {q : Mem → Prop} {M0 M : Mem} (h : St q ws_X12_costOf_120_w1 as_X12_costOf_120_w1 M0 M) (j : Int) : rd M 140 j = rd M0 140 j := St.ka h (by decide) (by decide) (by decide)
theorem ka_X12_costOf_120_w1_141 {q : Mem → Prop} {M0 M : Mem} (h : St q ws_X12_costOf_120_w1 as_X12_costOf_120_w1 M0 M) (j : Int) : rd M 141 j = rd M0 141 j := St.ka h (by decide) (by decide) (by decide)
theorem ka_X12_costOf_120_w1_142 {q : Mem → Prop} {M0 M : Mem} (h : St q ws_X12_costOf_120_w1 as_X12_costOf_120_w1 M0 M) (j : Int) : rd M 142 j = rd M0 142 j := St.ka h (by decide) (by decide) (by decide)
theorem ka_X12_costOf_120_w1_143 {q : Mem → Prop} {M0 M : Mem} (h : St q ws_X12_costOf_120_w1 as_X12_costOf_120_w1 M0 M) (j : Int) : rd M 143 j = rd M0 143 j := St.ka h (by decide) (by decide) (by decide)
theorem kp_X12_costOf_120_w1_126_1 {q : Mem → Prop} {M0 M : Mem} (h : St q ws_X12_costOf_120_w1 as_X12_costOf_120_w1 M0 M) : rd M 126 1 = rd M0 126 1 := St.kp h (by decide) (by decide) (by decide)
theorem kp_X12_costOf_120_w1_136_1 {q : Mem → Prop} {M0 M : Mem} (h : St q ws_X12_costOf_120_w1 as_X12_costOf_120_w1 M0 M) : rd M 136 1 = rd M0 136 1 := St.kp h (by decide) (by decide) (by decide)
theorem kp_X12_costOf_120_w1_123_1 {q : Mem → Prop} {M0 M : Mem} (h : St q ws_X12_costOf_120_w1 as_X12_costOf_120_w1 M0 M) : rd M 123 1 = rd M0 123 1 := St.kp h (by decide) (by decide) (by decide)
theorem kp_X12_costOf_120_w1_124_1 {q : Mem → Prop} {M0 M : Mem} (h : St q ws_X12_costOf_120_w1 as_X12_costOf_120_w1 M0 M) : rd M 124 1 = rd M0 124 1 := St.kp h (by decide) (by decide) (by decide)
theorem kp_X12_tails_120_w1_120_96 {q : Mem → Prop} {M0 M : Mem} (h : St q ws_X12_tails_120_w1 as_X12_tails_120_w1 M0 M) : rd M 120 96 = rd M0 120 96 := St.kp h (by decide) (by decide) (by decide)
theorem kp_X12_tails_120_w1_120_97 {q : Mem → Prop} {M0 M : Mem} (h : St q ws_X12_tails_120_w1 as_X12_tails_120_w1 M0 M) : rd M 120 97 = rd M0 120 97 := St.kp h (by decide) (by decide) (by decide)
theorem kp_X12_tails_120_w1_120_98 {q : Mem → Prop} {M0 M : Mem} (h : St q ws_X12_tails_120_w1 as_X12_tails_120_w1 M0 M) : rd M 120 98 = rd M0 120 98 := St.kp h (by decide) (by decide) (by decide)
theorem ka_X12_tails_120_w1_169 {q : Mem → Prop} {M0 M : Mem} (h : St q ws_X12_tails_120_w1 as_X12_tails_120_w1 M0 M) (j : Int) : rd M 169 j = rd M0 169 j := St.ka h (by decide) (by decide) (by decide)
theorem ka_X12_tails_120_w1_170 {q : Mem → Prop} {M0 M : Mem} (h : St q ws_X12_tails_120_w1 as_X12_tails_120_w1 M0 M) (j : Int) : rd M 170 j = rd M0 170 j := St.ka h (by decide) (by decide) (by decide)
theorem ka_X12_tails_120_w1_171 {q : Mem → Prop} {M0 M : Mem} (h : St q ws_X12_tails_120_w1 as_X12_tails_120_w1 M0 M) (j : Int) : rd M 171 j = rd M0 171 j := St.ka h (by decide) (by decide) (by decide)
theorem ka_X12_tails_120_w1_163 {q : Mem → Prop} {M0 M : Mem} (h : St q ws_X12_tails_120_w1 as_X12_tails_120_w1 M0 M) (j : Int) : rd M 163 j = rd M0 163 j := St.ka h (by decide) (by decide) (by decide)
set_option maxRecDepth 100000 in
set_option maxHeartbeats 4000000 in
theorem sp_X12_costOf_120_w1 {l : Launch} {K : EC} {M0 : Mem} (hI : In Tru M0) (en_120_12 : rd M0 120 12 = 1) (a1 : Int) (ha1 : 0 ≤ a1 ∧ a1 ≤ 5) (a2 : Int) (ha2 : (-2147483648) ≤ a2 ∧ a2 ≤ 2147483647)  (hF_Bk1 : Bk1 M0) : Tr l K 3 mX12_costOf 0 [(0, (2, 120)), (1, (0, a1)), (2, (0, a2))] [] M0 (q_X12_costOf_120_w1 M0) := by
  have hS : St Tru ws_X12_costOf_120_w1 as_X12_costOf_120_w1 M0 M0 := St.rf hI
  refine Tr.iconst (pc := 0) d_X12_costOf_0 (by decide) ?_
  refine Tr.istore_n (pc := 1) (i := 3) (ls2 := [(3, (0, 0)), (0, (2, 120)), (1, (0, a1)), (2, (0, a2))]) d_X12_costOf_1 rfl (by decide) rfl ?_
  refine Tr.aload_n (pc := 2) (i := 0) d_X12_costOf_2 rfl rfl ?_
  refine Tr.getf (pc := 3) d_X12_costOf_3 f_12_306 (by decide) (by decide) (ty_120 hS.1.1) ?_
  refine Tr.gen (P := fun v => 0 ≤ v ∧ v ≤ 2100) (ir_120_97 hS.1.2.1) (fun r3 er3 br3 => ?_)
  refine Tr.istore (pc := 6) (i := 4) (ls2 := [(4, (0, r3)), (3, (0, 0)), (0, (2, 120)), (1, (0, a1)), (2, (0, a2))]) d_X12_costOf_6 (by decide) rfl ?_
  have J8 : ∀ (n8 : Nat) (M : Mem) (p8_3 p8_4 : Int), St Tru ws_X12_costOf_120_w1 as_X12_costOf_120_w1 M0 M → ((-2147483648) ≤ p8_3 ∧ p8_3 ≤ 2147483647) → (0 ≤ p8_4 ∧ p8_4 ≤ 2100) → rd M 120 97 = r3 → (2100 - p8_4).toNat < n8 → Tr l K 3 mX12_costOf 8 [(0, (2, 120)), (1, (0, a1)), (2, (0, a2)), (3, (0, p8_3)), (4, (0, p8_4))] [] M (q_X12_costOf_120_w1 M0) := by
    intro n8
    induction n8 with
    | zero => intro M p8_3 p8_4 hS bp8_3 bp8_4 k8_120_97 hm8; exact absurd hm8 (Nat.not_lt_zero _)
    | succ n8 J8 =>
      intro M p8_3 p8_4 hS bp8_3 bp8_4 k8_120_97 hm8
      clear er3
      refine Tr.iload (pc := 8) (i := 4) d_X12_costOf_8 rfl ?_
      refine Tr.aload_n (pc := 10) (i := 0) d_X12_costOf_10 rfl rfl ?_
      refine Tr.getf (pc := 11) d_X12_costOf_11 f_12_309 (by decide) (by decide) (ty_120 hS.1.1) ?_
      refine Tr.gen (P := fun v => 0 ≤ v ∧ v ≤ 2100) (ir_120_98 hS.1.2.1) (fun r11 er11 br11 => ?_)
      refine Tr.icmp_ge (pc := 14) (tgt := 158) d_X12_costOf_14 rfl (fun c14 => ?_) (fun c14 => ?_)
      · refine Tr.iconst (pc := 158) d_X12_costOf_158 (by decide) ?_
        refine Tr.istore (pc := 159) (i := 4) (ls2 := [(4, (0, 0)), (0, (2, 120)), (1, (0, a1)), (2, (0, a2)), (3, (0, p8_3))]) d_X12_costOf_159 (by decide) rfl ?_
        have J161 : ∀ (n161 : Nat) (M : Mem) (p161_4 : Int), St Tru ws_X12_costOf_120_w1 as_X12_costOf_120_w1 M0 M → (0 ≤ p161_4 ∧ p161_4 ≤ 2100) → rd M 120 97 = r3 → rd M 120 98 = r11 → (2100 - p161_4).toNat < n161 → Tr l K 3 mX12_costOf 161 [(0, (2, 120)), (1, (0, a1)), (2, (0, a2)), (4, (0, p161_4))] [] M (q_X12_costOf_120_w1 M0) := by
          intro n161
          induction n161 with
          | zero => intro M p161_4 hS bp161_4 k161_120_97 k161_120_98 hm161; exact absurd hm161 (Nat.not_lt_zero _)
          | succ n161 J161 =>
            intro M p161_4 hS bp161_4 k161_120_97 k161_120_98 hm161
            clear k8_120_97 er11
            refine Tr.iload (pc := 161) (i := 4) d_X12_costOf_161 rfl ?_
            refine Tr.aload_n (pc := 163) (i := 0) d_X12_costOf_163 rfl rfl ?_
            refine Tr.getf (pc := 164) d_X12_costOf_164 f_12_303 (by decide) (by decide) (ty_120 hS.1.1) ?_
            refine Tr.gen (P := fun v => 0 ≤ v ∧ v ≤ 2100) (ir_120_96 hS.1.2.1) (fun r164 er164 br164 => ?_)
            refine Tr.icmp_ge (pc := 167) (tgt := 283) d_X12_costOf_167 rfl (fun c167 => ?_) (fun c167 => ?_)
            · refine Tr.aload_n (pc := 283) (i := 0) d_X12_costOf_283 rfl rfl ?_
              refine Tr.iload_n (pc := 284) (i := 1) d_X12_costOf_284 rfl rfl ?_
              refine Tr.aload_n (pc := 285) (i := 0) d_X12_costOf_285 rfl rfl ?_
              refine Tr.getf (pc := 286) d_X12_costOf_286 f_12_306 (by decide) (by decide) (ty_120 hS.1.1) ?_
              refine Tr.tp r3 k161_120_97 ?_
              refine Tr.aload_n (pc := 289) (i := 0) d_X12_costOf_289 rfl rfl ?_
              refine Tr.getf (pc := 290) d_X12_costOf_290 f_12_309 (by decide) (by decide) (ty_120 hS.1.1) ?_
              refine Tr.tp r11 k161_120_98 ?_
              refine Tr.callV (pc := 293) (as := [_, _, _]) d_X12_costOf_293 s_12_665 ok_X12_rows rfl rfl (Nat.le_of_ble_eq_true rfl) (Nat.le_of_ble_eq_true rfl) (by decide) (ty_120 hS.1.1) ?_
              refine Tr.imp (Tr.deep (by decide) (sp_X12_rows_120_w1 hS.1 ((kp_X12_costOf_120_w1_120_12 hS).trans en_120_12) a1 (by and_intros <;> omega) r3 (by and_intros <;> omega) r11 (by and_intros <;> omega) (Bk1.of hF_Bk1 (fun j => (ka_X12_costOf_120_w1_131 hS _)) (fun j => (ka_X12_costOf_120_w1_137 hS _)) (fun j => (ka_X12_costOf_120_w1_138 hS _)) (fun j => (ka_X12_costOf_120_w1_139 hS _)) (fun j => (ka_X12_costOf_120_w1_140 hS _)) (fun j => (ka_X12_costOf_120_w1_141 hS _)) (fun j => (ka_X12_costOf_120_w1_142 hS _)) (fun j => (ka_X12_costOf_120_w1_143 hS _)) (kp_X12_costOf_120_w1_126_1 hS) (kp_X12_costOf_120_w1_136_1 hS) (kp_X12_costOf_120_w1_123_1 hS) (kp_X12_costOf_120_w1_124_1 hS)))) ?_
              rintro M293 _ ⟨h293, r293, rfl, lr293, ur293⟩
              have hS := St.tr hS h293 (by decide) (by decide)
              refine Tr.sc [(1, r293)] rfl ?_
              exact Tr.lret (pc := 296) d_X12_costOf_296 rfl ⟨hS, _, rfl, (by omega), (by omega)⟩
            · refine Tr.aload_n (pc := 170) (i := 0) d_X12_costOf_170 rfl rfl ?_
              refine Tr.getf (pc := 171) d_X12_costOf_171 f_12_255 (by decide) (by decide) (ty_120 hS.1.1) ?_
              refine Tr.tp 169 (fx_120_80 hS.1.1) ?_
              refine Tr.iload (pc := 174) (i := 4) d_X12_costOf_174 rfl ?_
              refine Tr.iald (pc := 176) d_X12_costOf_176 (ty_169 hS.1.1) (by omega) (by omega) ?_
              refine Tr.gen (P := fun v => 0 ≤ v ∧ v ≤ 5) (ar_169 hS.1.2.1 _) (fun r176 er176 br176 => ?_)
              refine Tr.iload_n (pc := 177) (i := 1) d_X12_costOf_177 rfl rfl ?_
              have J277 : ∀ (M : Mem), St Tru ws_X12_costOf_120_w1 as_X12_costOf_120_w1 M0 M → rd M 120 96 = r164 → rd M 120 97 = r3 → rd M 120 98 = r11 → rd M 169 p161_4 = r176 → Tr l K 3 mX12_costOf 277 [(0, (2, 120)), (1, (0, a1)), (2, (0, a2)), (4, (0, p161_4))] [] M (q_X12_costOf_120_w1 M0) := by
                intro M  hS  k277_120_96 k277_120_97 k277_120_98 k277_169_p161_410
                clear k161_120_97 k161_120_98 er164 er176
                refine Tr.iincV (pc := 277) (n2 := (p161_4 + 1)) (ls2 := [(4, (0, (p161_4 + 1))), (0, (2, 120)), (1, (0, a1)), (2, (0, a2))]) d_X12_costOf_277 rfl (by decide) ((w32_id (by and_intros <;> omega)).trans (by omega)) rfl ?_
                refine Tr.goto (pc := 280) (tgt := 161) d_X12_costOf_280 rfl ?_
                refine Tr.pick [1, 2, 3, 0] (ls2 := [(0, (2, 120)), (1, (0, a1)), (2, (0, a2)), (4, (0, (p161_4 + 1)))]) rfl ?_
                exact J161 _ _ hS (by and_intros <;> omega) k277_120_97 k277_120_98 (me_lt hm161 (by omega) (by omega))
              refine Tr.icmp_ne (pc := 178) (tgt := 277) d_X12_costOf_178 rfl (fun c178 => ?_) (fun c178 => ?_)
              · replace c178 := hd_i c178
                refine Tr.pick [0, 1, 2, 3] (ls2 := [(0, (2, 120)), (1, (0, a1)), (2, (0, a2)), (4, (0, p161_4))]) rfl ?_
                exact J277 _ hS er164 k161_120_97 k161_120_98 er176
              · refine Tr.aload_n (pc := 181) (i := 0) d_X12_costOf_181 rfl rfl ?_
                refine Tr.getf (pc := 182) d_X12_costOf_182 f_12_261 (by decide) (by decide) (ty_120 hS.1.1) ?_
                refine Tr.tp 171 (fx_120_82 hS.1.1) ?_
                refine Tr.iload (pc := 185) (i := 4) d_X12_costOf_185 rfl ?_
                refine Tr.iald (pc := 187) d_X12_costOf_187 (ty_171 hS.1.1) (by omega) (by omega) ?_
                refine Tr.gen (P := fun v => 0 ≤ v ∧ v ≤ 2060) (ar_171 hS.1.2.1 _) (fun r187 er187 br187 => ?_)
                refine Tr.aload_n (pc := 188) (i := 0) d_X12_costOf_188 rfl rfl ?_
                refine Tr.getf (pc := 189) d_X12_costOf_189 f_12_306 (by decide) (by decide) (ty_120 hS.1.1) ?_
                refine Tr.tp r3 k161_120_97 ?_
                refine Tr.icmp_lt (pc := 192) (tgt := 277) d_X12_costOf_192 rfl (fun c192 => ?_) (fun c192 => ?_)
                · refine Tr.pick [0, 1, 2, 3] (ls2 := [(0, (2, 120)), (1, (0, a1)), (2, (0, a2)), (4, (0, p161_4))]) rfl ?_
                  exact J277 _ hS er164 k161_120_97 k161_120_98 er176
                · refine Tr.aload_n (pc := 195) (i := 0) d_X12_costOf_195 rfl rfl ?_
                  refine Tr.getf (pc := 196) d_X12_costOf_196 f_12_261 (by decide) (by decide) (ty_120 hS.1.1) ?_
                  refine Tr.tp 171 (fx_120_82 hS.1.1) ?_
                  refine Tr.iload (pc := 199) (i := 4) d_X12_costOf_199 rfl ?_
                  refine Tr.iald (pc := 201) d_X12_costOf_201 (ty_171 hS.1.1) (by omega) (by omega) ?_
                  refine Tr.tp r187 er187 ?_
                  refine Tr.aload_n (pc := 202) (i := 0) d_X12_costOf_202 rfl rfl ?_
                  refine Tr.getf (pc := 203) d_X12_costOf_203 f_12_309 (by decide) (by decide) (ty_120 hS.1.1) ?_
                  refine Tr.tp r11 k161_120_98 ?_
                  refine Tr.icmp_ge (pc := 206) (tgt := 277) d_X12_costOf_206 rfl (fun c206 => ?_) (fun c206 => ?_)
                  · refine Tr.pick [0, 1, 2, 3] (ls2 := [(0, (2, 120)), (1, (0, a1)), (2, (0, a2)), (4, (0, p161_4))]) rfl ?_
                    exact J277 _ hS er164 k161_120_97 k161_120_98 er176
                  · refine Tr.aload_n (pc := 209) (i := 0) d_X12_costOf_209 rfl rfl ?_
                    refine Tr.aload_n (pc := 210) (i := 0) d_X12_costOf_210 rfl rfl ?_
                    refine Tr.getf (pc := 211) d_X12_costOf_211 f_12_258 (by decide) (by decide) (ty_120 hS.1.1) ?_
                    refine Tr.tp 170 (fx_120_81 hS.1.1) ?_
                    refine Tr.iload (pc := 214) (i := 4) d_X12_costOf_214 rfl ?_
                    refine Tr.iald (pc := 216) d_X12_costOf_216 (ty_170 hS.1.1) (by omega) (by omega) ?_
                    refine Tr.gen (P := fun v => (-1) ≤ v ∧ v ≤ 59) (ar_170 hS.1.2.1 _) (fun r216 er216 br216 => ?_)
                    refine Tr.iload_n (pc := 217) (i := 2) d_X12_costOf_217 rfl rfl ?_
                    refine Tr.callV (pc := 218) (as := [_, _]) d_X12_costOf_218 s_12_662 ok_X12_isAmong rfl rfl (Nat.le_of_ble_eq_true rfl) (Nat.le_of_ble_eq_true rfl) (by decide) (ty_120 hS.1.1) ?_
                    refine Tr.imp (Tr.deep (by decide) (sp_X12_isAmong_120 hS.1 r216 (by and_intros <;> omega) a2 (by and_intros <;> omega))) ?_
                    rintro M218 _ ⟨h218, r218, rfl, lr218, ur218⟩
                    have hS := St.tr hS h218 (by decide) (by decide)
                    refine Tr.sc [(0, r218)] rfl ?_
                    refine Tr.if_ne (pc := 221) (tgt := 227) d_X12_costOf_221 rfl (fun c221 => ?_) (fun c221 => ?_)
                    · have c221b : 1 ≤ r218 ∧ r218 ≤ 1 := by omega
                      replace c221 := hd_i c221
                      refine Tr.aload_n (pc := 227) (i := 0) d_X12_costOf_227 rfl rfl ?_
                      refine Tr.getf (pc := 228) d_X12_costOf_228 f_12_261 (by decide) (by decide) (ty_120 hS.1.1) ?_
                      refine Tr.tp 171 (fx_120_82 hS.1.1) ?_
                      refine Tr.iload (pc := 231) (i := 4) d_X12_costOf_231 rfl ?_
                      refine Tr.iald (pc := 233) d_X12_costOf_233 (ty_171 hS.1.1) (by omega) (by omega) ?_
                      refine Tr.tp r187 ((ka_X12_isAmong_120_171 h218 _).trans er187) ?_
                      refine Tr.istore (pc := 234) (i := 5) (ls2 := [(5, (0, r187)), (0, (2, 120)), (1, (0, a1)), (2, (0, a2)), (4, (0, p161_4))]) d_X12_costOf_234 (by decide) rfl ?_
                      have J236 : ∀ (n236 : Nat) (M : Mem) (p236_5 : Int), St Tru ws_X12_costOf_120_w1 as_X12_costOf_120_w1 M0 M → (0 ≤ p236_5 ∧ p236_5 ≤ 2100) → rd M 120 96 = r164 → rd M 120 97 = r3 → rd M 120 98 = r11 → rd M 169 p161_4 = r176 → rd M 170 p161_4 = r216 → rd M 171 p161_4 = r187 → (2100 - p236_5).toNat < n236 → Tr l K 3 mX12_costOf 236 [(0, (2, 120)), (1, (0, a1)), (2, (0, a2)), (4, (0, p161_4)), (5, (0, p236_5))] [] M (q_X12_costOf_120_w1 M0) := by
                        intro n236
                        induction n236 with
                        | zero => intro M p236_5 hS bp236_5 k236_120_96 k236_120_97 k236_120_98 k236_169_p161_410 k236_170_p161_410 k236_171_p161_410 hm236; exact absurd hm236 (Nat.not_lt_zero _)
                        | succ n236 J236 =>
                          intro M p236_5 hS bp236_5 k236_120_96 k236_120_97 k236_120_98 k236_169_p161_410 k236_170_p161_410 k236_171_p161_410 hm236
                          clear k161_120_97 k161_120_98 er164 er176 er187 er216
                          refine Tr.iload (pc := 236) (i := 5) d_X12_costOf_236 rfl ?_
                          refine Tr.aload_n (pc := 238) (i := 0) d_X12_costOf_238 rfl rfl ?_
                          refine Tr.getf (pc := 239) d_X12_costOf_239 f_12_261 (by decide) (by decide) (ty_120 hS.1.1) ?_
                          refine Tr.tp 171 (fx_120_82 hS.1.1) ?_
                          refine Tr.iload (pc := 242) (i := 4) d_X12_costOf_242 rfl ?_
                          refine Tr.iald (pc := 244) d_X12_costOf_244 (ty_171 hS.1.1) (by omega) (by omega) ?_
                          refine Tr.tp r187 k236_171_p161_410 ?_
                          refine Tr.aload_n (pc := 245) (i := 0) d_X12_costOf_245 rfl rfl ?_
                          refine Tr.iload_n (pc := 246) (i := 1) d_X12_costOf_246 rfl rfl ?_
                          refine Tr.callV (pc := 247) (as := [_]) d_X12_costOf_247 s_12_591 ok_X12_tails rfl rfl (Nat.le_of_ble_eq_true rfl) (Nat.le_of_ble_eq_true rfl) (by decide) (ty_120 hS.1.1) ?_
                          obtain ⟨w247_126_1, ew247_126_1⟩ : ∃ v, rd M 126 1 = v := ⟨_, rfl⟩
                          have bw247_126_1 : 0 ≤ w247_126_1 ∧ w247_126_1 ≤ 6 := by rw [← ew247_126_1]; exact ir_126_1 hS.1.2.1
                          refine Tr.imp (Tr.deep (by decide) (ns_X12_tails_120_w1 (G126_1 := w247_126_1) hS.1 (ew247_126_1) ((kp_X12_costOf_120_w1_120_12 hS).trans en_120_12) a1 (by and_intros <;> omega) (Bk1.of hF_Bk1 (fun j => (ka_X12_costOf_120_w1_131 hS _)) (fun j => (ka_X12_costOf_120_w1_137 hS _)) (fun j => (ka_X12_costOf_120_w1_138 hS _)) (fun j => (ka_X12_costOf_120_w1_139 hS _)) (fun j => (ka_X12_costOf_120_w1_140 hS _)) (fun j => (ka_X12_costOf_120_w1_141 hS _)) (fun j => (ka_X12_costOf_120_w1_142 hS _)) (fun j => (ka_X12_costOf_120_w1_143 hS _)) (kp_X12_costOf_120_w1_126_1 hS) (kp_X12_costOf_120_w1_136_1 hS) (kp_X12_costOf_120_w1_123_1 hS) (kp_X12_costOf_120_w1_124_1 hS)))) ?_
                          rintro M247 _ ⟨h247, r247, rfl, lr247, ur247, z247_0⟩
                          have hS := St.tr hS h247 (by decide) (by decide)
                          refine Tr.sc [(0, r247), (0, r187), (0, p236_5)] rfl ?_
                          refine Tr.iadd (pc := 250) d_X12_costOf_250 ?_
                          refine Tr.gen (P := fun v => (-2147483648) ≤ v ∧ v ≤ 2147483647) (w32_b _) (fun r250 er250 br250 => ?_)
                          refine Tr.icmp_ge (pc := 251) (tgt := 277) d_X12_costOf_251 rfl (fun c251 => ?_) (fun c251 => ?_)
                          · refine Tr.pick [0, 1, 2, 3] (ls2 := [(0, (2, 120)), (1, (0, a1)), (2, (0, a2)), (4, (0, p161_4))]) rfl ?_
                            exact J277 _ hS ((kp_X12_tails_120_w1_120_96 h247).trans k236_120_96) ((kp_X12_tails_120_w1_120_97 h247).trans k236_120_97) ((kp_X12_tails_120_w1_120_98 h247).trans k236_120_98) ((ka_X12_tails_120_w1_169 h247 _).trans k236_169_p161_410)
                          · refine Tr.iload (pc := 254) (i := 5) d_X12_costOf_254 rfl ?_
                            refine Tr.aload_n (pc := 256) (i := 0) d_X12_costOf_256 rfl rfl ?_
                            refine Tr.getf (pc := 257) d_X12_costOf_257 f_12_309 (by decide) (by decide) (ty_120 hS.1.1) ?_
                            refine Tr.tp r11 ((kp_X12_tails_120_w1_120_98 h247).trans k236_120_98) ?_
                            refine Tr.icmp_ge (pc := 260) (tgt := 277) d_X12_costOf_260 rfl (fun c260 => ?_) (fun c260 => ?_)
                            · refine Tr.pick [0, 1, 2, 3] (ls2 := [(0, (2, 120)), (1, (0, a1)), (2, (0, a2)), (4, (0, p161_4))]) rfl ?_
                              exact J277 _ hS ((kp_X12_tails_120_w1_120_96 h247).trans k236_120_96) ((kp_X12_tails_120_w1_120_97 h247).trans k236_120_97) ((kp_X12_tails_120_w1_120_98 h247).trans k236_120_98) ((ka_X12_tails_120_w1_169 h247 _).trans k236_169_p161_410)
                            · refine Tr.aload_n (pc := 263) (i := 0) d_X12_costOf_263 rfl rfl ?_
                              refine Tr.getf (pc := 264) d_X12_costOf_264 f_12_321 (by decide) (by decide) (ty_120 hS.1.1) ?_
                              refine Tr.tp 177 (fx_120_102 hS.1.1) ?_
                              refine Tr.iload (pc := 267) (i := 5) d_X12_costOf_267 rfl ?_
                              refine Tr.iconst (pc := 269) d_X12_costOf_269 (by decide) ?_
                              refine Tr.zastS (pc := 270) (P := St Tru ws_X12_costOf_120_w1 as_X12_costOf_120_w1 M0) d_X12_costOf_270 (ty_177 hS.1.1) (by omega) (by omega) (by omega) (sa_177 hS (by decide) (by omega) trivial) (fun M270 hS w270 => ?_)
                              refine Tr.iincV (pc := 271) (n2 := (p236_5 + 1)) (ls2 := [(5, (0, (p236_5 + 1))), (0, (2, 120)), (1, (0, a1)), (2, (0, a2)), (4, (0, p161_4))]) d_X12_costOf_271 rfl (by decide) ((w32_id (by and_intros <;> omega)).trans (by omega)) rfl ?_
                              refine Tr.goto (pc := 274) (tgt := 236) d_X12_costOf_274 rfl ?_
                              refine Tr.pick [1, 2, 3, 4, 0] (ls2 := [(0, (2, 120)), (1, (0, a1)), (2, (0, a2)), (4, (0, p161_4)), (5, (0, (p236_5 + 1)))]) rfl ?_
                              exact J236 _ _ hS (by and_intros <;> omega) ((Wr.b w270 rfl).trans ((kp_X12_tails_120_w1_120_96 h247).trans k236_120_96)) ((Wr.b w270 rfl).trans ((kp_X12_tails_120_w1_120_97 h247).trans k236_120_97)) ((Wr.b w270 rfl).trans ((kp_X12_tails_120_w1_120_98 h247).trans k236_120_98)) ((Wr.b w270 rfl).trans ((ka_X12_tails_120_w1_169 h247 _).trans k236_169_p161_410)) ((Wr.b w270 rfl).trans ((ka_X12_tails_120_w1_170 h247 _).trans k236_170_p161_410)) ((Wr.b w270 rfl).trans ((ka_X12_tails_120_w1_171 h247 _).trans k236_171_p161_410)) (me_lt hm236 (by omega) (by omega))
                      refine Tr.pick [1, 2, 3, 4, 0] (ls2 := [(0, (2, 120)), (1, (0, a1)), (2, (0, a2)), (4, (0, p161_4)), (5, (0, r187))]) rfl ?_
                      exact J236 _ _ _ hS (by and_intros <;> omega) ((kp_X12_isAmong_120_120_96 h218).trans er164) ((kp_X12_isAmong_120_120_97 h218).trans k161_120_97) ((kp_X12_isAmong_120_120_98 h218).trans k161_120_98) ((ka_X12_isAmong_120_169 h218 _).trans er176) ((ka_X12_isAmong_120_170 h218 _).trans er216) ((ka_X12_isAmong_120_171 h218 _).trans er187) (Nat.lt_succ_self _)
                    · refine Tr.goto (pc := 224) (tgt := 277) d_X12_costOf_224 rfl ?_
                      refine Tr.pick [0, 1, 2, 3] (ls2 := [(0, (2, 120)), (1, (0, a1)), (2, (0, a2)), (4, (0, p161_4))]) rfl ?_
                      exact J277 _ hS ((kp_X12_isAmong_120_120_96 h218).trans er164) ((kp_X12_isAmong_120_120_97 h218).trans k161_120_97) ((kp_X12_isAmong_120_120_98 h218).trans k161_120_98) ((ka_X12_isAmong_120_169 h218 _).trans er176)
        refine Tr.pick [1, 2, 3, 0] (ls2 := [(0, (2, 120)), (1, (0, a1)), (2, (0, a2)), (4, (0, 0))]) rfl ?_
        exact J161 _ _ _ hS (by omega) k8_120_97 er11 (Nat.lt_succ_self _)
      · refine Tr.aload_n (pc := 17) (i := 0) d_X12_costOf_17 rfl rfl ?_
        refine Tr.iload_n (pc := 18) (i := 1) d_X12_costOf_18 rfl rfl ?_
        refine Tr.iload (pc := 19) (i := 4) d_X12_costOf_19 rfl ?_
        refine Tr.callV (pc := 21) (as := [_, _]) d_X12_costOf_21 s_12_641 ok_X12_stateAt rfl rfl (Nat.le_of_ble_eq_true rfl) (Nat.le_of_ble_eq_true rfl) (by decide) (ty_120 hS.1.1) ?_
        refine Tr.imp (Tr.deep (by decide) (ns_X12_stateAt_120 hS.1 a1 (by and_intros <;> omega) p8_4 (by and_intros <;> omega))) ?_
        rintro M21 _ ⟨h21, r21, rfl, lr21, ur21, z21_0⟩
        have hS := St.tr hS h21 (by decide) (by decide)
        refine Tr.sc [(0, r21)] rfl ?_
        have qs21 : rd M 163 (2100 * a1 + p8_4) = r21 := (congrArg (rd M 163) (by omega)).trans z21_0.symm
        refine Tr.iconst (pc := 24) d_X12_costOf_24 (by decide) ?_
        have J92 : ∀ (M : Mem) (q92_0 : Int), St Tru ws_X12_costOf_120_w1 as_X12_costOf_120_w1 M0 M → (0 ≤ q92_0 ∧ q92_0 ≤ 1) → rd M 120 97 = r3 → rd M 120 98 = r11 → rd M 163 (2100 * a1 + p8_4) = r21 → Tr l K 3 mX12_costOf 92 [(0, (2, 120)), (1, (0, a1)), (2, (0, a2)), (3, (0, p8_3)), (4, (0, p8_4))] [(0, q92_0)] M (q_X12_costOf_120_w1 M0) := by
          intro M q92_0 hS bq92_0 k92_120_97 k92_120_98 k92_163_a12100p8_410
          clear k8_120_97 er11
          refine Tr.istore (pc := 92) (i := 5) (ls2 := [(5, (0, q92_0)), (0, (2, 120)), (1, (0, a1)), (2, (0, a2)), (3, (0, p8_3)), (4, (0, p8_4))]) d_X12_costOf_92 (by decide) rfl ?_
          refine Tr.iload_n (pc := 94) (i := 3) d_X12_costOf_94 rfl rfl ?_
          have J103 : ∀ (M : Mem) (q103_0 : Int), St Tru ws_X12_costOf_120_w1 as_X12_costOf_120_w1 M0 M → (0 ≤ q103_0 ∧ q103_0 ≤ 1) → rd M 120 97 = r3 → rd M 120 98 = r11 → rd M 163 (2100 * a1 + p8_4) = r21 → Tr l K 3 mX12_costOf 103 [(0, (2, 120)), (1, (0, a1)), (2, (0, a2)), (3, (0, p8_3)), (4, (0, p8_4)), (5, (0, q92_0))] [(0, q103_0)] M (q_X12_costOf_120_w1 M0) := by
            intro M q103_0 hS bq103_0 k103_120_97 k103_120_98 k103_163_a12100p8_410
            clear k92_120_97 k92_120_98 k92_163_a12100p8_410
            refine Tr.istore (pc := 103) (i := 6) (ls2 := [(6, (0, q103_0)), (0, (2, 120)), (1, (0, a1)), (2, (0, a2)), (3, (0, p8_3)), (4, (0, p8_4)), (5, (0, q92_0))]) d_X12_costOf_103 (by decide) rfl ?_
            refine Tr.iload (pc := 105) (i := 5) d_X12_costOf_105 rfl ?_
            have J129 : ∀ (M : Mem) (q129_0 : Int), St Tru ws_X12_costOf_120_w1 as_X12_costOf_120_w1 M0 M → ((-2147483648) ≤ q129_0 ∧ q129_0 ≤ 2147483647) → rd M 120 97 = r3 → rd M 120 98 = r11 → rd M 163 (2100 * a1 + p8_4) = r21 → Tr l K 3 mX12_costOf 129 [(0, (2, 120)), (1, (0, a1)), (2, (0, a2)), (4, (0, p8_4)), (5, (0, q92_0)), (6, (0, q103_0))] [(0, q129_0)] M (q_X12_costOf_120_w1 M0) := by
              intro M q129_0 hS bq129_0 k129_120_97 k129_120_98 k129_163_a12100p8_410
              clear k103_120_97 k103_120_98 k103_163_a12100p8_410
              refine Tr.istore_n (pc := 129) (i := 3) (ls2 := [(3, (0, q129_0)), (0, (2, 120)), (1, (0, a1)), (2, (0, a2)), (4, (0, p8_4)), (5, (0, q92_0)), (6, (0, q103_0))]) d_X12_costOf_129 rfl (by decide) rfl ?_
              refine Tr.aload_n (pc := 130) (i := 0) d_X12_costOf_130 rfl rfl ?_
              refine Tr.getf (pc := 131) d_X12_costOf_131 f_12_321 (by decide) (by decide) (ty_120 hS.1.1) ?_
              refine Tr.tp 177 (fx_120_102 hS.1.1) ?_
              refine Tr.iload (pc := 134) (i := 4) d_X12_costOf_134 rfl ?_
              refine Tr.iload (pc := 136) (i := 5) d_X12_costOf_136 rfl ?_
              have J151 : ∀ (M : Mem) (q151_2 : Int), St Tru ws_X12_costOf_120_w1 as_X12_costOf_120_w1 M0 M → (0 ≤ q151_2 ∧ q151_2 ≤ 1) → rd M 120 97 = r3 → rd M 120 98 = r11 → rd M 163 (2100 * a1 + p8_4) = r21 → Tr l K 3 mX12_costOf 151 [(0, (2, 120)), (1, (0, a1)), (2, (0, a2)), (3, (0, q129_0)), (4, (0, p8_4))] [(0, q151_2), (0, p8_4), (2, 177)] M (q_X12_costOf_120_w1 M0) := by
                intro M q151_2 hS bq151_2 k151_120_97 k151_120_98 k151_163_a12100p8_410
                clear k129_120_97 k129_120_98 k129_163_a12100p8_410
                refine Tr.zastS (pc := 151) (P := St Tru ws_X12_costOf_120_w1 as_X12_costOf_120_w1 M0) d_X12_costOf_151 (ty_177 hS.1.1) (by omega) (by omega) (by omega) (sa_177 hS (by decide) (by and_intros <;> omega) trivial) (fun M151 hS w151 => ?_)
                refine Tr.iincV (pc := 152) (n2 := (p8_4 + 1)) (ls2 := [(4, (0, (p8_4 + 1))), (0, (2, 120)), (1, (0, a1)), (2, (0, a2)), (3, (0, q129_0))]) d_X12_costOf_152 rfl (by decide) ((w32_id (by and_intros <;> omega)).trans (by omega)) rfl ?_
                refine Tr.goto (pc := 155) (tgt := 8) d_X12_costOf_155 rfl ?_
                refine Tr.pick [1, 2, 3, 4, 0] (ls2 := [(0, (2, 120)), (1, (0, a1)), (2, (0, a2)), (3, (0, q129_0)), (4, (0, (p8_4 + 1)))]) rfl ?_
                exact J8 _ _ _ hS (by and_intros <;> omega) (by and_intros <;> omega) ((Wr.b w151 rfl).trans k151_120_97) (me_lt hm8 (by omega) (by omega))
              have J146 : ∀ (M : Mem), St Tru ws_X12_costOf_120_w1 as_X12_costOf_120_w1 M0 M → rd M 120 97 = r3 → rd M 120 98 = r11 → rd M 163 (2100 * a1 + p8_4) = r21 → Tr l K 3 mX12_costOf 146 [(0, (2, 120)), (1, (0, a1)), (2, (0, a2)), (3, (0, q129_0)), (4, (0, p8_4))] [(0, p8_4), (2, 177)] M (q_X12_costOf_120_w1 M0) := by
                intro M  hS  k146_120_97 k146_120_98 k146_163_a12100p8_410
                clear k129_120_97 k129_120_98 k129_163_a12100p8_410
                refine Tr.iconst (pc := 146) d_X12_costOf_146 (by decide) ?_
                refine Tr.goto (pc := 147) (tgt := 151) d_X12_costOf_147 rfl ?_
                refine Tr.pick [0, 1, 2, 3, 4] (ls2 := [(0, (2, 120)), (1, (0, a1)), (2, (0, a2)), (3, (0, q129_0)), (4, (0, p8_4))]) rfl ?_
                exact J151 _ _ hS (by omega) k146_120_97 k146_120_98 k146_163_a12100p8_410
              refine Tr.if_ne (pc := 138) (tgt := 146) d_X12_costOf_138 rfl (fun c138 => ?_) (fun c138 => ?_)
              · have c138b : 1 ≤ q92_0 ∧ q92_0 ≤ 1 := by omega
                replace c138 := hd_i c138
                refine Tr.pick [1, 2, 3, 0, 4] (ls2 := [(0, (2, 120)), (1, (0, a1)), (2, (0, a2)), (3, (0, q129_0)), (4, (0, p8_4))]) rfl ?_
                exact J146 _ hS k129_120_97 k129_120_98 k129_163_a12100p8_410
              · refine Tr.iload (pc := 141) (i := 6) d_X12_costOf_141 rfl ?_
                refine Tr.if_eq (pc := 143) (tgt := 150) d_X12_costOf_143 rfl (fun c143 => ?_) (fun c143 => ?_)
                · refine Tr.iconst (pc := 150) d_X12_costOf_150 (by decide) ?_
                  refine Tr.pick [1, 2, 3, 0, 4] (ls2 := [(0, (2, 120)), (1, (0, a1)), (2, (0, a2)), (3, (0, q129_0)), (4, (0, p8_4))]) rfl ?_
                  exact J151 _ _ hS (by omega) k129_120_97 k129_120_98 k129_163_a12100p8_410
                · have c143b : 1 ≤ q103_0 ∧ q103_0 ≤ 1 := by omega
                  replace c143 := hd_i c143
                  refine Tr.pick [1, 2, 3, 0, 4] (ls2 := [(0, (2, 120)), (1, (0, a1)), (2, (0, a2)), (3, (0, q129_0)), (4, (0, p8_4))]) rfl ?_
                  exact J146 _ hS k129_120_97 k129_120_98 k129_163_a12100p8_410
            refine Tr.if_eq (pc := 107) (tgt := 118) d_X12_costOf_107 rfl (fun c107 => ?_) (fun c107 => ?_)
            · refine Tr.iload_n (pc := 118) (i := 3) d_X12_costOf_118 rfl rfl ?_
              refine Tr.if_le (pc := 119) (tgt := 128) d_X12_costOf_119 rfl (fun c119 => ?_) (fun c119 => ?_)
              · refine Tr.iconst (pc := 128) d_X12_costOf_128 (by decide) ?_
                refine Tr.pick [1, 2, 3, 5, 6, 0] (ls2 := [(0, (2, 120)), (1, (0, a1)), (2, (0, a2)), (4, (0, p8_4)), (5, (0, q92_0)), (6, (0, q103_0))]) rfl ?_
                exact J129 _ _ hS (by omega) k103_120_97 k103_120_98 k103_163_a12100p8_410
              · refine Tr.iload_n (pc := 122) (i := 3) d_X12_costOf_122 rfl rfl ?_
                refine Tr.iconst (pc := 123) d_X12_costOf_123 (by decide) ?_
                refine Tr.isub (pc := 124) d_X12_costOf_124 ?_
                refine Tr.tp (p8_3 - 1) ((w32_id (by and_intros <;> omega)).trans (by omega)) ?_
                refine Tr.goto (pc := 125) (tgt := 129) d_X12_costOf_125 rfl ?_
                refine Tr.pick [1, 2, 3, 5, 6, 0] (ls2 := [(0, (2, 120)), (1, (0, a1)), (2, (0, a2)), (4, (0, p8_4)), (5, (0, q92_0)), (6, (0, q103_0))]) rfl ?_
                exact J129 _ _ hS (by and_intros <;> omega) k103_120_97 k103_120_98 k103_163_a12100p8_410
            · have c107b : 1 ≤ q92_0 ∧ q92_0 ≤ 1 := by omega
              replace c107 := hd_i c107
              refine Tr.aload_n (pc := 110) (i := 0) d_X12_costOf_110 rfl rfl ?_
              refine Tr.iload_n (pc := 111) (i := 1) d_X12_costOf_111 rfl rfl ?_
              refine Tr.callV (pc := 112) (as := [_]) d_X12_costOf_112 s_12_591 ok_X12_tails rfl rfl (Nat.le_of_ble_eq_true rfl) (Nat.le_of_ble_eq_true rfl) (by decide) (ty_120 hS.1.1) ?_
              obtain ⟨w112_126_1, ew112_126_1⟩ : ∃ v, rd M 126 1 = v := ⟨_, rfl⟩
              have bw112_126_1 : 0 ≤ w112_126_1 ∧ w112_126_1 ≤ 6 := by rw [← ew112_126_1]; exact ir_126_1 hS.1.2.1
              refine Tr.imp (Tr.deep (by decide) (ns_X12_tails_120_w1 (G126_1 := w112_126_1) hS.1 (ew112_126_1) ((kp_X12_costOf_120_w1_120_12 hS).trans en_120_12) a1 (by and_intros <;> omega) (Bk1.of hF_Bk1 (fun j => (ka_X12_costOf_120_w1_131 hS _)) (fun j => (ka_X12_costOf_120_w1_137 hS _)) (fun j => (ka_X12_costOf_120_w1_138 hS _)) (fun j => (ka_X12_costOf_120_w1_139 hS _)) (fun j => (ka_X12_costOf_120_w1_140 hS _)) (fun j => (ka_X12_costOf_120_w1_141 hS _)) (fun j => (ka_X12_costOf_120_w1_142 hS _)) (fun j => (ka_X12_costOf_120_w1_143 hS _)) (kp_X12_costOf_120_w1_126_1 hS) (kp_X12_costOf_120_w1_136_1 hS) (kp_X12_costOf_120_w1_123_1 hS) (kp_X12_costOf_120_w1_124_1 hS)))) ?_
              rintro M112 _ ⟨h112, r112, rfl, lr112, ur112, z112_0⟩
              have hS := St.tr hS h112 (by decide) (by decide)
              refine Tr.sc [(0, r112)] rfl ?_
              refine Tr.goto (pc := 115) (tgt := 129) d_X12_costOf_115 rfl ?_
              refine Tr.pick [1, 2, 3, 5, 6, 0] (ls2 := [(0, (2, 120)), (1, (0, a1)), (2, (0, a2)), (4, (0, p8_4)), (5, (0, q92_0)), (6, (0, q103_0))]) rfl ?_
              exact J129 _ _ hS (by and_intros <;> omega) ((kp_X12_tails_120_w1_120_97 h112).trans k103_120_97) ((kp_X12_tails_120_w1_120_98 h112).trans k103_120_98) ((ka_X12_tails_120_w1_163 h112 _).trans k103_163_a12100p8_410)
          refine Tr.if_le (pc := 95) (tgt := 102) d_X12_costOf_95 rfl (fun c95 => ?_) (fun c95 => ?_)
          · refine Tr.iconst (pc := 102) d_X12_costOf_102 (by decide) ?_
            refine Tr.pick [1, 2, 3, 4, 5, 0] (ls2 := [(0, (2, 120)), (1, (0, a1)), (2, (0, a2)), (3, (0, p8_3)), (4, (0, p8_4)), (5, (0, q92_0))]) rfl ?_
            exact J103 _ _ hS (by omega) k92_120_97 k92_120_98 k92_163_a12100p8_410
          · refine Tr.iconst (pc := 98) d_X12_costOf_98 (by decide) ?_
            refine Tr.goto (pc := 99) (tgt := 103) d_X12_costOf_99 rfl ?_
            refine Tr.pick [1, 2, 3, 4, 5, 0] (ls2 := [(0, (2, 120)), (1, (0, a1)), (2, (0, a2)), (3, (0, p8_3)), (4, (0, p8_4)), (5, (0, q92_0))]) rfl ?_
            exact J103 _ _ hS (by omega) k92_120_97 k92_120_98 k92_163_a12100p8_410
        have J87 : ∀ (M : Mem), St Tru ws_X12_costOf_120_w1 as_X12_costOf_120_w1 M0 M → rd M 120 97 = r3 → rd M 120 98 = r11 → rd M 163 (2100 * a1 + p8_4) = r21 → Tr l K 3 mX12_costOf 87 [(0, (2, 120)), (1, (0, a1)), (2, (0, a2)), (3, (0, p8_3)), (4, (0, p8_4))] [] M (q_X12_costOf_120_w1 M0) := by
          intro M  hS  k87_120_97 k87_120_98 k87_163_a12100p8_410
          clear k8_120_97 er11
          refine Tr.iconst (pc := 87) d_X12_costOf_87 (by decide) ?_
          refine Tr.goto (pc := 88) (tgt := 92) d_X12_costOf_88 rfl ?_
          refine Tr.pick [0, 1, 2, 3, 4] (ls2 := [(0, (2, 120)), (1, (0, a1)), (2, (0, a2)), (3, (0, p8_3)), (4, (0, p8_4))]) rfl ?_
          exact J92 _ _ hS (by omega) k87_120_97 k87_120_98 k87_163_a12100p8_410
        have J49 : ∀ (M : Mem), St Tru ws_X12_costOf_120_w1 as_X12_costOf_120_w1 M0 M → rd M 120 97 = r3 → rd M 120 98 = r11 → rd M 163 (2100 * a1 + p8_4) = r21 → Tr l K 3 mX12_costOf 49 [(0, (2, 120)), (1, (0, a1)), (2, (0, a2)), (3, (0, p8_3)), (4, (0, p8_4))] [] M (q_X12_costOf_120_w1 M0) := by
          intro M  hS  k49_120_97 k49_120_98 k49_163_a12100p8_410
          clear k8_120_97 er11
          refine Tr.aload_n (pc := 49) (i := 0) d_X12_costOf_49 rfl rfl ?_
          refine Tr.getf (pc := 50) d_X12_costOf_50 f_12_237 (by decide) (by decide) (ty_120 hS.1.1) ?_
          refine Tr.tp 165 (fx_120_74 hS.1.1) ?_
          refine Tr.sipush (pc := 53) d_X12_costOf_53 rfl (by decide) ?_
          refine Tr.iload_n (pc := 56) (i := 1) d_X12_costOf_56 rfl rfl ?_
          refine Tr.imul (pc := 57) d_X12_costOf_57 ?_
          refine Tr.tp (2100 * a1) ((w32_id (by and_intros <;> omega)).trans (by omega)) ?_
          refine Tr.iload (pc := 58) (i := 4) d_X12_costOf_58 rfl ?_
          refine Tr.iadd (pc := 60) d_X12_costOf_60 ?_
          refine Tr.tp (2100 * a1 + p8_4) ((w32_id (by and_intros <;> omega)).trans (by omega)) ?_
          refine Tr.iald (pc := 61) d_X12_costOf_61 (ty_165 hS.1.1) (by omega) (by omega) ?_
          refine Tr.gen (P := fun v => (-1) ≤ v ∧ v ≤ 59) (ar_165 hS.1.2.1 _) (fun r61 er61 br61 => ?_)
          refine Tr.iconst (pc := 62) d_X12_costOf_62 (by decide) ?_
          have J91 : ∀ (M : Mem), St Tru ws_X12_costOf_120_w1 as_X12_costOf_120_w1 M0 M → rd M 120 97 = r3 → rd M 120 98 = r11 → rd M 163 (2100 * a1 + p8_4) = r21 → rd M 165 (2100 * a1 + p8_4) = r61 → Tr l K 3 mX12_costOf 91 [(0, (2, 120)), (1, (0, a1)), (2, (0, a2)), (3, (0, p8_3)), (4, (0, p8_4))] [] M (q_X12_costOf_120_w1 M0) := by
            intro M  hS  k91_120_97 k91_120_98 k91_163_a12100p8_410 k91_165_a12100p8_410
            clear k49_120_97 k49_120_98 k49_163_a12100p8_410 er61
            refine Tr.iconst (pc := 91) d_X12_costOf_91 (by decide) ?_
            refine Tr.pick [0, 1, 2, 3, 4] (ls2 := [(0, (2, 120)), (1, (0, a1)), (2, (0, a2)), (3, (0, p8_3)), (4, (0, p8_4))]) rfl ?_
            exact J92 _ _ hS (by omega) k91_120_97 k91_120_98 k91_163_a12100p8_410
          refine Tr.icmp_eq (pc := 63) (tgt := 91) d_X12_costOf_63 rfl (fun c63 => ?_) (fun c63 => ?_)
          · refine Tr.pick [0, 1, 2, 3, 4] (ls2 := [(0, (2, 120)), (1, (0, a1)), (2, (0, a2)), (3, (0, p8_3)), (4, (0, p8_4))]) rfl ?_
            exact J91 _ hS k49_120_97 k49_120_98 k49_163_a12100p8_410 er61
          · have c63b : 0 ≤ r61 ∧ r61 ≤ 59 := by omega
            replace c63 := hd_i c63
            refine Tr.aload_n (pc := 66) (i := 0) d_X12_costOf_66 rfl rfl ?_
            refine Tr.aload_n (pc := 67) (i := 0) d_X12_costOf_67 rfl rfl ?_
            refine Tr.getf (pc := 68) d_X12_costOf_68 f_12_237 (by decide) (by decide) (ty_120 hS.1.1) ?_
            refine Tr.tp 165 (fx_120_74 hS.1.1) ?_
            refine Tr.sipush (pc := 71) d_X12_costOf_71 rfl (by decide) ?_
            refine Tr.iload_n (pc := 74) (i := 1) d_X12_costOf_74 rfl rfl ?_
            refine Tr.imul (pc := 75) d_X12_costOf_75 ?_
            refine Tr.tp (2100 * a1) ((w32_id (by and_intros <;> omega)).trans (by omega)) ?_
            refine Tr.iload (pc := 76) (i := 4) d_X12_costOf_76 rfl ?_
            refine Tr.iadd (pc := 78) d_X12_costOf_78 ?_
            refine Tr.tp (2100 * a1 + p8_4) ((w32_id (by and_intros <;> omega)).trans (by omega)) ?_
            refine Tr.iald (pc := 79) d_X12_costOf_79 (ty_165 hS.1.1) (by omega) (by omega) ?_
            refine Tr.tp r61 er61 ?_
            refine Tr.iload_n (pc := 80) (i := 2) d_X12_costOf_80 rfl rfl ?_
            refine Tr.callV (pc := 81) (as := [_, _]) d_X12_costOf_81 s_12_662 ok_X12_isAmong rfl rfl (Nat.le_of_ble_eq_true rfl) (Nat.le_of_ble_eq_true rfl) (by decide) (ty_120 hS.1.1) ?_
            refine Tr.imp (Tr.deep (by decide) (sp_X12_isAmong_120 hS.1 r61 (by and_intros <;> omega) a2 (by and_intros <;> omega))) ?_
            rintro M81 _ ⟨h81, r81, rfl, lr81, ur81⟩
            have hS := St.tr hS h81 (by decide) (by decide)
            refine Tr.sc [(0, r81)] rfl ?_
            refine Tr.if_eq (pc := 84) (tgt := 91) d_X12_costOf_84 rfl (fun c84 => ?_) (fun c84 => ?_)
            · refine Tr.pick [0, 1, 2, 3, 4] (ls2 := [(0, (2, 120)), (1, (0, a1)), (2, (0, a2)), (3, (0, p8_3)), (4, (0, p8_4))]) rfl ?_
              exact J91 _ hS ((kp_X12_isAmong_120_120_97 h81).trans k49_120_97) ((kp_X12_isAmong_120_120_98 h81).trans k49_120_98) ((ka_X12_isAmong_120_163 h81 _).trans k49_163_a12100p8_410) ((ka_X12_isAmong_120_165 h81 _).trans er61)
            · have c84b : 1 ≤ r81 ∧ r81 ≤ 1 := by omega
              replace c84 := hd_i c84
              refine Tr.pick [0, 1, 2, 3, 4] (ls2 := [(0, (2, 120)), (1, (0, a1)), (2, (0, a2)), (3, (0, p8_3)), (4, (0, p8_4))]) rfl ?_
              exact J87 _ hS ((kp_X12_isAmong_120_120_97 h81).trans k49_120_97) ((kp_X12_isAmong_120_120_98 h81).trans k49_120_98) ((ka_X12_isAmong_120_163 h81 _).trans k49_163_a12100p8_410)
        refine Tr.icmp_ne (pc := 25) (tgt := 49) d_X12_costOf_25 rfl (fun c25 => ?_) (fun c25 => ?_)
        · have c25b : 0 ≤ r21 ∧ r21 ≤ 2 := by omega
          replace c25 := hd_i c25
          refine Tr.pick [0, 1, 2, 3, 4] (ls2 := [(0, (2, 120)), (1, (0, a1)), (2, (0, a2)), (3, (0, p8_3)), (4, (0, p8_4))]) rfl ?_
          exact J49 _ hS ((kp_X12_stateAt_120_120_97 h21).trans k8_120_97) ((kp_X12_stateAt_120_120_98 h21).trans er11) ((ka_X12_stateAt_120_163 h21 _).trans qs21)
        · refine Tr.aload_n (pc := 28) (i := 0) d_X12_costOf_28 rfl rfl ?_
          refine Tr.aload_n (pc := 29) (i := 0) d_X12_costOf_29 rfl rfl ?_
          refine Tr.getf (pc := 30) d_X12_costOf_30 f_12_234 (by decide) (by decide) (ty_120 hS.1.1) ?_
          refine Tr.tp 164 (fx_120_73 hS.1.1) ?_
          refine Tr.sipush (pc := 33) d_X12_costOf_33 rfl (by decide) ?_
          refine Tr.iload_n (pc := 36) (i := 1) d_X12_costOf_36 rfl rfl ?_
          refine Tr.imul (pc := 37) d_X12_costOf_37 ?_
          refine Tr.tp (2100 * a1) ((w32_id (by and_intros <;> omega)).trans (by omega)) ?_
          refine Tr.iload (pc := 38) (i := 4) d_X12_costOf_38 rfl ?_
          refine Tr.iadd (pc := 40) d_X12_costOf_40 ?_
          refine Tr.tp (2100 * a1 + p8_4) ((w32_id (by and_intros <;> omega)).trans (by omega)) ?_
          refine Tr.iald (pc := 41) d_X12_costOf_41 (ty_164 hS.1.1) (by omega) (by omega) ?_
          refine Tr.gen (P := fun v => (-1) ≤ v ∧ v ≤ 59) (ar_164 hS.1.2.1 _) (fun r41 er41 br41 => ?_)
          refine Tr.iload_n (pc := 42) (i := 2) d_X12_costOf_42 rfl rfl ?_
          refine Tr.callV (pc := 43) (as := [_, _]) d_X12_costOf_43 s_12_662 ok_X12_isAmong rfl rfl (Nat.le_of_ble_eq_true rfl) (Nat.le_of_ble_eq_true rfl) (by decide) (ty_120 hS.1.1) ?_
          refine Tr.imp (Tr.deep (by decide) (sp_X12_isAmong_120 hS.1 r41 (by and_intros <;> omega) a2 (by and_intros <;> omega))) ?_
          rintro M43 _ ⟨h43, r43, rfl, lr43, ur43⟩
          have hS := St.tr hS h43 (by decide) (by decide)
          refine Tr.sc [(0, r43)] rfl ?_
          refine Tr.if_ne (pc := 46) (tgt := 87) d_X12_costOf_46 rfl (fun c46 => ?_) (fun c46 => ?_)
          · have c46b : 1 ≤ r43 ∧ r43 ≤ 1 := by omega
            replace c46 := hd_i c46
            refine Tr.pick [0, 1, 2, 3, 4] (ls2 := [(0, (2, 120)), (1, (0, a1)), (2, (0, a2)), (3, (0, p8_3)), (4, (0, p8_4))]) rfl ?_
            exact J87 _ hS ((kp_X12_isAmong_120_120_97 h43).trans ((kp_X12_stateAt_120_120_97 h21).trans k8_120_97)) ((kp_X12_isAmong_120_120_98 h43).trans ((kp_X12_stateAt_120_120_98 h21).trans er11)) ((ka_X12_isAmong_120_163 h43 _).trans ((ka_X12_stateAt_120_163 h21 _).trans qs21))
          · refine Tr.pick [0, 1, 2, 3, 4] (ls2 := [(0, (2, 120)), (1, (0, a1)), (2, (0, a2)), (3, (0, p8_3)), (4, (0, p8_4))]) rfl ?_
            exact J49 _ hS ((kp_X12_isAmong_120_120_97 h43).trans ((kp_X12_stateAt_120_120_97 h21).trans k8_120_97)) ((kp_X12_isAmong_120_120_98 h43).trans ((kp_X12_stateAt_120_120_98 h21).trans er11)) ((ka_X12_isAmong_120_163 h43 _).trans ((ka_X12_stateAt_120_163 h21 _).trans qs21))
  refine Tr.pick [2, 3, 4, 1, 0] (ls2 := [(0, (2, 120)), (1, (0, a1)), (2, (0, a2)), (3, (0, 0)), (4, (0, r3))]) rfl ?_
  exact J8 _ _ _ _ hS (by omega) (by and_intros <;> omega) er3 (Nat.lt_succ_self _)

def ws_X12_byTurns_120_w1 : List (Int × Int) := [(120, 97), (120, 98), (120, 99), (120, 101)]
def as_X12_byTurns_120_w1 : List Int := [176, 177, 178]
def q_X12_byTurns_120_w1 (M0 M' : Mem) (r : Option PV) : Prop := St Tru ws_X12_byTurns_120_w1 as_X12_byTurns_120_w1 M0 M' ∧ ∃ v : Int, r = some (1, v) ∧ (-9223372036854775808) ≤ v ∧ v ≤ 9223372036854775807
theorem kp_X12_byTurns_120_w1_120_12 {q : Mem → Prop} {M0 M : Mem} (h : St q ws_X12_byTurns_120_w1 as_X12_byTurns_120_w1 M0 M) : rd M 120 12 = rd M0 120 12 := St.kp h (by decide) (by decide) (by decide)
theorem kp_X12_bitsOf_126_1 {q : Mem → Prop} {M0 M : Mem} (h : St q ws_X12_bitsOf as_X12_bitsOf M0 M) : rd M 126 1 = rd M0 126 1 := St.kp h (by decide) (by decide) (by decide)
theorem kp_X12_orders_126_1 {q : Mem → Prop} {M0 M : Mem} (h : St q ws_X12_orders as_X12_orders M0 M) : rd M 126 1 = rd M0 126 1 := St.kp h (by decide) (by decide) (by decide)
theorem kp_X12_bitsOf_129_1 {q : Mem → Prop} {M0 M : Mem} (h : St q ws_X12_bitsOf as_X12_bitsOf M0 M) : rd M 129 1 = rd M0 129 1 := St.kp h (by decide) (by decide) (by decide)
theorem kp_X12_orders_129_1 {q : Mem → Prop} {M0 M : Mem} (h : St q ws_X12_orders as_X12_orders M0 M) : rd M 129 1 = rd M0 129 1 := St.kp h (by decide) (by decide) (by decide)
theorem ka_X12_byTurns_120_w1_131 {q : Mem → Prop} {M0 M : Mem} (h : St q ws_X12_byTurns_120_w1 as_X12_byTurns_120_w1 M0 M) (j : Int) : rd M 131 j = rd M0 131 j := St.ka h (by decide) (by decide) (by decide)
theorem ka_X12_byTurns_120_w1_137 {q : Mem → Prop} {M0 M : Mem} (h : St q ws_X12_byTurns_120_w1 as_X12_byTurns_120_w1 M0 M) (j : Int) : rd M 137 j = rd M0 137 j := St.ka h (by decide) (by decide) (by decide)
theorem ka_X12_byTurns_120_w1_138 {q : Mem → Prop} {M0 M : Mem} (h : St q ws_X12_byTurns_120_w1 as_X12_byTurns_120_w1 M0 M) (j : Int) : rd M 138 j = rd M0 138 j := St.ka h (by decide) (by decide) (by decide)
theorem ka_X12_byTurns_120_w1_139 {q : Mem → Prop} {M0 M : Mem} (h : St q ws_X12_byTurns_120_w1 as_X12_byTurns_120_w1 M0 M) (j : Int) : rd M 139 j = rd M0 139 j := St.ka h (by decide) (by decide) (by decide)
theorem ka_X12_byTurns_120_w1_140 {q : Mem → Prop} {M0 M : Mem} (h : St q ws_X12_byTurns_120_w1 as_X12_byTurns_120_w1 M0 M) (j : Int) : rd M 140 j = rd M0 140 j := St.ka h (by decide) (by decide) (by decide)
theorem ka_X12_byTurns_120_w1_141 {q : Mem → Prop} {M0 M : Mem} (h : St q ws_X12_byTurns_120_w1 as_X12_byTurns_120_w1 M0 M) (j : Int) : rd M 141 j = rd M0 141 j := St.ka h (by decide) (by decide) (by decide)
theorem ka_X12_byTurns_120_w1_142 {q : Mem → Prop} {M0 M : Mem} (h : St q ws_X12_byTurns_120_w1 as_X12_byTurns_120_w1 M0 M) (j : Int) : rd M 142 j = rd M0 142 j := St.ka h (by decide) (by decide) (by decide)
theorem ka_X12_byTurns_120_w1_143 {q : Mem → Prop} {M0 M : Mem} (h : St q ws_X12_byTurns_120_w1 as_X12_byTurns_120_w1 M0 M) (j : Int) : rd M 143 j = rd M0 143 j := St.ka h (by decide) (by decide) (by decide)
theorem kp_X12_byTurns_120_w1_126_1 {q : Mem → Prop} {M0 M : Mem} (h : St q ws_X12_byTurns_120_w1 as_X12_byTurns_120_w1 M0 M) : rd M 126 1 = rd M0 126 1 := St.kp h (by decide) (by decide) (by decide)
theorem kp_X12_byTurns_120_w1_136_1 {q : Mem → Prop} {M0 M : Mem} (h : St q ws_X12_byTurns_120_w1 as_X12_byTurns_120_w1 M0 M) : rd M 136 1 = rd M0 136 1 := St.kp h (by decide) (by decide) (by decide)
theorem kp_X12_byTurns_120_w1_123_1 {q : Mem → Prop} {M0 M : Mem} (h : St q ws_X12_byTurns_120_w1 as_X12_byTurns_120_w1 M0 M) : rd M 123 1 = rd M0 123 1 := St.kp h (by decide) (by decide) (by decide)
theorem kp_X12_byTurns_120_w1_124_1 {q : Mem → Prop} {M0 M : Mem} (h : St q ws_X12_byTurns_120_w1 as_X12_byTurns_120_w1 M0 M) : rd M 124 1 = rd M0 124 1 := St.kp h (by decide) (by decide) (by decide)
theorem kp_X12_costOf_120_w1_120_101 {q : Mem → Prop} {M0 M : Mem} (h : St q ws_X12_costOf_120_w1 as_X12_costOf_120_w1 M0 M) : rd M 120 101 = rd M0 120 101 := St.kp h (by decide) (by decide) (by decide)
theorem kp_X12_costOf_120_w1_120_85 {q : Mem → Prop} {M0 M : Mem} (h : St q ws_X12_costOf_120_w1 as_X12_costOf_120_w1 M0 M) : rd M 120 85 = rd M0 120 85 := St.kp h (by decide) (by decide) (by decide)
theorem kp_X12_costOf_120_w1_129_1 {q : Mem → Prop} {M0 M : Mem} (h : St q ws_X12_costOf_120_w1 as_X12_costOf_120_w1 M0 M) : rd M 129 1 = rd M0 129 1 := St.kp h (by decide) (by decide) (by decide)
theorem kp_X12_isPart_120_w1_120_85 {q : Mem → Prop} {M0 M : Mem} (h : St q ws_X12_isPart_120_w1 as_X12_isPart_120_w1 M0 M) : rd M 120 85 = rd M0 120 85 := St.kp h (by decide) (by decide) (by decide)
theorem kp_X12_isLine_120_w1_120_85 {q : Mem → Prop} {M0 M : Mem} (h : St q ws_X12_isLine_120_w1 as_X12_isLine_120_w1 M0 M) : rd M 120 85 = rd M0 120 85 := St.kp h (by decide) (by decide) (by decide)
theorem kp_X12_isLine_120_w1_126_1 {q : Mem → Prop} {M0 M : Mem} (h : St q ws_X12_isLine_120_w1 as_X12_isLine_120_w1 M0 M) : rd M 126 1 = rd M0 126 1 := St.kp h (by decide) (by decide) (by decide)
theorem kp_X12_finds_120_126_1 {q : Mem → Prop} {M0 M : Mem} (h : St q ws_X12_finds_120 as_X12_finds_120 M0 M) : rd M 126 1 = rd M0 126 1 := St.kp h (by decide) (by decide) (by decide)
theorem kp_X12_linesIn_120_126_1 {q : Mem → Prop} {M0 M : Mem} (h : St q ws_X12_linesIn_120 as_X12_linesIn_120 M0 M) : rd M 126 1 = rd M0 126 1 := St.kp h (by decide) (by decide) (by decide)
theorem kp_X12_isLine_120_w1_129_1 {q : Mem → Prop} {M0 M : Mem} (h : St q ws_X12_isLine_120_w1 as_X12_isLine_120_w1 M0 M) : rd M 129 1 = rd M0 129 1 := St.kp h (by decide) (by decide) (by decide)
theorem kp_X12_finds_120_129_1 {q : Mem → Prop} {M0 M : Mem} (h : St q ws_X12_finds_120 as_X12_finds_120 M0 M) : rd M 129 1 = rd M0 129 1 := St.kp h (by decide) (by decide) (by decide)
theorem kp_X12_linesIn_120_129_1 {q : Mem → Prop} {M0 M : Mem} (h : St q ws_X12_linesIn_120 as_X12_linesIn_120 M0 M) : rd M 129 1 = rd M0 129 1 := St.kp h (by decide) (by decide) (by decide)
set_option maxRecDepth 100000 in
set_option maxHeartbeats 4000000 in
theorem sp_X12_byTurns_120_w1 {l : Launch} {K : EC} {M0 : Mem} (hI : In Tru M0) (en_120_12 : rd M0 120 12 = 1) (a1 : Int) (ha1 : (-2147483648) ≤ a1 ∧ a1 ≤ 2147483647) (a2 : Int) (ha2 : (-2147483648) ≤ a2 ∧ a2 ≤ 2147483647) (a3 : Int) (ha3 : (-2147483648) ≤ a3 ∧ a3 ≤ 2147483647) (a4 : Int) (ha4 : 0 ≤ a4 ∧ a4 ≤ 1)  (hF_Bk1 : Bk1 M0) : Tr l K 4 mX12_byTurns 0 [(0, (2, 120)), (1, (0, a1)), (2, (0, a2)), (3, (0, a3)), (4, (0, a4))] [] M0 (q_X12_byTurns_120_w1 M0) := by
  have hS : St Tru ws_X12_byTurns_120_w1 as_X12_byTurns_120_w1 M0 M0 := St.rf hI
  obtain ⟨g120_101, eg120_101⟩ : ∃ v, rd M0 120 101 = v := ⟨_, rfl⟩
  have bg120_101 : 0 ≤ g120_101 ∧ g120_101 ≤ 8 := by rw [← eg120_101]; exact ir_120_101 hI.2.1
  obtain ⟨g126_1, eg126_1⟩ : ∃ v, rd M0 126 1 = v := ⟨_, rfl⟩
  have bg126_1 : 0 ≤ g126_1 ∧ g126_1 ≤ 6 := by rw [← eg126_1]; exact ir_126_1 hI.2.1
  refine Tr.aload_n (pc := 0) (i := 0) d_X12_byTurns_0 rfl rfl ?_
  refine Tr.getz (pc := 1) d_X12_byTurns_1 f_12_270 (by decide) (ty_120 hS.1.1) ?_
  refine Tr.gen (P := fun v => 0 ≤ v ∧ v ≤ 1) (ir_120_85 hS.1.2.1) (fun r1 er1 br1 => ?_)
  refine Tr.if_eq (pc := 4) (tgt := 36) d_X12_byTurns_4 rfl (fun c4 => ?_) (fun c4 => ?_)
  · refine Tr.ldc2 (pc := 36) d_X12_byTurns_36 kl_12_669 (by decide) ?_
    exact Tr.lret (pc := 39) d_X12_byTurns_39 rfl ⟨hS, _, rfl, by omega, by omega⟩
  · have c4b : 1 ≤ r1 ∧ r1 ≤ 1 := by omega
    replace c4 := hd_i c4
    refine Tr.aload_n (pc := 7) (i := 0) d_X12_byTurns_7 rfl rfl ?_
    refine Tr.iload_n (pc := 8) (i := 1) d_X12_byTurns_8 rfl rfl ?_
    refine Tr.callV (pc := 9) (as := [_]) d_X12_byTurns_9 s_12_555 ok_X12_isPart rfl rfl (Nat.le_of_ble_eq_true rfl) (Nat.le_of_ble_eq_true rfl) (by decide) (ty_120 hS.1.1) ?_
    refine Tr.imp (Tr.deep (by decide) (ns_X12_isPart_120_w1 (G126_1 := g126_1) hS.1 (eg126_1) ((kp_X12_byTurns_120_w1_120_12 hS).trans en_120_12) a1 (by and_intros <;> omega))) ?_
    rintro M9 _ ⟨h9, r9, rfl, lr9, ur9, z9_0⟩
    have hS := St.tr hS h9 (by decide) (by decide)
    refine Tr.sc [(0, r9)] rfl ?_
    refine Tr.if_eq (pc := 12) (tgt := 36) d_X12_byTurns_12 rfl (fun c12 => ?_) (fun c12 => ?_)
    · refine Tr.ldc2 (pc := 36) d_X12_byTurns_36 kl_12_669 (by decide) ?_
      exact Tr.lret (pc := 39) d_X12_byTurns_39 rfl ⟨hS, _, rfl, by omega, by omega⟩
    · have c12b : 1 ≤ r9 ∧ r9 ≤ 1 := by omega
      replace c12 := hd_i c12
      refine Tr.iload_n (pc := 15) (i := 2) d_X12_byTurns_15 rfl rfl ?_
      refine Tr.if_lt (pc := 16) (tgt := 36) d_X12_byTurns_16 rfl (fun c16 => ?_) (fun c16 => ?_)
      · refine Tr.ldc2 (pc := 36) d_X12_byTurns_36 kl_12_669 (by decide) ?_
        exact Tr.lret (pc := 39) d_X12_byTurns_39 rfl ⟨hS, _, rfl, by omega, by omega⟩
      · refine Tr.aload_n (pc := 19) (i := 0) d_X12_byTurns_19 rfl rfl ?_
        refine Tr.iload_n (pc := 20) (i := 3) d_X12_byTurns_20 rfl rfl ?_
        refine Tr.callV (pc := 21) (as := [_]) d_X12_byTurns_21 s_12_656 ok_X12_isLine rfl rfl (Nat.le_of_ble_eq_true rfl) (Nat.le_of_ble_eq_true rfl) (by decide) (ty_120 hS.1.1) ?_
        obtain ⟨w21_129_1, ew21_129_1⟩ : ∃ v, rd M9 129 1 = v := ⟨_, rfl⟩
        have bw21_129_1 : 0 ≤ w21_129_1 ∧ w21_129_1 ≤ 60 := by rw [← ew21_129_1]; exact ir_129_1 hS.1.2.1
        refine Tr.imp (Tr.deep (by decide) (ns_X12_isLine_120_w1 (G129_1 := w21_129_1) hS.1 (ew21_129_1) ((kp_X12_byTurns_120_w1_120_12 hS).trans en_120_12) a3 (by and_intros <;> omega))) ?_
        rintro M21 _ ⟨h21, r21, rfl, lr21, ur21, z21_0⟩
        have hS := St.tr hS h21 (by decide) (by decide)
        refine Tr.sc [(0, r21)] rfl ?_
        refine Tr.if_eq (pc := 24) (tgt := 36) d_X12_byTurns_24 rfl (fun c24 => ?_) (fun c24 => ?_)
        · refine Tr.ldc2 (pc := 36) d_X12_byTurns_36 kl_12_669 (by decide) ?_
          exact Tr.lret (pc := 39) d_X12_byTurns_39 rfl ⟨hS, _, rfl, by omega, by omega⟩
        · have c24b : 1 ≤ r21 ∧ r21 ≤ 1 := by omega
          replace c24 := hd_i c24
          refine Tr.aload_n (pc := 27) (i := 0) d_X12_byTurns_27 rfl rfl ?_
          refine Tr.iload_n (pc := 28) (i := 1) d_X12_byTurns_28 rfl rfl ?_
          refine Tr.iload_n (pc := 29) (i := 2) d_X12_byTurns_29 rfl rfl ?_
          refine Tr.callV (pc := 30) (as := [_, _]) d_X12_byTurns_30 s_12_644 ok_X12_finds rfl rfl (Nat.le_of_ble_eq_true rfl) (Nat.le_of_ble_eq_true rfl) (by decide) (ty_120 hS.1.1) ?_
          refine Tr.imp (Tr.deep (by decide) (ns_X12_finds_120 hS.1 a1 (by exact (hd_o z9_0).elim (fun h1 => by omega) (fun h1 => by omega)) a2 (by and_intros <;> omega))) ?_
          rintro M30 _ ⟨h30, r30, rfl, lr30, ur30, z30_0⟩
          have hS := St.tr hS h30 (by decide) (by decide)
          refine Tr.sc [(0, r30)] rfl ?_
          refine Tr.if_ne (pc := 33) (tgt := 40) d_X12_byTurns_33 rfl (fun c33 => ?_) (fun c33 => ?_)
          · have c33b : 1 ≤ r30 ∧ r30 ≤ 1 := by omega
            replace c33 := hd_i c33
            refine Tr.aload_n (pc := 40) (i := 0) d_X12_byTurns_40 rfl rfl ?_
            refine Tr.iload_n (pc := 41) (i := 1) d_X12_byTurns_41 rfl rfl ?_
            refine Tr.callV (pc := 42) (as := [_]) d_X12_byTurns_42 s_12_650 ok_X12_linesIn rfl rfl (Nat.le_of_ble_eq_true rfl) (Nat.le_of_ble_eq_true rfl) (by decide) (ty_120 hS.1.1) ?_
            refine Tr.imp (Tr.deep (by decide) (sp_X12_linesIn_120 hS.1 a1 (by exact (hd_o z9_0).elim (fun h1 => by omega) (fun h1 => by omega)))) ?_
            rintro M42 _ ⟨h42, r42, rfl, lr42, ur42⟩
            have hS := St.tr hS h42 (by decide) (by decide)
            refine Tr.sc [(1, r42)] rfl ?_
            refine Tr.lstore (pc := 45) (i := 5) (ls2 := [(5, (1, r42)), (0, (2, 120)), (1, (0, a1)), (2, (0, a2)), (3, (0, a3)), (4, (0, a4))]) d_X12_byTurns_45 (by decide) rfl ?_
            refine Tr.lload (pc := 47) (i := 5) d_X12_byTurns_47 rfl ?_
            refine Tr.callS (pc := 49) (as := [_]) d_X12_byTurns_49 s_12_653 ok_X12_bitsOf rfl rfl (Nat.le_of_ble_eq_true rfl) (Nat.le_of_ble_eq_true rfl) ?_
            refine Tr.imp (Tr.deep (by decide) (sp_X12_bitsOf hS.1 r42 (by omega))) ?_
            rintro M49 _ ⟨h49, r49, rfl, lr49, ur49, wr49⟩
            have hS := St.tr hS h49 (by decide) (by decide)
            have wr49d0 := hd_i wr49.2
            replace wr49 := And.intro wr49.1.1 (And.intro wr49.1.2.1  (wr49.1.2.2))
            refine Tr.sc [(0, r49)] rfl ?_
            refine Tr.bipush (pc := 52) d_X12_byTurns_52 rfl (by decide) ?_
            refine Tr.icmp_gt (pc := 54) (tgt := 68) d_X12_byTurns_54 rfl (fun c54 => ?_) (fun c54 => ?_)
            · refine Tr.ldc2 (pc := 68) d_X12_byTurns_68 kl_12_669 (by decide) ?_
              exact Tr.lret (pc := 71) d_X12_byTurns_71 rfl ⟨hS, _, rfl, by omega, by omega⟩
            · refine Tr.lload (pc := 57) (i := 5) d_X12_byTurns_57 rfl ?_
              refine Tr.iload_n (pc := 59) (i := 3) d_X12_byTurns_59 rfl rfl ?_
              refine Tr.lshr (pc := 60) d_X12_byTurns_60 ?_
              refine Tr.gen (P := fun v => ((-9223372036854775808) ≤ v ∧ v ≤ 9223372036854775807) ∧ (r42 ≠ 0 ∨ v = 0)) (lshr_z _ _) (fun r60 er60 br60 => ?_)
              have br60d0 := hd_i br60.2
              replace br60 := And.intro br60.1.1  (br60.1.2)
              refine Tr.lconst (pc := 61) (v := 1) d_X12_byTurns_61 rfl (by decide) ?_
              refine Tr.land (pc := 62) d_X12_byTurns_62 ?_
              refine Tr.gen (P := fun v => v = r60 % 2 ∧ (0 ≤ v ∧ v ≤ 1)) ⟨(f_land_1 _).1, (f_land_1 _).2⟩ (fun r62 er62 br62 => ?_)
              refine Tr.lconst (pc := 63) (v := 0) d_X12_byTurns_63 rfl (by decide) ?_
              refine Tr.lcmp (pc := 64) d_X12_byTurns_64 ?_
              refine Tr.gen (P := fun v => (v = 1 ∧ 0 < r62) ∨ (v = 0 ∧ r62 = 0) ∨ (v = -1 ∧ r62 < 0)) (f_lcmp_c _ _) (fun r64 er64 br64 => ?_)
              replace br64 := hd_i br64
              refine Tr.if_ne (pc := 65) (tgt := 72) d_X12_byTurns_65 rfl (fun c65 => ?_) (fun c65 => ?_)
              · replace c65 := hd_i c65
                refine Tr.aload_n (pc := 72) (i := 0) d_X12_byTurns_72 rfl rfl ?_
                refine Tr.iconst (pc := 73) d_X12_byTurns_73 (by decide) ?_
                refine Tr.putfS (pc := 74) (P := St Tru ws_X12_byTurns_120_w1 as_X12_byTurns_120_w1 M0) d_X12_byTurns_74 f_12_318 (by decide) (by decide) (ty_120 hS.1.1) (st_120_101 hS (by decide) (by omega) trivial) (fun M74 hS w74 => ?_)
                refine Tr.iconst (pc := 77) d_X12_byTurns_77 (by decide) ?_
                refine Tr.istore (pc := 78) (i := 7) (ls2 := [(7, (0, 0)), (5, (1, r42)), (0, (2, 120)), (1, (0, a1)), (2, (0, a2)), (3, (0, a3)), (4, (0, a4))]) d_X12_byTurns_78 (by decide) rfl ?_
                refine Tr.iconst (pc := 80) d_X12_byTurns_80 (by decide) ?_
                refine Tr.istore (pc := 81) (i := 8) (ls2 := [(8, (0, 0)), (7, (0, 0)), (5, (1, r42)), (0, (2, 120)), (1, (0, a1)), (2, (0, a2)), (3, (0, a3)), (4, (0, a4))]) d_X12_byTurns_81 (by decide) rfl ?_
                have J83 : ∀ (n83 : Nat) (M : Mem) (p83_7 p83_8 u83_120_101 : Int), St Tru ws_X12_byTurns_120_w1 as_X12_byTurns_120_w1 M0 M → (0 ≤ p83_7 ∧ p83_7 ≤ 8) → (0 ≤ p83_8 ∧ p83_8 ≤ 60) → (0 ≤ u83_120_101 ∧ u83_120_101 ≤ 8) → rd M 120 101 = u83_120_101 → rd M 120 85 = r1 → rd M 126 1 = g126_1 → rd M 129 1 = w21_129_1 → (u83_120_101 + tpS r42 p83_8 ≤ 8) → (0 ≤ p83_7 ∧ p83_7 ≤ 7) → (60 - p83_8).toNat < n83 → Tr l K 4 mX12_byTurns 83 [(0, (2, 120)), (1, (0, a1)), (3, (0, a3)), (4, (0, a4)), (5, (1, r42)), (7, (0, p83_7)), (8, (0, p83_8))] [] M (q_X12_byTurns_120_w1 M0) := by
                  intro n83
                  induction n83 with
                  | zero => intro M p83_7 p83_8 u83_120_101 hS bp83_7 bp83_8 bu83_120_101 k83_120_101 k83_120_85 k83_126_1 k83_129_1 t83_0 t83_1 hm83; exact absurd hm83 (Nat.not_lt_zero _)
                  | succ n83 J83 =>
                    intro M p83_7 p83_8 u83_120_101 hS bp83_7 bp83_8 bu83_120_101 k83_120_101 k83_120_85 k83_126_1 k83_129_1 t83_0 t83_1 hm83
                    clear er1 ew21_129_1 er60 er62 er64 w74
                    refine Tr.iload (pc := 83) (i := 8) d_X12_byTurns_83 rfl ?_
                    refine Tr.aload_n (pc := 85) (i := 0) d_X12_byTurns_85 rfl rfl ?_
                    refine Tr.getf (pc := 86) d_X12_byTurns_86 f_12_72 (by decide) (by decide) (ty_120 hS.1.1) ?_
                    refine Tr.tp 129 (fx_120_20 hS.1.1) ?_
                    refine Tr.aload_n (pc := 89) (i := 0) d_X12_byTurns_89 rfl rfl ?_
                    refine Tr.getf (pc := 90) d_X12_byTurns_90 f_12_48 (by decide) (by decide) (ty_120 hS.1.1) ?_
                    refine Tr.tp 1 ((kp_X12_byTurns_120_w1_120_12 hS).trans en_120_12) ?_
                    refine Tr.iald (pc := 93) d_X12_byTurns_93 (ty_129 hS.1.1) (by omega) (by omega) ?_
                    refine Tr.tp w21_129_1 k83_129_1 ?_
                    refine Tr.icmp_ge (pc := 94) (tgt := 151) d_X12_byTurns_94 rfl (fun c94 => ?_) (fun c94 => ?_)
                    · refine Tr.iconst (pc := 151) d_X12_byTurns_151 (by decide) ?_
                      refine Tr.istore (pc := 152) (i := 8) (ls2 := [(8, (0, 0)), (0, (2, 120)), (1, (0, a1)), (3, (0, a3)), (4, (0, a4)), (5, (1, r42)), (7, (0, p83_7))]) d_X12_byTurns_152 (by decide) rfl ?_
                      have J154 : ∀ (n154 : Nat) (M : Mem) (p154_8 : Int), St Tru ws_X12_byTurns_120_w1 as_X12_byTurns_120_w1 M0 M → (0 ≤ p154_8 ∧ p154_8 ≤ 256) → rd M 120 101 = u83_120_101 → rd M 120 85 = r1 → rd M 126 1 = g126_1 → rd M 129 1 = w21_129_1 → (256 - p154_8).toNat < n154 → Tr l K 4 mX12_byTurns 154 [(0, (2, 120)), (1, (0, a1)), (4, (0, a4)), (7, (0, p83_7)), (8, (0, p154_8))] [] M (q_X12_byTurns_120_w1 M0) := by
                        intro n154
                        induction n154 with
                        | zero => intro M p154_8 hS bp154_8 k154_120_101 k154_120_85 k154_126_1 k154_129_1 hm154; exact absurd hm154 (Nat.not_lt_zero _)
                        | succ n154 J154 =>
                          intro M p154_8 hS bp154_8 k154_120_101 k154_120_85 k154_126_1 k154_129_1 hm154
                          clear k83_120_101 k83_120_85 k83_126_1 k83_129_1
                          refine Tr.iload (pc := 154) (i := 8) d_X12_byTurns_154 rfl ?_
                          refine Tr.iconst (pc := 156) d_X12_byTurns_156 (by decide) ?_
                          refine Tr.aload_n (pc := 157) (i := 0) d_X12_byTurns_157 rfl rfl ?_
                          refine Tr.getf (pc := 158) d_X12_byTurns_158 f_12_318 (by decide) (by decide) (ty_120 hS.1.1) ?_
                          refine Tr.tp u83_120_101 k154_120_101 ?_
                          refine Tr.ishl (pc := 161) d_X12_byTurns_161 ?_
                          refine Tr.gen (P := fun v => 1 ≤ v ∧ v ≤ 256) (shl_8 (by omega) (by omega)) (fun r161 er161 br161 => ?_)
                          refine Tr.icmp_ge (pc := 162) (tgt := 185) d_X12_byTurns_162 rfl (fun c162 => ?_) (fun c162 => ?_)
                          · refine Tr.lconst (pc := 185) (v := 0) d_X12_byTurns_185 rfl (by decide) ?_
                            refine Tr.lstore (pc := 186) (i := 8) (ls2 := [(8, (1, 0)), (0, (2, 120)), (1, (0, a1)), (4, (0, a4)), (7, (0, p83_7))]) d_X12_byTurns_186 (by decide) rfl ?_
                            refine Tr.iconst (pc := 188) d_X12_byTurns_188 (by decide) ?_
                            refine Tr.istore (pc := 189) (i := 10) (ls2 := [(10, (0, 0)), (8, (1, 0)), (0, (2, 120)), (1, (0, a1)), (4, (0, a4)), (7, (0, p83_7))]) d_X12_byTurns_189 (by decide) rfl ?_
                            have J191 : ∀ (n191 : Nat) (M : Mem) (p191_8 p191_10 : Int), St Tru ws_X12_byTurns_120_w1 as_X12_byTurns_120_w1 M0 M → ((-9223372036854775808) ≤ p191_8 ∧ p191_8 ≤ 9223372036854775807) → (0 ≤ p191_10 ∧ p191_10 ≤ 256) → rd M 120 101 = u83_120_101 → rd M 120 85 = r1 → rd M 126 1 = g126_1 → rd M 129 1 = w21_129_1 → (256 - p191_10).toNat < n191 → Tr l K 4 mX12_byTurns 191 [(0, (2, 120)), (4, (0, a4)), (7, (0, p83_7)), (8, (1, p191_8)), (10, (0, p191_10))] [] M (q_X12_byTurns_120_w1 M0) := by
                              intro n191
                              induction n191 with
                              | zero => intro M p191_8 p191_10 hS bp191_8 bp191_10 k191_120_101 k191_120_85 k191_126_1 k191_129_1 hm191; exact absurd hm191 (Nat.not_lt_zero _)
                              | succ n191 J191 =>
                                intro M p191_8 p191_10 hS bp191_8 bp191_10 k191_120_101 k191_120_85 k191_126_1 k191_129_1 hm191
                                clear k154_120_101 k154_120_85 k154_126_1 k154_129_1 er161
                                refine Tr.iload (pc := 191) (i := 10) d_X12_byTurns_191 rfl ?_
                                refine Tr.iconst (pc := 193) d_X12_byTurns_193 (by decide) ?_
                                refine Tr.aload_n (pc := 194) (i := 0) d_X12_byTurns_194 rfl rfl ?_
                                refine Tr.getf (pc := 195) d_X12_byTurns_195 f_12_318 (by decide) (by decide) (ty_120 hS.1.1) ?_
                                refine Tr.tp u83_120_101 k191_120_101 ?_
                                refine Tr.ishl (pc := 198) d_X12_byTurns_198 ?_
                                refine Tr.gen (P := fun v => 1 ≤ v ∧ v ≤ 256) (shl_8 (by omega) (by omega)) (fun r198 er198 br198 => ?_)
                                refine Tr.icmp_ge (pc := 199) (tgt := 274) d_X12_byTurns_199 rfl (fun c199 => ?_) (fun c199 => ?_)
                                · refine Tr.aload_n (pc := 274) (i := 0) d_X12_byTurns_274 rfl rfl ?_
                                  refine Tr.getf (pc := 275) d_X12_byTurns_275 f_12_318 (by decide) (by decide) (ty_120 hS.1.1) ?_
                                  refine Tr.tp u83_120_101 k191_120_101 ?_
                                  refine Tr.callS (pc := 278) (as := [_]) d_X12_byTurns_278 s_12_674 ok_X12_orders rfl rfl (Nat.le_of_ble_eq_true rfl) (Nat.le_of_ble_eq_true rfl) ?_
                                  refine Tr.imp (Tr.deep (by decide) (sp_X12_orders hS.1 u83_120_101 (by and_intros <;> omega))) ?_
                                  rintro M278 _ ⟨h278, r278, rfl, lr278, ur278, wr278⟩
                                  have hS := St.tr hS h278 (by decide) (by decide)
                                  replace wr278 := hd_i wr278
                                  refine Tr.sc [(1, r278)] rfl ?_
                                  refine Tr.lstore (pc := 281) (i := 10) (ls2 := [(10, (1, r278)), (0, (2, 120)), (4, (0, a4)), (7, (0, p83_7)), (8, (1, p191_8))]) d_X12_byTurns_281 (by decide) rfl ?_
                                  refine Tr.lload (pc := 283) (i := 8) d_X12_byTurns_283 rfl ?_
                                  refine Tr.lload (pc := 285) (i := 10) d_X12_byTurns_285 rfl ?_
                                  refine Tr.callS (pc := 287) (as := [_, _]) d_X12_byTurns_287 s_12_677 ok_X12_common rfl rfl (Nat.le_of_ble_eq_true rfl) (Nat.le_of_ble_eq_true rfl) ?_
                                  refine Tr.imp (Tr.deep (by decide) (sp_X12_common hS.1 p191_8 (by omega) r278 (by omega))) ?_
                                  rintro M287 _ ⟨h287, r287, rfl, lr287, ur287, wr287⟩
                                  have hS := St.tr hS h287 (by decide) (by decide)
                                  replace wr287 := hd_i wr287
                                  refine Tr.sc [(1, r287)] rfl ?_
                                  refine Tr.lstore (pc := 290) (i := 12) (ls2 := [(12, (1, r287)), (10, (1, r278)), (0, (2, 120)), (4, (0, a4)), (7, (0, p83_7)), (8, (1, p191_8))]) d_X12_byTurns_290 (by decide) rfl ?_
                                  refine Tr.iload (pc := 292) (i := 4) d_X12_byTurns_292 rfl ?_
                                  refine Tr.if_eq (pc := 294) (tgt := 305) d_X12_byTurns_294 rfl (fun c294 => ?_) (fun c294 => ?_)
                                  · refine Tr.lload (pc := 305) (i := 10) d_X12_byTurns_305 rfl ?_
                                    refine Tr.lload (pc := 307) (i := 12) d_X12_byTurns_307 rfl ?_
                                    refine Tr.ldiv (pc := 309) d_X12_byTurns_309 (by exact (hd_o wr278).elim (fun h1 => by omega) (fun h1 => (hd_o wr287).elim (fun h2 => by omega) (fun h2 => (ne_o h2).elim (fun h3 => by omega) (fun h3 => by omega)))) ?_
                                    refine Tr.gen (P := fun v => (-9223372036854775808) ≤ v ∧ v ≤ 9223372036854775807) (w64_b _) (fun r309 er309 br309 => ?_)
                                    exact Tr.lret (pc := 310) d_X12_byTurns_310 rfl ⟨hS, _, rfl, (by omega), (by omega)⟩
                                  · have c294b : 1 ≤ a4 ∧ a4 ≤ 1 := by omega
                                    replace c294 := hd_i c294
                                    refine Tr.lload (pc := 297) (i := 8) d_X12_byTurns_297 rfl ?_
                                    refine Tr.lload (pc := 299) (i := 12) d_X12_byTurns_299 rfl ?_
                                    refine Tr.ldiv (pc := 301) d_X12_byTurns_301 (by exact (hd_o wr278).elim (fun h1 => by omega) (fun h1 => (hd_o wr287).elim (fun h2 => by omega) (fun h2 => (ne_o h2).elim (fun h3 => by omega) (fun h3 => by omega)))) ?_
                                    refine Tr.gen (P := fun v => (-9223372036854775808) ≤ v ∧ v ≤ 9223372036854775807) (w64_b _) (fun r301 er301 br301 => ?_)
                                    refine Tr.goto (pc := 302) (tgt := 310) d_X12_byTurns_302 rfl ?_
                                    exact Tr.lret (pc := 310) d_X12_byTurns_310 rfl ⟨hS, _, rfl, (by omega), (by omega)⟩
                                · refine Tr.iload (pc := 202) (i := 10) d_X12_byTurns_202 rfl ?_
                                  refine Tr.iload (pc := 204) (i := 7) d_X12_byTurns_204 rfl ?_
                                  refine Tr.ishr (pc := 206) d_X12_byTurns_206 ?_
                                  refine Tr.gen (P := fun v => (-2147483648) ≤ v ∧ v ≤ 2147483647) (i32_b _) (fun r206 er206 br206 => ?_)
                                  refine Tr.iconst (pc := 207) d_X12_byTurns_207 (by decide) ?_
                                  refine Tr.iand (pc := 208) d_X12_byTurns_208 ?_
                                  refine Tr.gen (P := fun v => 0 ≤ v ∧ v ≤ 1) (f_iand_m 1 (by decide +kernel) (by decide) (by decide +kernel)) (fun r208 er208 br208 => ?_)
                                  refine Tr.iconst (pc := 209) d_X12_byTurns_209 (by decide) ?_
                                  have J268 : ∀ (M : Mem) (p268_8 : Int), St Tru ws_X12_byTurns_120_w1 as_X12_byTurns_120_w1 M0 M → ((-9223372036854775808) ≤ p268_8 ∧ p268_8 ≤ 9223372036854775807) → rd M 120 101 = u83_120_101 → rd M 120 85 = r1 → rd M 126 1 = g126_1 → rd M 129 1 = w21_129_1 → Tr l K 4 mX12_byTurns 268 [(0, (2, 120)), (4, (0, a4)), (7, (0, p83_7)), (8, (1, p268_8)), (10, (0, p191_10))] [] M (q_X12_byTurns_120_w1 M0) := by
                                    intro M p268_8 hS bp268_8 k268_120_101 k268_120_85 k268_126_1 k268_129_1
                                    clear k191_120_101 k191_120_85 k191_126_1 k191_129_1 er198 er206 er208
                                    refine Tr.iincV (pc := 268) (n2 := (p191_10 + 1)) (ls2 := [(10, (0, (p191_10 + 1))), (0, (2, 120)), (4, (0, a4)), (7, (0, p83_7)), (8, (1, p268_8))]) d_X12_byTurns_268 rfl (by decide) ((w32_id (by and_intros <;> omega)).trans (by omega)) rfl ?_
                                    refine Tr.goto (pc := 271) (tgt := 191) d_X12_byTurns_271 rfl ?_
                                    refine Tr.pick [1, 2, 3, 4, 0] (ls2 := [(0, (2, 120)), (4, (0, a4)), (7, (0, p83_7)), (8, (1, p268_8)), (10, (0, (p191_10 + 1)))]) rfl ?_
                                    exact J191 _ _ _ hS (by omega) (by and_intros <;> omega) k268_120_101 k268_120_85 k268_126_1 k268_129_1 (me_lt hm191 (by omega) (by omega))
                                  refine Tr.icmp_ne (pc := 210) (tgt := 216) d_X12_byTurns_210 rfl (fun c210 => ?_) (fun c210 => ?_)
                                  · have c210b : 0 ≤ r208 ∧ r208 ≤ 0 := by omega
                                    replace c210 := hd_i c210
                                    refine Tr.iload (pc := 216) (i := 10) d_X12_byTurns_216 rfl ?_
                                    refine Tr.i2l (pc := 218) d_X12_byTurns_218 ?_
                                    refine Tr.callS (pc := 219) (as := [_]) d_X12_byTurns_219 s_12_653 ok_X12_bitsOf rfl rfl (Nat.le_of_ble_eq_true rfl) (Nat.le_of_ble_eq_true rfl) ?_
                                    refine Tr.imp (Tr.deep (by decide) (sp_X12_bitsOf hS.1 p191_10 (by omega))) ?_
                                    rintro M219 _ ⟨h219, r219, rfl, lr219, ur219, wr219⟩
                                    have hS := St.tr hS h219 (by decide) (by decide)
                                    have wr219d0 := hd_i wr219.2
                                    replace wr219 := And.intro wr219.1.1 (And.intro wr219.1.2.1  (wr219.1.2.2))
                                    refine Tr.sc [(0, r219)] rfl ?_
                                    refine Tr.istore (pc := 222) (i := 11) (ls2 := [(11, (0, r219)), (0, (2, 120)), (4, (0, a4)), (7, (0, p83_7)), (8, (1, p191_8)), (10, (0, p191_10))]) d_X12_byTurns_222 (by decide) rfl ?_
                                    refine Tr.lload (pc := 224) (i := 8) d_X12_byTurns_224 rfl ?_
                                    refine Tr.iload (pc := 226) (i := 11) d_X12_byTurns_226 rfl ?_
                                    refine Tr.callS (pc := 228) (as := [_]) d_X12_byTurns_228 s_12_674 ok_X12_orders rfl rfl (Nat.le_of_ble_eq_true rfl) (Nat.le_of_ble_eq_true rfl) ?_
                                    refine Tr.imp (Tr.deep (by decide) (sp_X12_orders hS.1 r219 (by and_intros <;> omega))) ?_
                                    rintro M228 _ ⟨h228, r228, rfl, lr228, ur228, wr228⟩
                                    have hS := St.tr hS h228 (by decide) (by decide)
                                    replace wr228 := hd_i wr228
                                    refine Tr.sc [(1, r228), (1, p191_8)] rfl ?_
                                    refine Tr.aload_n (pc := 231) (i := 0) d_X12_byTurns_231 rfl rfl ?_
                                    refine Tr.getf (pc := 232) d_X12_byTurns_232 f_12_318 (by decide) (by decide) (ty_120 hS.1.1) ?_
                                    refine Tr.tp u83_120_101 ((kp_X12_orders_120_101 h228).trans ((kp_X12_bitsOf_120_101 h219).trans k191_120_101)) ?_
                                    refine Tr.iload (pc := 235) (i := 11) d_X12_byTurns_235 rfl ?_
                                    refine Tr.isub (pc := 237) d_X12_byTurns_237 ?_
                                    refine Tr.tp (-r219 + u83_120_101) ((w32_id (by and_intros <;> omega)).trans (by omega)) ?_
                                    refine Tr.iconst (pc := 238) d_X12_byTurns_238 (by decide) ?_
                                    refine Tr.isub (pc := 239) d_X12_byTurns_239 ?_
                                    refine Tr.tp (-r219 + u83_120_101 - 1) ((w32_id (by and_intros <;> omega)).trans (by omega)) ?_
                                    refine Tr.callS (pc := 240) (as := [_]) d_X12_byTurns_240 s_12_674 ok_X12_orders rfl rfl (Nat.le_of_ble_eq_true rfl) (Nat.le_of_ble_eq_true rfl) ?_
                                    refine Tr.imp (Tr.deep (by decide) (sp_X12_orders hS.1 (-r219 + u83_120_101 - 1) (by and_intros <;> omega))) ?_
                                    rintro M240 _ ⟨h240, r240, rfl, lr240, ur240, wr240⟩
                                    have hS := St.tr hS h240 (by decide) (by decide)
                                    replace wr240 := hd_i wr240
                                    refine Tr.sc [(1, r240), (1, r228), (1, p191_8)] rfl ?_
                                    refine Tr.lmul (pc := 243) d_X12_byTurns_243 ?_
                                    refine Tr.gen (P := fun v => (-9223372036854775808) ≤ v ∧ v ≤ 9223372036854775807) (w64_b _) (fun r243 er243 br243 => ?_)
                                    refine Tr.aload_n (pc := 244) (i := 0) d_X12_byTurns_244 rfl rfl ?_
                                    refine Tr.getf (pc := 245) d_X12_byTurns_245 f_12_324 (by decide) (by decide) (ty_120 hS.1.1) ?_
                                    refine Tr.tp 178 (fx_120_103 hS.1.1) ?_
                                    refine Tr.iload (pc := 248) (i := 10) d_X12_byTurns_248 rfl ?_
                                    refine Tr.iconst (pc := 250) d_X12_byTurns_250 (by decide) ?_
                                    refine Tr.iload (pc := 251) (i := 7) d_X12_byTurns_251 rfl ?_
                                    refine Tr.ishl (pc := 253) d_X12_byTurns_253 ?_
                                    refine Tr.gen (P := fun v => 1 ≤ v ∧ v ≤ 128) (shl_7 (by omega) (by omega)) (fun r253 er253 br253 => ?_)
                                    refine Tr.ior (pc := 254) d_X12_byTurns_254 ?_
                                    refine Tr.gen (P := fun v => 0 ≤ v ∧ v ≤ 255) (ior_8 (by omega) (by omega)) (fun r254 er254 br254 => ?_)
                                    refine Tr.lald (pc := 255) d_X12_byTurns_255 (ty_178 hS.1.1) (by omega) (by omega) ?_
                                    refine Tr.gen (P := fun v => (-9223372036854775808) ≤ v ∧ v ≤ 9223372036854775807) (ar_178 hS.1.2.1 _) (fun r255 er255 br255 => ?_)
                                    refine Tr.aload_n (pc := 256) (i := 0) d_X12_byTurns_256 rfl rfl ?_
                                    refine Tr.getf (pc := 257) d_X12_byTurns_257 f_12_324 (by decide) (by decide) (ty_120 hS.1.1) ?_
                                    refine Tr.tp 178 (fx_120_103 hS.1.1) ?_
                                    refine Tr.iload (pc := 260) (i := 10) d_X12_byTurns_260 rfl ?_
                                    refine Tr.lald (pc := 262) d_X12_byTurns_262 (ty_178 hS.1.1) (by omega) (by omega) ?_
                                    refine Tr.gen (P := fun v => (-9223372036854775808) ≤ v ∧ v ≤ 9223372036854775807) (ar_178 hS.1.2.1 _) (fun r262 er262 br262 => ?_)
                                    refine Tr.lsub (pc := 263) d_X12_byTurns_263 ?_
                                    refine Tr.gen (P := fun v => (-9223372036854775808) ≤ v ∧ v ≤ 9223372036854775807) (w64_b _) (fun r263 er263 br263 => ?_)
                                    refine Tr.lmul (pc := 264) d_X12_byTurns_264 ?_
                                    refine Tr.gen (P := fun v => (-9223372036854775808) ≤ v ∧ v ≤ 9223372036854775807) (w64_b _) (fun r264 er264 br264 => ?_)
                                    refine Tr.ladd (pc := 265) d_X12_byTurns_265 ?_
                                    refine Tr.gen (P := fun v => (-9223372036854775808) ≤ v ∧ v ≤ 9223372036854775807) (w64_b _) (fun r265 er265 br265 => ?_)
                                    refine Tr.lstore (pc := 266) (i := 8) (ls2 := [(8, (1, r265)), (11, (0, r219)), (0, (2, 120)), (4, (0, a4)), (7, (0, p83_7)), (10, (0, p191_10))]) d_X12_byTurns_266 (by decide) rfl ?_
                                    refine Tr.pick [2, 3, 4, 0, 5] (ls2 := [(0, (2, 120)), (4, (0, a4)), (7, (0, p83_7)), (8, (1, r265)), (10, (0, p191_10))]) rfl ?_
                                    exact J268 _ _ hS (by omega) ((kp_X12_orders_120_101 h240).trans ((kp_X12_orders_120_101 h228).trans ((kp_X12_bitsOf_120_101 h219).trans k191_120_101))) ((kp_X12_orders_120_85 h240).trans ((kp_X12_orders_120_85 h228).trans ((kp_X12_bitsOf_120_85 h219).trans k191_120_85))) ((kp_X12_orders_126_1 h240).trans ((kp_X12_orders_126_1 h228).trans ((kp_X12_bitsOf_126_1 h219).trans k191_126_1))) ((kp_X12_orders_129_1 h240).trans ((kp_X12_orders_129_1 h228).trans ((kp_X12_bitsOf_129_1 h219).trans k191_129_1)))
                                  · refine Tr.goto (pc := 213) (tgt := 268) d_X12_byTurns_213 rfl ?_
                                    refine Tr.pick [0, 1, 2, 3, 4] (ls2 := [(0, (2, 120)), (4, (0, a4)), (7, (0, p83_7)), (8, (1, p191_8)), (10, (0, p191_10))]) rfl ?_
                                    exact J268 _ _ hS (by omega) k191_120_101 k191_120_85 k191_126_1 k191_129_1
                            refine Tr.pick [2, 4, 5, 1, 0] (ls2 := [(0, (2, 120)), (4, (0, a4)), (7, (0, p83_7)), (8, (1, 0)), (10, (0, 0))]) rfl ?_
                            exact J191 _ _ _ _ hS (by omega) (by omega) k154_120_101 k154_120_85 k154_126_1 k154_129_1 (Nat.lt_succ_self _)
                          · refine Tr.aload_n (pc := 165) (i := 0) d_X12_byTurns_165 rfl rfl ?_
                            refine Tr.getf (pc := 166) d_X12_byTurns_166 f_12_324 (by decide) (by decide) (ty_120 hS.1.1) ?_
                            refine Tr.tp 178 (fx_120_103 hS.1.1) ?_
                            refine Tr.iload (pc := 169) (i := 8) d_X12_byTurns_169 rfl ?_
                            refine Tr.aload_n (pc := 171) (i := 0) d_X12_byTurns_171 rfl rfl ?_
                            refine Tr.iload_n (pc := 172) (i := 1) d_X12_byTurns_172 rfl rfl ?_
                            refine Tr.iload (pc := 173) (i := 8) d_X12_byTurns_173 rfl ?_
                            refine Tr.callV (pc := 175) (as := [_, _]) d_X12_byTurns_175 s_12_671 ok_X12_costOf rfl rfl (Nat.le_of_ble_eq_true rfl) (Nat.le_of_ble_eq_true rfl) (by decide) (ty_120 hS.1.1) ?_
                            refine Tr.imp (Tr.deep (by decide) (sp_X12_costOf_120_w1 hS.1 ((kp_X12_byTurns_120_w1_120_12 hS).trans en_120_12) a1 (by exact (hd_o z9_0).elim (fun h1 => by omega) (fun h1 => by omega)) p154_8 (by and_intros <;> omega) (Bk1.of hF_Bk1 (fun j => (ka_X12_byTurns_120_w1_131 hS _)) (fun j => (ka_X12_byTurns_120_w1_137 hS _)) (fun j => (ka_X12_byTurns_120_w1_138 hS _)) (fun j => (ka_X12_byTurns_120_w1_139 hS _)) (fun j => (ka_X12_byTurns_120_w1_140 hS _)) (fun j => (ka_X12_byTurns_120_w1_141 hS _)) (fun j => (ka_X12_byTurns_120_w1_142 hS _)) (fun j => (ka_X12_byTurns_120_w1_143 hS _)) (kp_X12_byTurns_120_w1_126_1 hS) (kp_X12_byTurns_120_w1_136_1 hS) (kp_X12_byTurns_120_w1_123_1 hS) (kp_X12_byTurns_120_w1_124_1 hS)))) ?_
                            rintro M175 _ ⟨h175, r175, rfl, lr175, ur175⟩
                            have hS := St.tr hS h175 (by decide) (by decide)
                            refine Tr.sc [(1, r175), (0, p154_8), (2, 178)] rfl ?_
                            refine Tr.lastS (pc := 178) (P := St Tru ws_X12_byTurns_120_w1 as_X12_byTurns_120_w1 M0) d_X12_byTurns_178 (ty_178 hS.1.1) (by omega) (by omega) (sa_178 hS (by decide) (by omega) trivial) (fun M178 hS w178 => ?_)
                            refine Tr.iincV (pc := 179) (n2 := (p154_8 + 1)) (ls2 := [(8, (0, (p154_8 + 1))), (0, (2, 120)), (1, (0, a1)), (4, (0, a4)), (7, (0, p83_7))]) d_X12_byTurns_179 rfl (by decide) ((w32_id (by and_intros <;> omega)).trans (by omega)) rfl ?_
                            refine Tr.goto (pc := 182) (tgt := 154) d_X12_byTurns_182 rfl ?_
                            refine Tr.pick [1, 2, 3, 4, 0] (ls2 := [(0, (2, 120)), (1, (0, a1)), (4, (0, a4)), (7, (0, p83_7)), (8, (0, (p154_8 + 1)))]) rfl ?_
                            exact J154 _ _ hS (by and_intros <;> omega) ((Wr.b w178 rfl).trans ((kp_X12_costOf_120_w1_120_101 h175).trans k154_120_101)) ((Wr.b w178 rfl).trans ((kp_X12_costOf_120_w1_120_85 h175).trans k154_120_85)) ((Wr.b w178 rfl).trans ((kp_X12_costOf_120_w1_126_1 h175).trans k154_126_1)) ((Wr.b w178 rfl).trans ((kp_X12_costOf_120_w1_129_1 h175).trans k154_129_1)) (me_lt hm154 (by omega) (by omega))
                      refine Tr.pick [1, 2, 4, 6, 0] (ls2 := [(0, (2, 120)), (1, (0, a1)), (4, (0, a4)), (7, (0, p83_7)), (8, (0, 0))]) rfl ?_
                      exact J154 _ _ _ hS (by omega) k83_120_101 k83_120_85 k83_126_1 k83_129_1 (Nat.lt_succ_self _)
                    · refine Tr.lload (pc := 97) (i := 5) d_X12_byTurns_97 rfl ?_
                      refine Tr.iload (pc := 99) (i := 8) d_X12_byTurns_99 rfl ?_
                      refine Tr.lshr (pc := 101) d_X12_byTurns_101 ?_
                      refine Tr.gen (P := fun v => ((-9223372036854775808) ≤ v ∧ v ≤ 9223372036854775807) ∧ (r42 ≠ 0 ∨ v = 0)) (lshr_z _ _) (fun r101 er101 br101 => ?_)
                      have br101d0 := hd_i br101.2
                      replace br101 := And.intro br101.1.1  (br101.1.2)
                      refine Tr.lconst (pc := 102) (v := 1) d_X12_byTurns_102 rfl (by decide) ?_
                      refine Tr.land (pc := 103) d_X12_byTurns_103 ?_
                      refine Tr.gen (P := fun v => (0 ≤ v ∧ v ≤ 1) ∧ tpS r42 p83_8 = v + tpS r42 (p83_8 + 1) ∧ 0 ≤ tpS r42 (p83_8 + 1)) (tpS_l er101 (by omega) (by omega)) (fun r103 er103 br103 => ?_)
                      refine Tr.lconst (pc := 104) (v := 0) d_X12_byTurns_104 rfl (by decide) ?_
                      refine Tr.lcmp (pc := 105) d_X12_byTurns_105 ?_
                      refine Tr.gen (P := fun v => (v = 1 ∧ 0 < r103) ∨ (v = 0 ∧ r103 = 0) ∨ (v = -1 ∧ r103 < 0)) (f_lcmp_c _ _) (fun r105 er105 br105 => ?_)
                      replace br105 := hd_i br105
                      have J145 : ∀ (M : Mem) (p145_7 u145_120_101 : Int), St Tru ws_X12_byTurns_120_w1 as_X12_byTurns_120_w1 M0 M → (0 ≤ p145_7 ∧ p145_7 ≤ 8) → (0 ≤ u145_120_101 ∧ u145_120_101 ≤ 8) → rd M 120 101 = u145_120_101 → rd M 120 85 = r1 → rd M 126 1 = g126_1 → rd M 129 1 = w21_129_1 → (u145_120_101 + tpS r42 (p83_8 + 1) ≤ 8) → (0 ≤ p145_7 ∧ p145_7 ≤ 7) → Tr l K 4 mX12_byTurns 145 [(0, (2, 120)), (1, (0, a1)), (3, (0, a3)), (4, (0, a4)), (5, (1, r42)), (7, (0, p145_7)), (8, (0, p83_8))] [] M (q_X12_byTurns_120_w1 M0) := by
                        intro M p145_7 u145_120_101 hS bp145_7 bu145_120_101 k145_120_101 k145_120_85 k145_126_1 k145_129_1 t145_0 t145_1
                        clear k83_120_101 k83_120_85 k83_126_1 k83_129_1 er101 er103 er105
                        refine Tr.iincV (pc := 145) (n2 := (p83_8 + 1)) (ls2 := [(8, (0, (p83_8 + 1))), (0, (2, 120)), (1, (0, a1)), (3, (0, a3)), (4, (0, a4)), (5, (1, r42)), (7, (0, p145_7))]) d_X12_byTurns_145 rfl (by decide) ((w32_id (by and_intros <;> omega)).trans (by omega)) rfl ?_
                        refine Tr.goto (pc := 148) (tgt := 83) d_X12_byTurns_148 rfl ?_
                        refine Tr.pick [1, 2, 3, 4, 5, 6, 0] (ls2 := [(0, (2, 120)), (1, (0, a1)), (3, (0, a3)), (4, (0, a4)), (5, (1, r42)), (7, (0, p145_7)), (8, (0, (p83_8 + 1)))]) rfl ?_
                        exact J83 _ _ _ _ hS (by and_intros <;> omega) (by and_intros <;> omega) (by and_intros <;> omega) k145_120_101 k145_120_85 k145_126_1 k145_129_1 (by omega) (by and_intros <;> omega) (me_lt hm83 (by omega) (by omega))
                      refine Tr.if_ne (pc := 106) (tgt := 112) d_X12_byTurns_106 rfl (fun c106 => ?_) (fun c106 => ?_)
                      · replace c106 := hd_i c106
                        refine Tr.iload (pc := 112) (i := 8) d_X12_byTurns_112 rfl ?_
                        refine Tr.iload_n (pc := 114) (i := 3) d_X12_byTurns_114 rfl rfl ?_
                        have J124 : ∀ (M : Mem) (p124_7 : Int), St Tru ws_X12_byTurns_120_w1 as_X12_byTurns_120_w1 M0 M → (0 ≤ p124_7 ∧ p124_7 ≤ 8) → rd M 120 101 = u83_120_101 → rd M 120 85 = r1 → rd M 126 1 = g126_1 → rd M 129 1 = w21_129_1 → (u83_120_101 + 1 + tpS r42 (p83_8 + 1) ≤ 8) → (0 ≤ p124_7 ∧ p124_7 ≤ 7) → Tr l K 4 mX12_byTurns 124 [(0, (2, 120)), (1, (0, a1)), (3, (0, a3)), (4, (0, a4)), (5, (1, r42)), (7, (0, p124_7)), (8, (0, p83_8))] [] M (q_X12_byTurns_120_w1 M0) := by
                          intro M p124_7 hS bp124_7 k124_120_101 k124_120_85 k124_126_1 k124_129_1 t124_0 t124_1
                          clear k83_120_101 k83_120_85 k83_126_1 k83_129_1 er101 er103 er105
                          refine Tr.aload_n (pc := 124) (i := 0) d_X12_byTurns_124 rfl rfl ?_
                          refine Tr.getf (pc := 125) d_X12_byTurns_125 f_12_315 (by decide) (by decide) (ty_120 hS.1.1) ?_
                          refine Tr.tp 176 (fx_120_100 hS.1.1) ?_
                          refine Tr.aload_n (pc := 128) (i := 0) d_X12_byTurns_128 rfl rfl ?_
                          refine Tr.getf (pc := 129) d_X12_byTurns_129 f_12_318 (by decide) (by decide) (ty_120 hS.1.1) ?_
                          refine Tr.tp u83_120_101 k124_120_101 ?_
                          refine Tr.iload (pc := 132) (i := 8) d_X12_byTurns_132 rfl ?_
                          refine Tr.iastS (pc := 134) (P := St Tru ws_X12_byTurns_120_w1 as_X12_byTurns_120_w1 M0) d_X12_byTurns_134 (ty_176 hS.1.1) (by omega) (by omega) (sa_176 hS (by decide) (by and_intros <;> omega) trivial) (fun M134 hS w134 => ?_)
                          refine Tr.aload_n (pc := 135) (i := 0) d_X12_byTurns_135 rfl rfl ?_
                          refine Tr.dup (pc := 136) d_X12_byTurns_136 ne21 ?_
                          refine Tr.getf (pc := 137) d_X12_byTurns_137 f_12_318 (by decide) (by decide) (ty_120 hS.1.1) ?_
                          refine Tr.tp u83_120_101 ((Wr.b w134 rfl).trans k124_120_101) ?_
                          refine Tr.iconst (pc := 140) d_X12_byTurns_140 (by decide) ?_
                          refine Tr.iadd (pc := 141) d_X12_byTurns_141 ?_
                          refine Tr.tp (u83_120_101 + 1) ((w32_id (by and_intros <;> omega)).trans (by omega)) ?_
                          refine Tr.putfS (pc := 142) (P := St Tru ws_X12_byTurns_120_w1 as_X12_byTurns_120_w1 M0) d_X12_byTurns_142 f_12_318 (by decide) (by decide) (ty_120 hS.1.1) (st_120_101 hS (by decide) (by and_intros <;> omega) trivial) (fun M142 hS w142 => ?_)
                          refine Tr.pick [0, 1, 2, 3, 4, 5, 6] (ls2 := [(0, (2, 120)), (1, (0, a1)), (3, (0, a3)), (4, (0, a4)), (5, (1, r42)), (7, (0, p124_7)), (8, (0, p83_8))]) rfl ?_
                          exact J145 _ _ _ hS (by and_intros <;> omega) (by and_intros <;> omega) w142.1 ((Wr.b w142 rfl).trans ((Wr.b w134 rfl).trans k124_120_85)) ((Wr.b w142 rfl).trans ((Wr.b w134 rfl).trans k124_126_1)) ((Wr.b w142 rfl).trans ((Wr.b w134 rfl).trans k124_129_1)) (by omega) (by and_intros <;> omega)
                        refine Tr.icmp_ne (pc := 115) (tgt := 124) d_X12_byTurns_115 rfl (fun c115 => ?_) (fun c115 => ?_)
                        · replace c115 := hd_i c115
                          refine Tr.pick [0, 1, 2, 3, 4, 5, 6] (ls2 := [(0, (2, 120)), (1, (0, a1)), (3, (0, a3)), (4, (0, a4)), (5, (1, r42)), (7, (0, p83_7)), (8, (0, p83_8))]) rfl ?_
                          exact J124 _ _ hS (by and_intros <;> omega) k83_120_101 k83_120_85 k83_126_1 k83_129_1 (by exact (ne_o (hd_o c106)).elim (fun h1 => (hd_o br105).elim (fun h2 => by omega) (fun h2 => h2.elim (fun h2 => by omega) (fun h2 => by omega))) (fun h1 => (hd_o br105).elim (fun h2 => by omega) (fun h2 => h2.elim (fun h2 => by omega) (fun h2 => by omega)))) (by and_intros <;> omega)
                        · refine Tr.aload_n (pc := 118) (i := 0) d_X12_byTurns_118 rfl rfl ?_
                          refine Tr.getf (pc := 119) d_X12_byTurns_119 f_12_318 (by decide) (by decide) (ty_120 hS.1.1) ?_
                          refine Tr.tp u83_120_101 k83_120_101 ?_
                          refine Tr.istore (pc := 122) (i := 7) (ls2 := [(7, (0, u83_120_101)), (0, (2, 120)), (1, (0, a1)), (3, (0, a3)), (4, (0, a4)), (5, (1, r42)), (8, (0, p83_8))]) d_X12_byTurns_122 (by decide) rfl ?_
                          refine Tr.pick [1, 2, 3, 4, 5, 0, 6] (ls2 := [(0, (2, 120)), (1, (0, a1)), (3, (0, a3)), (4, (0, a4)), (5, (1, r42)), (7, (0, u83_120_101)), (8, (0, p83_8))]) rfl ?_
                          exact J124 _ _ hS (by and_intros <;> omega) k83_120_101 k83_120_85 k83_126_1 k83_129_1 (by exact (ne_o (hd_o c106)).elim (fun h1 => (hd_o br105).elim (fun h2 => by omega) (fun h2 => h2.elim (fun h2 => by omega) (fun h2 => by omega))) (fun h1 => (hd_o br105).elim (fun h2 => by omega) (fun h2 => h2.elim (fun h2 => by omega) (fun h2 => by omega)))) (by exact (ne_o (hd_o c106)).elim (fun h1 => (hd_o br105).elim (fun h2 => by omega) (fun h2 => h2.elim (fun h2 => by omega) (fun h2 => by omega))) (fun h1 => (hd_o br105).elim (fun h2 => by omega) (fun h2 => h2.elim (fun h2 => by omega) (fun h2 => by omega))))
                      · refine Tr.goto (pc := 109) (tgt := 145) d_X12_byTurns_109 rfl ?_
                        refine Tr.pick [0, 1, 2, 3, 4, 5, 6] (ls2 := [(0, (2, 120)), (1, (0, a1)), (3, (0, a3)), (4, (0, a4)), (5, (1, r42)), (7, (0, p83_7)), (8, (0, p83_8))]) rfl ?_
                        exact J145 _ _ _ hS (by and_intros <;> omega) (by and_intros <;> omega) k83_120_101 k83_120_85 k83_126_1 k83_129_1 (by omega) (by and_intros <;> omega)
                refine Tr.pick [3, 4, 6, 7, 2, 1, 0] (ls2 := [(0, (2, 120)), (1, (0, a1)), (3, (0, a3)), (4, (0, a4)), (5, (1, r42)), (7, (0, 0)), (8, (0, 0))]) rfl ?_
                have jt := tpS_0 r42
                exact J83 _ _ _ _ _ hS (by omega) (by omega) (by omega) w74.1 ((Wr.b w74 rfl).trans ((kp_X12_bitsOf_120_85 h49).trans ((kp_X12_linesIn_120_120_85 h42).trans ((kp_X12_finds_120_120_85 h30).trans ((kp_X12_isLine_120_w1_120_85 h21).trans ((kp_X12_isPart_120_w1_120_85 h9).trans er1)))))) ((Wr.b w74 rfl).trans ((kp_X12_bitsOf_126_1 h49).trans ((kp_X12_linesIn_120_126_1 h42).trans ((kp_X12_finds_120_126_1 h30).trans ((kp_X12_isLine_120_w1_126_1 h21).trans ((kp_X12_isPart_120_w1_126_1 h9).trans eg126_1)))))) ((Wr.b w74 rfl).trans ((kp_X12_bitsOf_129_1 h49).trans ((kp_X12_linesIn_120_129_1 h42).trans ((kp_X12_finds_120_129_1 h30).trans ((kp_X12_isLine_120_w1_129_1 h21).trans ew21_129_1))))) (by omega) (by and_intros <;> omega) (Nat.lt_succ_self _)
              · refine Tr.ldc2 (pc := 68) d_X12_byTurns_68 kl_12_669 (by decide) ?_
                exact Tr.lret (pc := 71) d_X12_byTurns_71 rfl ⟨hS, _, rfl, by omega, by omega⟩
          · refine Tr.ldc2 (pc := 36) d_X12_byTurns_36 kl_12_669 (by decide) ?_
            exact Tr.lret (pc := 39) d_X12_byTurns_39 rfl ⟨hS, _, rfl, by omega, by omega⟩

