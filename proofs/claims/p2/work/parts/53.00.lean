set_option maxRecDepth 100000 in
set_option maxHeartbeats 4000000 in
theorem lw_feed {l : Launch} {K : EC} {f : Int → Int} {L : Nat} {xq : Int} {M : Mem} {i : Int} {Q : Mem → Option PV → Prop} (hE : e_all K xq) (he : e_ext K 0 L f) (hr : ∀ j, -2147483648 ≤ f j ∧ f j ≤ 2147483647) (i0 : 0 ≤ i) (i1 : i + 6 ≤ L) (iL : (L : Int) ≤ 3072) (hL : LI M) (J : ∀ M' : Mem, LI M' → Tr l K 60 mL_law 996 [(0, (2, -2)), (1, (2, 0)), (2, (2, 120)), (3, (0, i))] [] M' Q) : Tr l K 60 mL_law 160 [(0, (2, -2)), (1, (2, 0)), (2, (2, 120)), (3, (0, i))] [] M Q := by
  obtain ⟨hI, hx, hm, ht, ha⟩ := hL
  refine Tr.aload_n (pc := 160) (i := 1) d_L_law_160 rfl rfl ?_
  refine Tr.aload_n (pc := 161) (i := 0) d_L_law_161 rfl rfl ?_
  refine Tr.iload_n (pc := 162) (i := 3) d_L_law_162 rfl rfl ?_
  refine Tr.iconst (pc := 163) d_L_law_163 (by decide) ?_
  refine Tr.iadd (pc := 164) d_L_law_164 ?_
  refine Tr.tp (i + 1) (w32_id (by omega)) ?_
  refine Tr.xld (pc := 165) (i := 0) d_L_law_165 rfl he (by omega) (by omega) ?_
  refine Tr.aload_n (pc := 166) (i := 0) d_L_law_166 rfl rfl ?_
  refine Tr.iload_n (pc := 167) (i := 3) d_L_law_167 rfl rfl ?_
  refine Tr.iconst (pc := 168) d_L_law_168 (by decide) ?_
  refine Tr.iadd (pc := 169) d_L_law_169 ?_
  refine Tr.tp (i + 2) (w32_id (by omega)) ?_
  refine Tr.xld (pc := 170) (i := 0) d_L_law_170 rfl he (by omega) (by omega) ?_
  refine Tr.aload_n (pc := 171) (i := 0) d_L_law_171 rfl rfl ?_
  refine Tr.iload_n (pc := 172) (i := 3) d_L_law_172 rfl rfl ?_
  refine Tr.iconst (pc := 173) d_L_law_173 (by decide) ?_
  refine Tr.iadd (pc := 174) d_L_law_174 ?_
  refine Tr.tp (i + 3) (w32_id (by omega)) ?_
  refine Tr.xld (pc := 175) (i := 0) d_L_law_175 rfl he (by omega) (by omega) ?_
  refine Tr.aload_n (pc := 176) (i := 0) d_L_law_176 rfl rfl ?_
  refine Tr.iload_n (pc := 177) (i := 3) d_L_law_177 rfl rfl ?_
  refine Tr.iconst (pc := 178) d_L_law_178 (by decide) ?_
  refine Tr.iadd (pc := 179) d_L_law_179 ?_
  refine Tr.tp (i + 4) (w32_id (by omega)) ?_
  refine Tr.xld (pc := 180) (i := 0) d_L_law_180 rfl he (by omega) (by omega) ?_
  refine Tr.aload_n (pc := 181) (i := 0) d_L_law_181 rfl rfl ?_
  refine Tr.iload_n (pc := 182) (i := 3) d_L_law_182 rfl rfl ?_
  refine Tr.iconst (pc := 183) d_L_law_183 (by decide) ?_
  refine Tr.iadd (pc := 184) d_L_law_184 ?_
  refine Tr.tp (i + 5) (w32_id (by omega)) ?_
  refine Tr.xld (pc := 185) (i := 0) d_L_law_185 rfl he (by omega) (by omega) ?_
  refine Tr.callV (pc := 186) (as := [_, _, _, _, _]) d_L_law_186 s_13_13 ok_X11_feed rfl rfl (Nat.le_of_ble_eq_true rfl) (Nat.le_of_ble_eq_true rfl) (by decide) (ty_0 hI.1) ?_
  refine Tr.imp (xu_feed hE hI hx (f (i + 1)) (hr _) (f (i + 2)) (hr _) (f (i + 3)) (hr _) (f (i + 4)) (hr _) (f (i + 5)) (hr _)) ?_
  rintro M1 _ ⟨hI1, hx1, f1, v1, rfl, z1⟩
  have hm1 := hm.fr f1
  have k1 := f1 120 1 (by decide) (by decide)
  have k2 := f1 120 113 (by decide) (by decide)
  refine Tr.sc [(0, v1)] rfl ?_
  refine Tr.aload_n (pc := 189) (i := 2) d_L_law_189 rfl rfl ?_
  refine Tr.aload_n (pc := 190) (i := 0) d_L_law_190 rfl rfl ?_
  refine Tr.iload_n (pc := 191) (i := 3) d_L_law_191 rfl rfl ?_
  refine Tr.iconst (pc := 192) d_L_law_192 (by decide) ?_
  refine Tr.iadd (pc := 193) d_L_law_193 ?_
  refine Tr.tp (i + 1) (w32_id (by omega)) ?_
  refine Tr.xld (pc := 194) (i := 0) d_L_law_194 rfl he (by omega) (by omega) ?_
  refine Tr.aload_n (pc := 195) (i := 0) d_L_law_195 rfl rfl ?_
  refine Tr.iload_n (pc := 196) (i := 3) d_L_law_196 rfl rfl ?_
  refine Tr.iconst (pc := 197) d_L_law_197 (by decide) ?_
  refine Tr.iadd (pc := 198) d_L_law_198 ?_
  refine Tr.tp (i + 2) (w32_id (by omega)) ?_
  refine Tr.xld (pc := 199) (i := 0) d_L_law_199 rfl he (by omega) (by omega) ?_
  refine Tr.aload_n (pc := 200) (i := 0) d_L_law_200 rfl rfl ?_
  refine Tr.iload_n (pc := 201) (i := 3) d_L_law_201 rfl rfl ?_
  refine Tr.iconst (pc := 202) d_L_law_202 (by decide) ?_
  refine Tr.iadd (pc := 203) d_L_law_203 ?_
  refine Tr.tp (i + 3) (w32_id (by omega)) ?_
  refine Tr.xld (pc := 204) (i := 0) d_L_law_204 rfl he (by omega) (by omega) ?_
  refine Tr.aload_n (pc := 205) (i := 0) d_L_law_205 rfl rfl ?_
  refine Tr.iload_n (pc := 206) (i := 3) d_L_law_206 rfl rfl ?_
  refine Tr.iconst (pc := 207) d_L_law_207 (by decide) ?_
  refine Tr.iadd (pc := 208) d_L_law_208 ?_
  refine Tr.tp (i + 4) (w32_id (by omega)) ?_
  refine Tr.xld (pc := 209) (i := 0) d_L_law_209 rfl he (by omega) (by omega) ?_
  refine Tr.aload_n (pc := 210) (i := 0) d_L_law_210 rfl rfl ?_
  refine Tr.iload_n (pc := 211) (i := 3) d_L_law_211 rfl rfl ?_
  refine Tr.iconst (pc := 212) d_L_law_212 (by decide) ?_
  refine Tr.iadd (pc := 213) d_L_law_213 ?_
  refine Tr.tp (i + 5) (w32_id (by omega)) ?_
  refine Tr.xld (pc := 214) (i := 0) d_L_law_214 rfl he (by omega) (by omega) ?_
  refine Tr.callV (pc := 215) (as := [_, _, _, _, _]) d_L_law_215 s_13_17 ok_X12_feed rfl rfl (Nat.le_of_ble_eq_true rfl) (Nat.le_of_ble_eq_true rfl) (by decide) (ty_120 hI1.1) ?_
  refine Tr.imp (mu_feed hI1 hm1 (f (i + 1)) (hr _) (f (i + 2)) (hr _) (f (i + 3)) (hr _) (f (i + 4)) (hr _) (f (i + 5)) (hr _)) ?_
  rintro M2 _ ⟨hI2, hm2, f2, v2, rfl, z2⟩
  have hx2 := hx1.fr hI1 f2
  have k3 := f2 0 1 (Or.inl (by decide))
  have k4 := f2 113 0 (Or.inl (by decide))
  refine Tr.sc [(0, v2), (0, v1)] rfl ?_
  refine Tr.icmp_eq (pc := 218) (tgt := 996) d_L_law_218 rfl (fun _ => ?_) (fun hc => absurd (show v1 = v2 by omega) hc)
  exact J _ ⟨hI2, hx2, hm2, by omega, by omega⟩

set_option maxRecDepth 100000 in
set_option maxHeartbeats 4000000 in
theorem lw_end {l : Launch} {K : EC} {f : Int → Int} {L : Nat} {xq : Int} {M : Mem} {i : Int} {Q : Mem → Option PV → Prop} (hE : e_all K xq) (he : e_ext K 0 L f) (hr : ∀ j, -2147483648 ≤ f j ∧ f j ≤ 2147483647) (i0 : 0 ≤ i) (i1 : i + 6 ≤ L) (iL : (L : Int) ≤ 3072) (hL : LI M) (J : ∀ M' : Mem, LI M' → Tr l K 60 mL_law 996 [(0, (2, -2)), (1, (2, 0)), (2, (2, 120)), (3, (0, i))] [] M' Q) : Tr l K 60 mL_law 223 [(0, (2, -2)), (1, (2, 0)), (2, (2, 120)), (3, (0, i))] [] M Q := by
  obtain ⟨hI, hx, hm, ht, ha⟩ := hL
  refine Tr.aload_n (pc := 223) (i := 1) d_L_law_223 rfl rfl ?_
  refine Tr.aload_n (pc := 224) (i := 0) d_L_law_224 rfl rfl ?_
  refine Tr.iload_n (pc := 225) (i := 3) d_L_law_225 rfl rfl ?_
  refine Tr.iconst (pc := 226) d_L_law_226 (by decide) ?_
  refine Tr.iadd (pc := 227) d_L_law_227 ?_
  refine Tr.tp (i + 1) (w32_id (by omega)) ?_
  refine Tr.xld (pc := 228) (i := 0) d_L_law_228 rfl he (by omega) (by omega) ?_
  refine Tr.callV (pc := 229) (as := [_]) d_L_law_229 s_13_18 ok_X11_end rfl rfl (Nat.le_of_ble_eq_true rfl) (Nat.le_of_ble_eq_true rfl) (by decide) (ty_0 hI.1) ?_
  refine Tr.imp (xu_end hE hI hx (f (i + 1)) (hr _)) ?_
  rintro M1 _ ⟨hI1, hx1, f1, v1, rfl, z1⟩
  have hm1 := hm.fr f1
  have k1 := f1 120 1 (by decide) (by decide)
  have k2 := f1 120 113 (by decide) (by decide)
  refine Tr.sc [(0, v1)] rfl ?_
  refine Tr.pop (pc := 232) d_L_law_232 ne01 ?_
  refine Tr.aload_n (pc := 233) (i := 2) d_L_law_233 rfl rfl ?_
  refine Tr.aload_n (pc := 234) (i := 0) d_L_law_234 rfl rfl ?_
  refine Tr.iload_n (pc := 235) (i := 3) d_L_law_235 rfl rfl ?_
  refine Tr.iconst (pc := 236) d_L_law_236 (by decide) ?_
  refine Tr.iadd (pc := 237) d_L_law_237 ?_
  refine Tr.tp (i + 1) (w32_id (by omega)) ?_
  refine Tr.xld (pc := 238) (i := 0) d_L_law_238 rfl he (by omega) (by omega) ?_
  refine Tr.callV (pc := 239) (as := [_]) d_L_law_239 s_13_22 ok_X12_end rfl rfl (Nat.le_of_ble_eq_true rfl) (Nat.le_of_ble_eq_true rfl) (by decide) (ty_120 hI1.1) ?_
  refine Tr.imp (mu_end hI1 hm1 (f (i + 1)) (hr _)) ?_
  rintro M2 _ ⟨hI2, hm2, f2, v2, rfl, z2⟩
  have hx2 := hx1.fr hI1 f2
  have k3 := f2 0 1 (Or.inl (by decide))
  have k4 := f2 113 0 (Or.inl (by decide))
  refine Tr.sc [(0, v2)] rfl ?_
  refine Tr.pop (pc := 242) d_L_law_242 ne01 ?_
  refine Tr.goto (pc := 243) (tgt := 996) d_L_law_243 rfl ?_
  exact J _ ⟨hI2, hx2, hm2, by omega, by omega⟩

set_option maxRecDepth 100000 in
set_option maxHeartbeats 4000000 in
theorem lw_text {l : Launch} {K : EC} {f : Int → Int} {L : Nat} {xq : Int} {M : Mem} {i : Int} {Q : Mem → Option PV → Prop} (hE : e_all K xq) (he : e_ext K 0 L f) (hr : ∀ j, -2147483648 ≤ f j ∧ f j ≤ 2147483647) (i0 : 0 ≤ i) (i1 : i + 6 ≤ L) (iL : (L : Int) ≤ 3072) (hL : LI M) (J : ∀ M' : Mem, LI M' → Tr l K 60 mL_law 996 [(0, (2, -2)), (1, (2, 0)), (2, (2, 120)), (3, (0, i))] [] M' Q) : Tr l K 60 mL_law 246 [(0, (2, -2)), (1, (2, 0)), (2, (2, 120)), (3, (0, i))] [] M Q := by
  obtain ⟨hI, hx, hm, ht, ha⟩ := hL
  refine Tr.aload_n (pc := 246) (i := 1) d_L_law_246 rfl rfl ?_
  refine Tr.callV (pc := 247) (as := []) d_L_law_247 s_13_23 ok_X11_text rfl rfl (Nat.le_of_ble_eq_true rfl) (Nat.le_of_ble_eq_true rfl) (by decide) (ty_0 hI.1) ?_
  refine Tr.imp (xu_text hE hI hx ) ?_
  rintro M1 _ ⟨hI1, hx1, f1, v1, rfl, z1⟩
  have hm1 := hm.fr f1
  have k1 := f1 120 1 (by decide) (by decide)
  have k2 := f1 120 113 (by decide) (by decide)
  refine Tr.sc [(0, v1)] rfl ?_
  refine Tr.pop (pc := 250) d_L_law_250 ne01 ?_
  refine Tr.aload_n (pc := 251) (i := 2) d_L_law_251 rfl rfl ?_
  refine Tr.callV (pc := 252) (as := []) d_L_law_252 s_13_27 ok_X12_text rfl rfl (Nat.le_of_ble_eq_true rfl) (Nat.le_of_ble_eq_true rfl) (by decide) (ty_120 hI1.1) ?_
  refine Tr.imp (mu_text hI1 hm1 ) ?_
  rintro M2 _ ⟨hI2, hm2, f2, v2, rfl, z2⟩
  have hx2 := hx1.fr hI1 f2
  have k3 := f2 0 1 (Or.inl (by decide))
  have k4 := f2 113 0 (Or.inl (by decide))
  refine Tr.sc [(0, v2)] rfl ?_
  refine Tr.pop (pc := 255) d_L_law_255 ne01 ?_
  refine Tr.goto (pc := 256) (tgt := 996) d_L_law_256 rfl ?_
  exact J _ ⟨hI2, hx2, hm2, by omega, by omega⟩

set_option maxRecDepth 100000 in
set_option maxHeartbeats 4000000 in
theorem lw_fault {l : Launch} {K : EC} {f : Int → Int} {L : Nat} {xq : Int} {M : Mem} {i : Int} {Q : Mem → Option PV → Prop} (hE : e_all K xq) (he : e_ext K 0 L f) (hr : ∀ j, -2147483648 ≤ f j ∧ f j ≤ 2147483647) (i0 : 0 ≤ i) (i1 : i + 6 ≤ L) (iL : (L : Int) ≤ 3072) (hL : LI M) (J : ∀ M' : Mem, LI M' → Tr l K 60 mL_law 996 [(0, (2, -2)), (1, (2, 0)), (2, (2, 120)), (3, (0, i))] [] M' Q) : Tr l K 60 mL_law 259 [(0, (2, -2)), (1, (2, 0)), (2, (2, 120)), (3, (0, i))] [] M Q := by
  obtain ⟨hI, hx, hm, ht, ha⟩ := hL
  refine Tr.aload_n (pc := 259) (i := 1) d_L_law_259 rfl rfl ?_
  refine Tr.aload_n (pc := 260) (i := 0) d_L_law_260 rfl rfl ?_
  refine Tr.iload_n (pc := 261) (i := 3) d_L_law_261 rfl rfl ?_
  refine Tr.iconst (pc := 262) d_L_law_262 (by decide) ?_
  refine Tr.iadd (pc := 263) d_L_law_263 ?_
  refine Tr.tp (i + 1) (w32_id (by omega)) ?_
  refine Tr.xld (pc := 264) (i := 0) d_L_law_264 rfl he (by omega) (by omega) ?_
  refine Tr.callV (pc := 265) (as := [_]) d_L_law_265 s_13_28 ok_X11_fault rfl rfl (Nat.le_of_ble_eq_true rfl) (Nat.le_of_ble_eq_true rfl) (by decide) (ty_0 hI.1) ?_
  refine Tr.imp (xu_fault hE hI hx (f (i + 1)) (hr _)) ?_
  rintro M1 _ ⟨hI1, hx1, f1, v1, rfl, z1⟩
  have hm1 := hm.fr f1
  have k1 := f1 120 1 (by decide) (by decide)
  have k2 := f1 120 113 (by decide) (by decide)
  refine Tr.sc [(0, v1)] rfl ?_
  refine Tr.pop (pc := 268) d_L_law_268 ne01 ?_
  refine Tr.aload_n (pc := 269) (i := 2) d_L_law_269 rfl rfl ?_
  refine Tr.aload_n (pc := 270) (i := 0) d_L_law_270 rfl rfl ?_
  refine Tr.iload_n (pc := 271) (i := 3) d_L_law_271 rfl rfl ?_
  refine Tr.iconst (pc := 272) d_L_law_272 (by decide) ?_
  refine Tr.iadd (pc := 273) d_L_law_273 ?_
  refine Tr.tp (i + 1) (w32_id (by omega)) ?_
  refine Tr.xld (pc := 274) (i := 0) d_L_law_274 rfl he (by omega) (by omega) ?_
  refine Tr.callV (pc := 275) (as := [_]) d_L_law_275 s_13_32 ok_X12_fault rfl rfl (Nat.le_of_ble_eq_true rfl) (Nat.le_of_ble_eq_true rfl) (by decide) (ty_120 hI1.1) ?_
  refine Tr.imp (mu_fault hI1 hm1 (f (i + 1)) (hr _)) ?_
  rintro M2 _ ⟨hI2, hm2, f2, v2, rfl, z2⟩
  have hx2 := hx1.fr hI1 f2
  have k3 := f2 0 1 (Or.inl (by decide))
  have k4 := f2 113 0 (Or.inl (by decide))
  refine Tr.sc [(0, v2)] rfl ?_
  refine Tr.pop (pc := 278) d_L_law_278 ne01 ?_
  refine Tr.goto (pc := 279) (tgt := 996) d_L_law_279 rfl ?_
  exact J _ ⟨hI2, hx2, hm2, by omega, by omega⟩

set_option maxRecDepth 100000 in
set_option maxHeartbeats 4000000 in
theorem lw_has {l : Launch} {K : EC} {f : Int → Int} {L : Nat} {xq : Int} {M : Mem} {i : Int} {Q : Mem → Option PV → Prop} (hE : e_all K xq) (he : e_ext K 0 L f) (hr : ∀ j, -2147483648 ≤ f j ∧ f j ≤ 2147483647) (i0 : 0 ≤ i) (i1 : i + 6 ≤ L) (iL : (L : Int) ≤ 3072) (hL : LI M) (J : ∀ M' : Mem, LI M' → Tr l K 60 mL_law 996 [(0, (2, -2)), (1, (2, 0)), (2, (2, 120)), (3, (0, i))] [] M' Q) : Tr l K 60 mL_law 282 [(0, (2, -2)), (1, (2, 0)), (2, (2, 120)), (3, (0, i))] [] M Q := by
  obtain ⟨hI, hx, hm, ht, ha⟩ := hL
  refine Tr.aload_n (pc := 282) (i := 1) d_L_law_282 rfl rfl ?_
  refine Tr.aload_n (pc := 283) (i := 0) d_L_law_283 rfl rfl ?_
  refine Tr.iload_n (pc := 284) (i := 3) d_L_law_284 rfl rfl ?_
  refine Tr.iconst (pc := 285) d_L_law_285 (by decide) ?_
  refine Tr.iadd (pc := 286) d_L_law_286 ?_
  refine Tr.tp (i + 1) (w32_id (by omega)) ?_
  refine Tr.xld (pc := 287) (i := 0) d_L_law_287 rfl he (by omega) (by omega) ?_
  refine Tr.callV (pc := 288) (as := [_]) d_L_law_288 s_13_33 ok_X11_has rfl rfl (Nat.le_of_ble_eq_true rfl) (Nat.le_of_ble_eq_true rfl) (by decide) (ty_0 hI.1) ?_
  refine Tr.imp (xu_has hE hI hx (f (i + 1)) (hr _)) ?_
  rintro M1 _ ⟨hI1, hx1, f1, v1, rfl, z1⟩
  have hm1 := hm.fr f1
  have k1 := f1 120 1 (by decide) (by decide)
  have k2 := f1 120 113 (by decide) (by decide)
  refine Tr.sc [(0, v1)] rfl ?_
  refine Tr.pop (pc := 291) d_L_law_291 ne01 ?_
  refine Tr.aload_n (pc := 292) (i := 2) d_L_law_292 rfl rfl ?_
  refine Tr.aload_n (pc := 293) (i := 0) d_L_law_293 rfl rfl ?_
  refine Tr.iload_n (pc := 294) (i := 3) d_L_law_294 rfl rfl ?_
  refine Tr.iconst (pc := 295) d_L_law_295 (by decide) ?_
  refine Tr.iadd (pc := 296) d_L_law_296 ?_
  refine Tr.tp (i + 1) (w32_id (by omega)) ?_
  refine Tr.xld (pc := 297) (i := 0) d_L_law_297 rfl he (by omega) (by omega) ?_
  refine Tr.callV (pc := 298) (as := [_]) d_L_law_298 s_13_36 ok_X12_has rfl rfl (Nat.le_of_ble_eq_true rfl) (Nat.le_of_ble_eq_true rfl) (by decide) (ty_120 hI1.1) ?_
  refine Tr.imp (mu_has hI1 hm1 (f (i + 1)) (hr _)) ?_
  rintro M2 _ ⟨hI2, hm2, f2, v2, rfl, z2⟩
  have hx2 := hx1.fr hI1 f2
  have k3 := f2 0 1 (Or.inl (by decide))
  have k4 := f2 113 0 (Or.inl (by decide))
  refine Tr.sc [(0, v2)] rfl ?_
  refine Tr.pop (pc := 301) d_L_law_301 ne01 ?_
  refine Tr.goto (pc := 302) (tgt := 996) d_L_law_302 rfl ?_
  exact J _ ⟨hI2, hx2, hm2, by omega, by omega⟩

set_option maxRecDepth 100000 in
set_option maxHeartbeats 4000000 in
theorem lw_letter {l : Launch} {K : EC} {f : Int → Int} {L : Nat} {xq : Int} {M : Mem} {i : Int} {Q : Mem → Option PV → Prop} (hE : e_all K xq) (he : e_ext K 0 L f) (hr : ∀ j, -2147483648 ≤ f j ∧ f j ≤ 2147483647) (i0 : 0 ≤ i) (i1 : i + 6 ≤ L) (iL : (L : Int) ≤ 3072) (hL : LI M) (J : ∀ M' : Mem, LI M' → Tr l K 60 mL_law 996 [(0, (2, -2)), (1, (2, 0)), (2, (2, 120)), (3, (0, i))] [] M' Q) : Tr l K 60 mL_law 305 [(0, (2, -2)), (1, (2, 0)), (2, (2, 120)), (3, (0, i))] [] M Q := by
  obtain ⟨hI, hx, hm, ht, ha⟩ := hL
  refine Tr.aload_n (pc := 305) (i := 1) d_L_law_305 rfl rfl ?_
  refine Tr.aload_n (pc := 306) (i := 0) d_L_law_306 rfl rfl ?_
  refine Tr.iload_n (pc := 307) (i := 3) d_L_law_307 rfl rfl ?_
  refine Tr.iconst (pc := 308) d_L_law_308 (by decide) ?_
  refine Tr.iadd (pc := 309) d_L_law_309 ?_
  refine Tr.tp (i + 1) (w32_id (by omega)) ?_
  refine Tr.xld (pc := 310) (i := 0) d_L_law_310 rfl he (by omega) (by omega) ?_
  refine Tr.aload_n (pc := 311) (i := 0) d_L_law_311 rfl rfl ?_
  refine Tr.iload_n (pc := 312) (i := 3) d_L_law_312 rfl rfl ?_
  refine Tr.iconst (pc := 313) d_L_law_313 (by decide) ?_
  refine Tr.iadd (pc := 314) d_L_law_314 ?_
  refine Tr.tp (i + 2) (w32_id (by omega)) ?_
  refine Tr.xld (pc := 315) (i := 0) d_L_law_315 rfl he (by omega) (by omega) ?_
  refine Tr.aload_n (pc := 316) (i := 0) d_L_law_316 rfl rfl ?_
  refine Tr.iload_n (pc := 317) (i := 3) d_L_law_317 rfl rfl ?_
  refine Tr.iconst (pc := 318) d_L_law_318 (by decide) ?_
  refine Tr.iadd (pc := 319) d_L_law_319 ?_
  refine Tr.tp (i + 3) (w32_id (by omega)) ?_
  refine Tr.xld (pc := 320) (i := 0) d_L_law_320 rfl he (by omega) (by omega) ?_
  refine Tr.callV (pc := 321) (as := [_, _, _]) d_L_law_321 s_13_37 ok_X11_letter rfl rfl (Nat.le_of_ble_eq_true rfl) (Nat.le_of_ble_eq_true rfl) (by decide) (ty_0 hI.1) ?_
  refine Tr.imp (xu_letter hE hI hx (f (i + 1)) (hr _) (f (i + 2)) (hr _) (f (i + 3)) (hr _)) ?_
  rintro M1 _ ⟨hI1, hx1, f1, v1, rfl, z1⟩
  have hm1 := hm.fr f1
  have k1 := f1 120 1 (by decide) (by decide)
  have k2 := f1 120 113 (by decide) (by decide)
  refine Tr.sc [(0, v1)] rfl ?_
  refine Tr.pop (pc := 324) d_L_law_324 ne01 ?_
  refine Tr.aload_n (pc := 325) (i := 2) d_L_law_325 rfl rfl ?_
  refine Tr.aload_n (pc := 326) (i := 0) d_L_law_326 rfl rfl ?_
  refine Tr.iload_n (pc := 327) (i := 3) d_L_law_327 rfl rfl ?_
  refine Tr.iconst (pc := 328) d_L_law_328 (by decide) ?_
  refine Tr.iadd (pc := 329) d_L_law_329 ?_
  refine Tr.tp (i + 1) (w32_id (by omega)) ?_
  refine Tr.xld (pc := 330) (i := 0) d_L_law_330 rfl he (by omega) (by omega) ?_
  refine Tr.aload_n (pc := 331) (i := 0) d_L_law_331 rfl rfl ?_
  refine Tr.iload_n (pc := 332) (i := 3) d_L_law_332 rfl rfl ?_
  refine Tr.iconst (pc := 333) d_L_law_333 (by decide) ?_
  refine Tr.iadd (pc := 334) d_L_law_334 ?_
  refine Tr.tp (i + 2) (w32_id (by omega)) ?_
  refine Tr.xld (pc := 335) (i := 0) d_L_law_335 rfl he (by omega) (by omega) ?_
  refine Tr.aload_n (pc := 336) (i := 0) d_L_law_336 rfl rfl ?_
  refine Tr.iload_n (pc := 337) (i := 3) d_L_law_337 rfl rfl ?_
  refine Tr.iconst (pc := 338) d_L_law_338 (by decide) ?_
  refine Tr.iadd (pc := 339) d_L_law_339 ?_
  refine Tr.tp (i + 3) (w32_id (by omega)) ?_
  refine Tr.xld (pc := 340) (i := 0) d_L_law_340 rfl he (by omega) (by omega) ?_
  refine Tr.callV (pc := 341) (as := [_, _, _]) d_L_law_341 s_13_41 ok_X12_letter rfl rfl (Nat.le_of_ble_eq_true rfl) (Nat.le_of_ble_eq_true rfl) (by decide) (ty_120 hI1.1) ?_
  refine Tr.imp (mu_letter hI1 hm1 (f (i + 1)) (hr _) (f (i + 2)) (hr _) (f (i + 3)) (hr _)) ?_
  rintro M2 _ ⟨hI2, hm2, f2, v2, rfl, z2⟩
  have hx2 := hx1.fr hI1 f2
  have k3 := f2 0 1 (Or.inl (by decide))
  have k4 := f2 113 0 (Or.inl (by decide))
  refine Tr.sc [(0, v2)] rfl ?_
  refine Tr.pop (pc := 344) d_L_law_344 ne01 ?_
  refine Tr.goto (pc := 345) (tgt := 996) d_L_law_345 rfl ?_
  exact J _ ⟨hI2, hx2, hm2, by omega, by omega⟩

set_option maxRecDepth 100000 in
set_option maxHeartbeats 4000000 in
theorem lw_put {l : Launch} {K : EC} {f : Int → Int} {L : Nat} {xq : Int} {M : Mem} {i : Int} {Q : Mem → Option PV → Prop} (hE : e_all K xq) (he : e_ext K 0 L f) (hr : ∀ j, -2147483648 ≤ f j ∧ f j ≤ 2147483647) (i0 : 0 ≤ i) (i1 : i + 6 ≤ L) (iL : (L : Int) ≤ 3072) (hL : LI M) (J : ∀ M' : Mem, LI M' → Tr l K 60 mL_law 996 [(0, (2, -2)), (1, (2, 0)), (2, (2, 120)), (3, (0, i))] [] M' Q) : Tr l K 60 mL_law 348 [(0, (2, -2)), (1, (2, 0)), (2, (2, 120)), (3, (0, i))] [] M Q := by
  obtain ⟨hI, hx, hm, ht, ha⟩ := hL
  refine Tr.aload_n (pc := 348) (i := 1) d_L_law_348 rfl rfl ?_
  refine Tr.aload_n (pc := 349) (i := 0) d_L_law_349 rfl rfl ?_
  refine Tr.iload_n (pc := 350) (i := 3) d_L_law_350 rfl rfl ?_
  refine Tr.iconst (pc := 351) d_L_law_351 (by decide) ?_
  refine Tr.iadd (pc := 352) d_L_law_352 ?_
  refine Tr.tp (i + 1) (w32_id (by omega)) ?_
  refine Tr.xld (pc := 353) (i := 0) d_L_law_353 rfl he (by omega) (by omega) ?_
  refine Tr.aload_n (pc := 354) (i := 0) d_L_law_354 rfl rfl ?_
  refine Tr.iload_n (pc := 355) (i := 3) d_L_law_355 rfl rfl ?_
  refine Tr.iconst (pc := 356) d_L_law_356 (by decide) ?_
  refine Tr.iadd (pc := 357) d_L_law_357 ?_
  refine Tr.tp (i + 2) (w32_id (by omega)) ?_
  refine Tr.xld (pc := 358) (i := 0) d_L_law_358 rfl he (by omega) (by omega) ?_
  refine Tr.callV (pc := 359) (as := [_, _]) d_L_law_359 s_13_42 ok_X11_put rfl rfl (Nat.le_of_ble_eq_true rfl) (Nat.le_of_ble_eq_true rfl) (by decide) (ty_0 hI.1) ?_
  refine Tr.imp (xu_put hE hI hx (f (i + 1)) (hr _) (f (i + 2)) (hr _)) ?_
  rintro M1 _ ⟨hI1, hx1, f1, v1, rfl, z1⟩
  have hm1 := hm.fr f1
  have k1 := f1 120 1 (by decide) (by decide)
  have k2 := f1 120 113 (by decide) (by decide)
  refine Tr.sc [(0, v1)] rfl ?_
  refine Tr.pop (pc := 362) d_L_law_362 ne01 ?_
  refine Tr.aload_n (pc := 363) (i := 2) d_L_law_363 rfl rfl ?_
  refine Tr.aload_n (pc := 364) (i := 0) d_L_law_364 rfl rfl ?_
  refine Tr.iload_n (pc := 365) (i := 3) d_L_law_365 rfl rfl ?_
  refine Tr.iconst (pc := 366) d_L_law_366 (by decide) ?_
  refine Tr.iadd (pc := 367) d_L_law_367 ?_
  refine Tr.tp (i + 1) (w32_id (by omega)) ?_
  refine Tr.xld (pc := 368) (i := 0) d_L_law_368 rfl he (by omega) (by omega) ?_
  refine Tr.aload_n (pc := 369) (i := 0) d_L_law_369 rfl rfl ?_
  refine Tr.iload_n (pc := 370) (i := 3) d_L_law_370 rfl rfl ?_
  refine Tr.iconst (pc := 371) d_L_law_371 (by decide) ?_
  refine Tr.iadd (pc := 372) d_L_law_372 ?_
  refine Tr.tp (i + 2) (w32_id (by omega)) ?_
  refine Tr.xld (pc := 373) (i := 0) d_L_law_373 rfl he (by omega) (by omega) ?_
  refine Tr.callV (pc := 374) (as := [_, _]) d_L_law_374 s_13_46 ok_X12_put_ rfl rfl (Nat.le_of_ble_eq_true rfl) (Nat.le_of_ble_eq_true rfl) (by decide) (ty_120 hI1.1) ?_
  refine Tr.imp (mu_put hI1 hm1 (f (i + 1)) (hr _) (f (i + 2)) (hr _)) ?_
  rintro M2 _ ⟨hI2, hm2, f2, v2, rfl, z2⟩
  have hx2 := hx1.fr hI1 f2
  have k3 := f2 0 1 (Or.inl (by decide))
  have k4 := f2 113 0 (Or.inl (by decide))
  refine Tr.sc [(0, v2)] rfl ?_
  refine Tr.pop (pc := 377) d_L_law_377 ne01 ?_
  refine Tr.goto (pc := 378) (tgt := 996) d_L_law_378 rfl ?_
  exact J _ ⟨hI2, hx2, hm2, by omega, by omega⟩

set_option maxRecDepth 100000 in
set_option maxHeartbeats 4000000 in
theorem lw_run {l : Launch} {K : EC} {f : Int → Int} {L : Nat} {xq : Int} {M : Mem} {i : Int} {Q : Mem → Option PV → Prop} (hE : e_all K xq) (he : e_ext K 0 L f) (hr : ∀ j, -2147483648 ≤ f j ∧ f j ≤ 2147483647) (i0 : 0 ≤ i) (i1 : i + 6 ≤ L) (iL : (L : Int) ≤ 3072) (hL : LI M) (J : ∀ M' : Mem, LI M' → Tr l K 60 mL_law 996 [(0, (2, -2)), (1, (2, 0)), (2, (2, 120)), (3, (0, i))] [] M' Q) : Tr l K 60 mL_law 381 [(0, (2, -2)), (1, (2, 0)), (2, (2, 120)), (3, (0, i))] [] M Q := by
  obtain ⟨hI, hx, hm, ht, ha⟩ := hL
  refine Tr.aload_n (pc := 381) (i := 1) d_L_law_381 rfl rfl ?_
  refine Tr.aload_n (pc := 382) (i := 0) d_L_law_382 rfl rfl ?_
  refine Tr.iload_n (pc := 383) (i := 3) d_L_law_383 rfl rfl ?_
  refine Tr.iconst (pc := 384) d_L_law_384 (by decide) ?_
  refine Tr.iadd (pc := 385) d_L_law_385 ?_
  refine Tr.tp (i + 1) (w32_id (by omega)) ?_
  refine Tr.xld (pc := 386) (i := 0) d_L_law_386 rfl he (by omega) (by omega) ?_
  refine Tr.callV (pc := 387) (as := [_]) d_L_law_387 s_13_47 ok_X11_run rfl rfl (Nat.le_of_ble_eq_true rfl) (Nat.le_of_ble_eq_true rfl) (by decide) (ty_0 hI.1) ?_
  refine Tr.imp (xu_run hE hI hx (f (i + 1)) (hr _)) ?_
  rintro M1 _ ⟨hI1, hx1, f1, v1, rfl, z1⟩
  have hm1 := hm.fr f1
  have k1 := f1 120 1 (by decide) (by decide)
  have k2 := f1 120 113 (by decide) (by decide)
  refine Tr.sc [(0, v1)] rfl ?_
  refine Tr.pop (pc := 390) d_L_law_390 ne01 ?_
  refine Tr.aload_n (pc := 391) (i := 2) d_L_law_391 rfl rfl ?_
  refine Tr.aload_n (pc := 392) (i := 0) d_L_law_392 rfl rfl ?_
  refine Tr.iload_n (pc := 393) (i := 3) d_L_law_393 rfl rfl ?_
  refine Tr.iconst (pc := 394) d_L_law_394 (by decide) ?_
  refine Tr.iadd (pc := 395) d_L_law_395 ?_
  refine Tr.tp (i + 1) (w32_id (by omega)) ?_
  refine Tr.xld (pc := 396) (i := 0) d_L_law_396 rfl he (by omega) (by omega) ?_
  refine Tr.callV (pc := 397) (as := [_]) d_L_law_397 s_13_50 ok_X12_run rfl rfl (Nat.le_of_ble_eq_true rfl) (Nat.le_of_ble_eq_true rfl) (by decide) (ty_120 hI1.1) ?_
  refine Tr.imp (mu_run hI1 hm1 (f (i + 1)) (hr _)) ?_
  rintro M2 _ ⟨hI2, hm2, f2, v2, rfl, z2⟩
  have hx2 := hx1.fr hI1 f2
  have k3 := f2 0 1 (Or.inl (by decide))
  have k4 := f2 113 0 (Or.inl (by decide))
  refine Tr.sc [(0, v2)] rfl ?_
  refine Tr.pop (pc := 400) d_L_law_400 ne01 ?_
  refine Tr.goto (pc := 401) (tgt := 996) d_L_law_401 rfl ?_
  exact J _ ⟨hI2, hx2, hm2, by omega, by omega⟩

set_option maxRecDepth 100000 in
set_option maxHeartbeats 4000000 in
theorem lw_ran {l : Launch} {K : EC} {f : Int → Int} {L : Nat} {xq : Int} {M : Mem} {i : Int} {Q : Mem → Option PV → Prop} (hE : e_all K xq) (he : e_ext K 0 L f) (hr : ∀ j, -2147483648 ≤ f j ∧ f j ≤ 2147483647) (i0 : 0 ≤ i) (i1 : i + 6 ≤ L) (iL : (L : Int) ≤ 3072) (hL : LI M) (J : ∀ M' : Mem, LI M' → Tr l K 60 mL_law 996 [(0, (2, -2)), (1, (2, 0)), (2, (2, 120)), (3, (0, i))] [] M' Q) : Tr l K 60 mL_law 404 [(0, (2, -2)), (1, (2, 0)), (2, (2, 120)), (3, (0, i))] [] M Q := by
  obtain ⟨hI, hx, hm, ht, ha⟩ := hL
  refine Tr.aload_n (pc := 404) (i := 1) d_L_law_404 rfl rfl ?_
  refine Tr.aload_n (pc := 405) (i := 0) d_L_law_405 rfl rfl ?_
  refine Tr.iload_n (pc := 406) (i := 3) d_L_law_406 rfl rfl ?_
  refine Tr.iconst (pc := 407) d_L_law_407 (by decide) ?_
  refine Tr.iadd (pc := 408) d_L_law_408 ?_
  refine Tr.tp (i + 1) (w32_id (by omega)) ?_
  refine Tr.xld (pc := 409) (i := 0) d_L_law_409 rfl he (by omega) (by omega) ?_
  refine Tr.callV (pc := 410) (as := [_]) d_L_law_410 s_13_51 ok_X11_ran rfl rfl (Nat.le_of_ble_eq_true rfl) (Nat.le_of_ble_eq_true rfl) (by decide) (ty_0 hI.1) ?_
  refine Tr.imp (xu_ran hE hI hx (f (i + 1)) (hr _)) ?_
  rintro M1 _ ⟨hI1, hx1, f1, v1, rfl, z1⟩
  have hm1 := hm.fr f1
  have k1 := f1 120 1 (by decide) (by decide)
  have k2 := f1 120 113 (by decide) (by decide)
  refine Tr.sc [(0, v1)] rfl ?_
  refine Tr.pop (pc := 413) d_L_law_413 ne01 ?_
  refine Tr.aload_n (pc := 414) (i := 2) d_L_law_414 rfl rfl ?_
  refine Tr.aload_n (pc := 415) (i := 0) d_L_law_415 rfl rfl ?_
  refine Tr.iload_n (pc := 416) (i := 3) d_L_law_416 rfl rfl ?_
  refine Tr.iconst (pc := 417) d_L_law_417 (by decide) ?_
  refine Tr.iadd (pc := 418) d_L_law_418 ?_
  refine Tr.tp (i + 1) (w32_id (by omega)) ?_
  refine Tr.xld (pc := 419) (i := 0) d_L_law_419 rfl he (by omega) (by omega) ?_
  refine Tr.callV (pc := 420) (as := [_]) d_L_law_420 s_13_54 ok_X12_ran rfl rfl (Nat.le_of_ble_eq_true rfl) (Nat.le_of_ble_eq_true rfl) (by decide) (ty_120 hI1.1) ?_
  refine Tr.imp (mu_ran hI1 hm1 (f (i + 1)) (hr _)) ?_
  rintro M2 _ ⟨hI2, hm2, f2, v2, rfl, z2⟩
  have hx2 := hx1.fr hI1 f2
  have k3 := f2 0 1 (Or.inl (by decide))
  have k4 := f2 113 0 (Or.inl (by decide))
  refine Tr.sc [(0, v2)] rfl ?_
  refine Tr.pop (pc := 423) d_L_law_423 ne01 ?_
  refine Tr.goto (pc := 424) (tgt := 996) d_L_law_424 rfl ?_
  exact J _ ⟨hI2, hx2, hm2, by omega, by omega⟩

set_option maxRecDepth 100000 in
set_option maxHeartbeats 4000000 in
theorem lw_value {l : Launch} {K : EC} {f : Int → Int} {L : Nat} {xq : Int} {M : Mem} {i : Int} {Q : Mem → Option PV → Prop} (hE : e_all K xq) (he : e_ext K 0 L f) (hr : ∀ j, -2147483648 ≤ f j ∧ f j ≤ 2147483647) (i0 : 0 ≤ i) (i1 : i + 6 ≤ L) (iL : (L : Int) ≤ 3072) (hL : LI M) (J : ∀ M' : Mem, LI M' → Tr l K 60 mL_law 996 [(0, (2, -2)), (1, (2, 0)), (2, (2, 120)), (3, (0, i))] [] M' Q) : Tr l K 60 mL_law 427 [(0, (2, -2)), (1, (2, 0)), (2, (2, 120)), (3, (0, i))] [] M Q := by
  obtain ⟨hI, hx, hm, ht, ha⟩ := hL
  refine Tr.aload_n (pc := 427) (i := 1) d_L_law_427 rfl rfl ?_
  refine Tr.aload_n (pc := 428) (i := 0) d_L_law_428 rfl rfl ?_
  refine Tr.iload_n (pc := 429) (i := 3) d_L_law_429 rfl rfl ?_
  refine Tr.iconst (pc := 430) d_L_law_430 (by decide) ?_
  refine Tr.iadd (pc := 431) d_L_law_431 ?_
  refine Tr.tp (i + 1) (w32_id (by omega)) ?_
  refine Tr.xld (pc := 432) (i := 0) d_L_law_432 rfl he (by omega) (by omega) ?_
  refine Tr.callV (pc := 433) (as := [_]) d_L_law_433 s_13_55 ok_X11_value rfl rfl (Nat.le_of_ble_eq_true rfl) (Nat.le_of_ble_eq_true rfl) (by decide) (ty_0 hI.1) ?_
  refine Tr.imp (xu_value hE hI hx (f (i + 1)) (hr _)) ?_
  rintro M1 _ ⟨hI1, hx1, f1, v1, rfl, z1⟩
  have hm1 := hm.fr f1
  have k1 := f1 120 1 (by decide) (by decide)
  have k2 := f1 120 113 (by decide) (by decide)
  refine Tr.sc [(0, v1)] rfl ?_
  refine Tr.pop (pc := 436) d_L_law_436 ne01 ?_
  refine Tr.aload_n (pc := 437) (i := 2) d_L_law_437 rfl rfl ?_
  refine Tr.aload_n (pc := 438) (i := 0) d_L_law_438 rfl rfl ?_
  refine Tr.iload_n (pc := 439) (i := 3) d_L_law_439 rfl rfl ?_
  refine Tr.iconst (pc := 440) d_L_law_440 (by decide) ?_
  refine Tr.iadd (pc := 441) d_L_law_441 ?_
  refine Tr.tp (i + 1) (w32_id (by omega)) ?_
  refine Tr.xld (pc := 442) (i := 0) d_L_law_442 rfl he (by omega) (by omega) ?_
  refine Tr.callV (pc := 443) (as := [_]) d_L_law_443 s_13_58 ok_X12_value rfl rfl (Nat.le_of_ble_eq_true rfl) (Nat.le_of_ble_eq_true rfl) (by decide) (ty_120 hI1.1) ?_
  refine Tr.imp (mu_value hI1 hm1 (f (i + 1)) (hr _)) ?_
  rintro M2 _ ⟨hI2, hm2, f2, v2, rfl, z2⟩
  have hx2 := hx1.fr hI1 f2
  have k3 := f2 0 1 (Or.inl (by decide))
  have k4 := f2 113 0 (Or.inl (by decide))
  refine Tr.sc [(0, v2)] rfl ?_
  refine Tr.pop (pc := 446) d_L_law_446 ne01 ?_
  refine Tr.goto (pc := 447) (tgt := 996) d_L_law_447 rfl ?_
  exact J _ ⟨hI2, hx2, hm2, by omega, by omega⟩

set_option maxRecDepth 100000 in
set_option maxHeartbeats 4000000 in
theorem lw_spent {l : Launch} {K : EC} {f : Int → Int} {L : Nat} {xq : Int} {M : Mem} {i : Int} {Q : Mem → Option PV → Prop} (hE : e_all K xq) (he : e_ext K 0 L f) (hr : ∀ j, -2147483648 ≤ f j ∧ f j ≤ 2147483647) (i0 : 0 ≤ i) (i1 : i + 6 ≤ L) (iL : (L : Int) ≤ 3072) (hL : LI M) (J : ∀ M' : Mem, LI M' → Tr l K 60 mL_law 996 [(0, (2, -2)), (1, (2, 0)), (2, (2, 120)), (3, (0, i))] [] M' Q) : Tr l K 60 mL_law 450 [(0, (2, -2)), (1, (2, 0)), (2, (2, 120)), (3, (0, i))] [] M Q := by
  obtain ⟨hI, hx, hm, ht, ha⟩ := hL
  refine Tr.aload_n (pc := 450) (i := 1) d_L_law_450 rfl rfl ?_
  refine Tr.aload_n (pc := 451) (i := 0) d_L_law_451 rfl rfl ?_
  refine Tr.iload_n (pc := 452) (i := 3) d_L_law_452 rfl rfl ?_
  refine Tr.iconst (pc := 453) d_L_law_453 (by decide) ?_
  refine Tr.iadd (pc := 454) d_L_law_454 ?_
  refine Tr.tp (i + 1) (w32_id (by omega)) ?_
  refine Tr.xld (pc := 455) (i := 0) d_L_law_455 rfl he (by omega) (by omega) ?_
  refine Tr.aload_n (pc := 456) (i := 0) d_L_law_456 rfl rfl ?_
  refine Tr.iload_n (pc := 457) (i := 3) d_L_law_457 rfl rfl ?_
  refine Tr.iconst (pc := 458) d_L_law_458 (by decide) ?_
  refine Tr.iadd (pc := 459) d_L_law_459 ?_
  refine Tr.tp (i + 2) (w32_id (by omega)) ?_
  refine Tr.xld (pc := 460) (i := 0) d_L_law_460 rfl he (by omega) (by omega) ?_
  refine Tr.callV (pc := 461) (as := [_, _]) d_L_law_461 s_13_59 ok_X11_spent rfl rfl (Nat.le_of_ble_eq_true rfl) (Nat.le_of_ble_eq_true rfl) (by decide) (ty_0 hI.1) ?_
  refine Tr.imp (xu_spent hE hI hx (f (i + 1)) (hr _) (f (i + 2)) (hr _)) ?_
  rintro M1 _ ⟨hI1, hx1, f1, v1, rfl, z1⟩
  have hm1 := hm.fr f1
  have k1 := f1 120 1 (by decide) (by decide)
  have k2 := f1 120 113 (by decide) (by decide)
  refine Tr.sc [(0, v1)] rfl ?_
  refine Tr.pop (pc := 464) d_L_law_464 ne01 ?_
  refine Tr.aload_n (pc := 465) (i := 2) d_L_law_465 rfl rfl ?_
  refine Tr.aload_n (pc := 466) (i := 0) d_L_law_466 rfl rfl ?_
  refine Tr.iload_n (pc := 467) (i := 3) d_L_law_467 rfl rfl ?_
  refine Tr.iconst (pc := 468) d_L_law_468 (by decide) ?_
  refine Tr.iadd (pc := 469) d_L_law_469 ?_
  refine Tr.tp (i + 1) (w32_id (by omega)) ?_
  refine Tr.xld (pc := 470) (i := 0) d_L_law_470 rfl he (by omega) (by omega) ?_
  refine Tr.aload_n (pc := 471) (i := 0) d_L_law_471 rfl rfl ?_
  refine Tr.iload_n (pc := 472) (i := 3) d_L_law_472 rfl rfl ?_
  refine Tr.iconst (pc := 473) d_L_law_473 (by decide) ?_
  refine Tr.iadd (pc := 474) d_L_law_474 ?_
  refine Tr.tp (i + 2) (w32_id (by omega)) ?_
  refine Tr.xld (pc := 475) (i := 0) d_L_law_475 rfl he (by omega) (by omega) ?_
  refine Tr.callV (pc := 476) (as := [_, _]) d_L_law_476 s_13_63 ok_X12_spent rfl rfl (Nat.le_of_ble_eq_true rfl) (Nat.le_of_ble_eq_true rfl) (by decide) (ty_120 hI1.1) ?_
  refine Tr.imp (mu_spent hI1 hm1 (f (i + 1)) (hr _) (f (i + 2)) (hr _)) ?_
  rintro M2 _ ⟨hI2, hm2, f2, v2, rfl, z2⟩
  have hx2 := hx1.fr hI1 f2
  have k3 := f2 0 1 (Or.inl (by decide))
  have k4 := f2 113 0 (Or.inl (by decide))
  refine Tr.sc [(0, v2)] rfl ?_
  refine Tr.pop (pc := 479) d_L_law_479 ne01 ?_
  refine Tr.goto (pc := 480) (tgt := 996) d_L_law_480 rfl ?_
  exact J _ ⟨hI2, hx2, hm2, by omega, by omega⟩

set_option maxRecDepth 100000 in
set_option maxHeartbeats 4000000 in
theorem lw_pays {l : Launch} {K : EC} {f : Int → Int} {L : Nat} {xq : Int} {M : Mem} {i : Int} {Q : Mem → Option PV → Prop} (hE : e_all K xq) (he : e_ext K 0 L f) (hr : ∀ j, -2147483648 ≤ f j ∧ f j ≤ 2147483647) (i0 : 0 ≤ i) (i1 : i + 6 ≤ L) (iL : (L : Int) ≤ 3072) (hL : LI M) (J : ∀ M' : Mem, LI M' → Tr l K 60 mL_law 996 [(0, (2, -2)), (1, (2, 0)), (2, (2, 120)), (3, (0, i))] [] M' Q) : Tr l K 60 mL_law 483 [(0, (2, -2)), (1, (2, 0)), (2, (2, 120)), (3, (0, i))] [] M Q := by
  obtain ⟨hI, hx, hm, ht, ha⟩ := hL
  refine Tr.aload_n (pc := 483) (i := 1) d_L_law_483 rfl rfl ?_
  refine Tr.aload_n (pc := 484) (i := 0) d_L_law_484 rfl rfl ?_
  refine Tr.iload_n (pc := 485) (i := 3) d_L_law_485 rfl rfl ?_
  refine Tr.iconst (pc := 486) d_L_law_486 (by decide) ?_
  refine Tr.iadd (pc := 487) d_L_law_487 ?_
  refine Tr.tp (i + 1) (w32_id (by omega)) ?_
  refine Tr.xld (pc := 488) (i := 0) d_L_law_488 rfl he (by omega) (by omega) ?_
  refine Tr.aload_n (pc := 489) (i := 0) d_L_law_489 rfl rfl ?_
  refine Tr.iload_n (pc := 490) (i := 3) d_L_law_490 rfl rfl ?_
  refine Tr.iconst (pc := 491) d_L_law_491 (by decide) ?_
  refine Tr.iadd (pc := 492) d_L_law_492 ?_
  refine Tr.tp (i + 2) (w32_id (by omega)) ?_
  refine Tr.xld (pc := 493) (i := 0) d_L_law_493 rfl he (by omega) (by omega) ?_
  refine Tr.callV (pc := 494) (as := [_, _]) d_L_law_494 s_13_64 ok_X11_pays rfl rfl (Nat.le_of_ble_eq_true rfl) (Nat.le_of_ble_eq_true rfl) (by decide) (ty_0 hI.1) ?_
  refine Tr.imp (xu_pays hE hI hx (f (i + 1)) (hr _) (f (i + 2)) (hr _)) ?_
  rintro M1 _ ⟨hI1, hx1, f1, v1, rfl, z1⟩
  have hm1 := hm.fr f1
  have k1 := f1 120 1 (by decide) (by decide)
  have k2 := f1 120 113 (by decide) (by decide)
  refine Tr.sc [(0, v1)] rfl ?_
  refine Tr.pop (pc := 497) d_L_law_497 ne01 ?_
  refine Tr.aload_n (pc := 498) (i := 2) d_L_law_498 rfl rfl ?_
  refine Tr.aload_n (pc := 499) (i := 0) d_L_law_499 rfl rfl ?_
  refine Tr.iload_n (pc := 500) (i := 3) d_L_law_500 rfl rfl ?_
  refine Tr.iconst (pc := 501) d_L_law_501 (by decide) ?_
  refine Tr.iadd (pc := 502) d_L_law_502 ?_
  refine Tr.tp (i + 1) (w32_id (by omega)) ?_
  refine Tr.xld (pc := 503) (i := 0) d_L_law_503 rfl he (by omega) (by omega) ?_
  refine Tr.aload_n (pc := 504) (i := 0) d_L_law_504 rfl rfl ?_
  refine Tr.iload_n (pc := 505) (i := 3) d_L_law_505 rfl rfl ?_
  refine Tr.iconst (pc := 506) d_L_law_506 (by decide) ?_
  refine Tr.iadd (pc := 507) d_L_law_507 ?_
  refine Tr.tp (i + 2) (w32_id (by omega)) ?_
  refine Tr.xld (pc := 508) (i := 0) d_L_law_508 rfl he (by omega) (by omega) ?_
  refine Tr.callV (pc := 509) (as := [_, _]) d_L_law_509 s_13_67 ok_X12_pays rfl rfl (Nat.le_of_ble_eq_true rfl) (Nat.le_of_ble_eq_true rfl) (by decide) (ty_120 hI1.1) ?_
  refine Tr.imp (mu_pays hI1 hm1 (f (i + 1)) (hr _) (f (i + 2)) (hr _)) ?_
  rintro M2 _ ⟨hI2, hm2, f2, v2, rfl, z2⟩
  have hx2 := hx1.fr hI1 f2
  have k3 := f2 0 1 (Or.inl (by decide))
  have k4 := f2 113 0 (Or.inl (by decide))
  refine Tr.sc [(0, v2)] rfl ?_
  refine Tr.pop (pc := 512) d_L_law_512 ne01 ?_
  refine Tr.goto (pc := 513) (tgt := 996) d_L_law_513 rfl ?_
  exact J _ ⟨hI2, hx2, hm2, by omega, by omega⟩

set_option maxRecDepth 100000 in
set_option maxHeartbeats 4000000 in
theorem lw_stretches {l : Launch} {K : EC} {f : Int → Int} {L : Nat} {xq : Int} {M : Mem} {i : Int} {Q : Mem → Option PV → Prop} (hE : e_all K xq) (he : e_ext K 0 L f) (hr : ∀ j, -2147483648 ≤ f j ∧ f j ≤ 2147483647) (i0 : 0 ≤ i) (i1 : i + 6 ≤ L) (iL : (L : Int) ≤ 3072) (hL : LI M) (J : ∀ M' : Mem, LI M' → Tr l K 60 mL_law 996 [(0, (2, -2)), (1, (2, 0)), (2, (2, 120)), (3, (0, i))] [] M' Q) : Tr l K 60 mL_law 516 [(0, (2, -2)), (1, (2, 0)), (2, (2, 120)), (3, (0, i))] [] M Q := by
  obtain ⟨hI, hx, hm, ht, ha⟩ := hL
  refine Tr.aload_n (pc := 516) (i := 1) d_L_law_516 rfl rfl ?_
  refine Tr.aload_n (pc := 517) (i := 0) d_L_law_517 rfl rfl ?_
  refine Tr.iload_n (pc := 518) (i := 3) d_L_law_518 rfl rfl ?_
  refine Tr.iconst (pc := 519) d_L_law_519 (by decide) ?_
  refine Tr.iadd (pc := 520) d_L_law_520 ?_
  refine Tr.tp (i + 1) (w32_id (by omega)) ?_
  refine Tr.xld (pc := 521) (i := 0) d_L_law_521 rfl he (by omega) (by omega) ?_
  refine Tr.callV (pc := 522) (as := [_]) d_L_law_522 s_13_68 ok_X11_stretches rfl rfl (Nat.le_of_ble_eq_true rfl) (Nat.le_of_ble_eq_true rfl) (by decide) (ty_0 hI.1) ?_
  refine Tr.imp (xu_stretches hE hI hx (f (i + 1)) (hr _)) ?_
  rintro M1 _ ⟨hI1, hx1, f1, v1, rfl, z1⟩
  have hm1 := hm.fr f1
  have k1 := f1 120 1 (by decide) (by decide)
  have k2 := f1 120 113 (by decide) (by decide)
  refine Tr.sc [(0, v1)] rfl ?_
  refine Tr.pop (pc := 525) d_L_law_525 ne01 ?_
  refine Tr.aload_n (pc := 526) (i := 2) d_L_law_526 rfl rfl ?_
  refine Tr.aload_n (pc := 527) (i := 0) d_L_law_527 rfl rfl ?_
  refine Tr.iload_n (pc := 528) (i := 3) d_L_law_528 rfl rfl ?_
  refine Tr.iconst (pc := 529) d_L_law_529 (by decide) ?_
  refine Tr.iadd (pc := 530) d_L_law_530 ?_
  refine Tr.tp (i + 1) (w32_id (by omega)) ?_
  refine Tr.xld (pc := 531) (i := 0) d_L_law_531 rfl he (by omega) (by omega) ?_
  refine Tr.callV (pc := 532) (as := [_]) d_L_law_532 s_13_71 ok_X12_stretches rfl rfl (Nat.le_of_ble_eq_true rfl) (Nat.le_of_ble_eq_true rfl) (by decide) (ty_120 hI1.1) ?_
  refine Tr.imp (mu_stretches hI1 hm1 (f (i + 1)) (hr _)) ?_
  rintro M2 _ ⟨hI2, hm2, f2, v2, rfl, z2⟩
  have hx2 := hx1.fr hI1 f2
  have k3 := f2 0 1 (Or.inl (by decide))
  have k4 := f2 113 0 (Or.inl (by decide))
  refine Tr.sc [(0, v2)] rfl ?_
  refine Tr.pop (pc := 535) d_L_law_535 ne01 ?_
  refine Tr.goto (pc := 536) (tgt := 996) d_L_law_536 rfl ?_
  exact J _ ⟨hI2, hx2, hm2, by omega, by omega⟩

set_option maxRecDepth 100000 in
set_option maxHeartbeats 4000000 in
theorem lw_stretch {l : Launch} {K : EC} {f : Int → Int} {L : Nat} {xq : Int} {M : Mem} {i : Int} {Q : Mem → Option PV → Prop} (hE : e_all K xq) (he : e_ext K 0 L f) (hr : ∀ j, -2147483648 ≤ f j ∧ f j ≤ 2147483647) (i0 : 0 ≤ i) (i1 : i + 6 ≤ L) (iL : (L : Int) ≤ 3072) (hL : LI M) (J : ∀ M' : Mem, LI M' → Tr l K 60 mL_law 996 [(0, (2, -2)), (1, (2, 0)), (2, (2, 120)), (3, (0, i))] [] M' Q) : Tr l K 60 mL_law 539 [(0, (2, -2)), (1, (2, 0)), (2, (2, 120)), (3, (0, i))] [] M Q := by
  obtain ⟨hI, hx, hm, ht, ha⟩ := hL
  refine Tr.aload_n (pc := 539) (i := 1) d_L_law_539 rfl rfl ?_
  refine Tr.aload_n (pc := 540) (i := 0) d_L_law_540 rfl rfl ?_
  refine Tr.iload_n (pc := 541) (i := 3) d_L_law_541 rfl rfl ?_
  refine Tr.iconst (pc := 542) d_L_law_542 (by decide) ?_
  refine Tr.iadd (pc := 543) d_L_law_543 ?_
  refine Tr.tp (i + 1) (w32_id (by omega)) ?_
  refine Tr.xld (pc := 544) (i := 0) d_L_law_544 rfl he (by omega) (by omega) ?_
  refine Tr.aload_n (pc := 545) (i := 0) d_L_law_545 rfl rfl ?_
  refine Tr.iload_n (pc := 546) (i := 3) d_L_law_546 rfl rfl ?_
  refine Tr.iconst (pc := 547) d_L_law_547 (by decide) ?_
  refine Tr.iadd (pc := 548) d_L_law_548 ?_
  refine Tr.tp (i + 2) (w32_id (by omega)) ?_
  refine Tr.xld (pc := 549) (i := 0) d_L_law_549 rfl he (by omega) (by omega) ?_
  refine Tr.aload_n (pc := 550) (i := 0) d_L_law_550 rfl rfl ?_
  refine Tr.iload_n (pc := 551) (i := 3) d_L_law_551 rfl rfl ?_
  refine Tr.iconst (pc := 552) d_L_law_552 (by decide) ?_
  refine Tr.iadd (pc := 553) d_L_law_553 ?_
  refine Tr.tp (i + 3) (w32_id (by omega)) ?_
  refine Tr.xld (pc := 554) (i := 0) d_L_law_554 rfl he (by omega) (by omega) ?_
  refine Tr.callV (pc := 555) (as := [_, _, _]) d_L_law_555 s_13_72 ok_X11_stretch rfl rfl (Nat.le_of_ble_eq_true rfl) (Nat.le_of_ble_eq_true rfl) (by decide) (ty_0 hI.1) ?_
  refine Tr.imp (xu_stretch hE hI hx (f (i + 1)) (hr _) (f (i + 2)) (hr _) (f (i + 3)) (hr _)) ?_
  rintro M1 _ ⟨hI1, hx1, f1, v1, rfl, z1⟩
  have hm1 := hm.fr f1
  have k1 := f1 120 1 (by decide) (by decide)
  have k2 := f1 120 113 (by decide) (by decide)
  refine Tr.sc [(0, v1)] rfl ?_
  refine Tr.pop (pc := 558) d_L_law_558 ne01 ?_
  refine Tr.aload_n (pc := 559) (i := 2) d_L_law_559 rfl rfl ?_
  refine Tr.aload_n (pc := 560) (i := 0) d_L_law_560 rfl rfl ?_
  refine Tr.iload_n (pc := 561) (i := 3) d_L_law_561 rfl rfl ?_
  refine Tr.iconst (pc := 562) d_L_law_562 (by decide) ?_
  refine Tr.iadd (pc := 563) d_L_law_563 ?_
  refine Tr.tp (i + 1) (w32_id (by omega)) ?_
  refine Tr.xld (pc := 564) (i := 0) d_L_law_564 rfl he (by omega) (by omega) ?_
  refine Tr.aload_n (pc := 565) (i := 0) d_L_law_565 rfl rfl ?_
  refine Tr.iload_n (pc := 566) (i := 3) d_L_law_566 rfl rfl ?_
  refine Tr.iconst (pc := 567) d_L_law_567 (by decide) ?_
  refine Tr.iadd (pc := 568) d_L_law_568 ?_
  refine Tr.tp (i + 2) (w32_id (by omega)) ?_
  refine Tr.xld (pc := 569) (i := 0) d_L_law_569 rfl he (by omega) (by omega) ?_
  refine Tr.aload_n (pc := 570) (i := 0) d_L_law_570 rfl rfl ?_
  refine Tr.iload_n (pc := 571) (i := 3) d_L_law_571 rfl rfl ?_
  refine Tr.iconst (pc := 572) d_L_law_572 (by decide) ?_
  refine Tr.iadd (pc := 573) d_L_law_573 ?_
  refine Tr.tp (i + 3) (w32_id (by omega)) ?_
  refine Tr.xld (pc := 574) (i := 0) d_L_law_574 rfl he (by omega) (by omega) ?_
  refine Tr.callV (pc := 575) (as := [_, _, _]) d_L_law_575 s_13_75 ok_X12_stretch rfl rfl (Nat.le_of_ble_eq_true rfl) (Nat.le_of_ble_eq_true rfl) (by decide) (ty_120 hI1.1) ?_
  refine Tr.imp (mu_stretch hI1 hm1 (f (i + 1)) (hr _) (f (i + 2)) (hr _) (f (i + 3)) (hr _)) ?_
  rintro M2 _ ⟨hI2, hm2, f2, v2, rfl, z2⟩
  have hx2 := hx1.fr hI1 f2
  have k3 := f2 0 1 (Or.inl (by decide))
  have k4 := f2 113 0 (Or.inl (by decide))
  refine Tr.sc [(0, v2)] rfl ?_
  refine Tr.pop (pc := 578) d_L_law_578 ne01 ?_
  refine Tr.goto (pc := 579) (tgt := 996) d_L_law_579 rfl ?_
  exact J _ ⟨hI2, hx2, hm2, by omega, by omega⟩

set_option maxRecDepth 100000 in
set_option maxHeartbeats 4000000 in
theorem lw_lines {l : Launch} {K : EC} {f : Int → Int} {L : Nat} {xq : Int} {M : Mem} {i : Int} {Q : Mem → Option PV → Prop} (hE : e_all K xq) (he : e_ext K 0 L f) (hr : ∀ j, -2147483648 ≤ f j ∧ f j ≤ 2147483647) (i0 : 0 ≤ i) (i1 : i + 6 ≤ L) (iL : (L : Int) ≤ 3072) (hL : LI M) (J : ∀ M' : Mem, LI M' → Tr l K 60 mL_law 996 [(0, (2, -2)), (1, (2, 0)), (2, (2, 120)), (3, (0, i))] [] M' Q) : Tr l K 60 mL_law 582 [(0, (2, -2)), (1, (2, 0)), (2, (2, 120)), (3, (0, i))] [] M Q := by
  obtain ⟨hI, hx, hm, ht, ha⟩ := hL
  refine Tr.aload_n (pc := 582) (i := 1) d_L_law_582 rfl rfl ?_
  refine Tr.aload_n (pc := 583) (i := 0) d_L_law_583 rfl rfl ?_
  refine Tr.iload_n (pc := 584) (i := 3) d_L_law_584 rfl rfl ?_
  refine Tr.iconst (pc := 585) d_L_law_585 (by decide) ?_
  refine Tr.iadd (pc := 586) d_L_law_586 ?_
  refine Tr.tp (i + 1) (w32_id (by omega)) ?_
  refine Tr.xld (pc := 587) (i := 0) d_L_law_587 rfl he (by omega) (by omega) ?_
  refine Tr.aload_n (pc := 588) (i := 0) d_L_law_588 rfl rfl ?_
  refine Tr.iload_n (pc := 589) (i := 3) d_L_law_589 rfl rfl ?_
  refine Tr.iconst (pc := 590) d_L_law_590 (by decide) ?_
  refine Tr.iadd (pc := 591) d_L_law_591 ?_
  refine Tr.tp (i + 2) (w32_id (by omega)) ?_
  refine Tr.xld (pc := 592) (i := 0) d_L_law_592 rfl he (by omega) (by omega) ?_
  refine Tr.callV (pc := 593) (as := [_, _]) d_L_law_593 s_13_76 ok_X11_lines rfl rfl (Nat.le_of_ble_eq_true rfl) (Nat.le_of_ble_eq_true rfl) (by decide) (ty_0 hI.1) ?_
  refine Tr.imp (xu_lines hE hI hx (f (i + 1)) (hr _) (f (i + 2)) (hr _)) ?_
  rintro M1 _ ⟨hI1, hx1, f1, v1, rfl, z1⟩
  have hm1 := hm.fr f1
  have k1 := f1 120 1 (by decide) (by decide)
  have k2 := f1 120 113 (by decide) (by decide)
  refine Tr.sc [(1, v1)] rfl ?_
  refine Tr.pop2l (pc := 596) d_L_law_596 rfl ?_
  refine Tr.aload_n (pc := 597) (i := 2) d_L_law_597 rfl rfl ?_
  refine Tr.aload_n (pc := 598) (i := 0) d_L_law_598 rfl rfl ?_
  refine Tr.iload_n (pc := 599) (i := 3) d_L_law_599 rfl rfl ?_
  refine Tr.iconst (pc := 600) d_L_law_600 (by decide) ?_
  refine Tr.iadd (pc := 601) d_L_law_601 ?_
  refine Tr.tp (i + 1) (w32_id (by omega)) ?_
  refine Tr.xld (pc := 602) (i := 0) d_L_law_602 rfl he (by omega) (by omega) ?_
  refine Tr.aload_n (pc := 603) (i := 0) d_L_law_603 rfl rfl ?_
  refine Tr.iload_n (pc := 604) (i := 3) d_L_law_604 rfl rfl ?_
  refine Tr.iconst (pc := 605) d_L_law_605 (by decide) ?_
  refine Tr.iadd (pc := 606) d_L_law_606 ?_
  refine Tr.tp (i + 2) (w32_id (by omega)) ?_
  refine Tr.xld (pc := 607) (i := 0) d_L_law_607 rfl he (by omega) (by omega) ?_
  refine Tr.callV (pc := 608) (as := [_, _]) d_L_law_608 s_13_80 ok_X12_lines rfl rfl (Nat.le_of_ble_eq_true rfl) (Nat.le_of_ble_eq_true rfl) (by decide) (ty_120 hI1.1) ?_
  refine Tr.imp (mu_lines hI1 hm1 (f (i + 1)) (hr _) (f (i + 2)) (hr _)) ?_
  rintro M2 _ ⟨hI2, hm2, f2, v2, rfl, z2⟩
  have hx2 := hx1.fr hI1 f2
  have k3 := f2 0 1 (Or.inl (by decide))
  have k4 := f2 113 0 (Or.inl (by decide))
  refine Tr.sc [(1, v2)] rfl ?_
  refine Tr.pop2l (pc := 611) d_L_law_611 rfl ?_
  refine Tr.goto (pc := 612) (tgt := 996) d_L_law_612 rfl ?_
  exact J _ ⟨hI2, hx2, hm2, by omega, by omega⟩

set_option maxRecDepth 100000 in
set_option maxHeartbeats 4000000 in
theorem lw_byTurns {l : Launch} {K : EC} {f : Int → Int} {L : Nat} {xq : Int} {M : Mem} {i : Int} {Q : Mem → Option PV → Prop} (hE : e_all K xq) (he : e_ext K 0 L f) (hr : ∀ j, -2147483648 ≤ f j ∧ f j ≤ 2147483647) (i0 : 0 ≤ i) (i1 : i + 6 ≤ L) (iL : (L : Int) ≤ 3072) (hL : LI M) (J : ∀ M' : Mem, LI M' → Tr l K 60 mL_law 996 [(0, (2, -2)), (1, (2, 0)), (2, (2, 120)), (3, (0, i))] [] M' Q) : Tr l K 60 mL_law 615 [(0, (2, -2)), (1, (2, 0)), (2, (2, 120)), (3, (0, i))] [] M Q := by
  obtain ⟨hI, hx, hm, ht, ha⟩ := hL
  refine Tr.aload_n (pc := 615) (i := 1) d_L_law_615 rfl rfl ?_
  refine Tr.aload_n (pc := 616) (i := 0) d_L_law_616 rfl rfl ?_
  refine Tr.iload_n (pc := 617) (i := 3) d_L_law_617 rfl rfl ?_
  refine Tr.iconst (pc := 618) d_L_law_618 (by decide) ?_
  refine Tr.iadd (pc := 619) d_L_law_619 ?_
  refine Tr.tp (i + 1) (w32_id (by omega)) ?_
  refine Tr.xld (pc := 620) (i := 0) d_L_law_620 rfl he (by omega) (by omega) ?_
  refine Tr.aload_n (pc := 621) (i := 0) d_L_law_621 rfl rfl ?_
  refine Tr.iload_n (pc := 622) (i := 3) d_L_law_622 rfl rfl ?_
  refine Tr.iconst (pc := 623) d_L_law_623 (by decide) ?_
  refine Tr.iadd (pc := 624) d_L_law_624 ?_
  refine Tr.tp (i + 2) (w32_id (by omega)) ?_
  refine Tr.xld (pc := 625) (i := 0) d_L_law_625 rfl he (by omega) (by omega) ?_
  refine Tr.aload_n (pc := 626) (i := 0) d_L_law_626 rfl rfl ?_
  refine Tr.iload_n (pc := 627) (i := 3) d_L_law_627 rfl rfl ?_
  refine Tr.iconst (pc := 628) d_L_law_628 (by decide) ?_
  refine Tr.iadd (pc := 629) d_L_law_629 ?_
  refine Tr.tp (i + 3) (w32_id (by omega)) ?_
  refine Tr.xld (pc := 630) (i := 0) d_L_law_630 rfl he (by omega) (by omega) ?_
  refine Tr.aload_n (pc := 631) (i := 0) d_L_law_631 rfl rfl ?_
  refine Tr.iload_n (pc := 632) (i := 3) d_L_law_632 rfl rfl ?_
  refine Tr.iconst (pc := 633) d_L_law_633 (by decide) ?_
  refine Tr.iadd (pc := 634) d_L_law_634 ?_
  refine Tr.tp (i + 4) (w32_id (by omega)) ?_
  refine Tr.xld (pc := 635) (i := 0) d_L_law_635 rfl he (by omega) (by omega) ?_
  have JB644 : ∀ b644 : Int, 0 ≤ b644 ∧ b644 ≤ 1 → Tr l K 60 mL_law 644 [(0, (2, -2)), (1, (2, 0)), (2, (2, 120)), (3, (0, i))] [(0, b644), (0, f (i + 3)), (0, f (i + 2)), (0, f (i + 1)), (2, 0)] M Q := by
    intro b644 hb644
    refine Tr.callV (pc := 644) (as := [_, _, _, _]) d_L_law_644 s_13_81 ok_X11_byTurns rfl rfl (Nat.le_of_ble_eq_true rfl) (Nat.le_of_ble_eq_true rfl) (by decide) (ty_0 hI.1) ?_
    refine Tr.imp (xu_byTurns hE hI hx (f (i + 1)) (hr _) (f (i + 2)) (hr _) (f (i + 3)) (hr _) b644 hb644) ?_
    rintro M1 _ ⟨hI1, hx1, f1, v1, rfl, z1⟩
    have hm1 := hm.fr f1
    have k1 := f1 120 1 (by decide) (by decide)
    have k2 := f1 120 113 (by decide) (by decide)
    refine Tr.sc [(1, v1)] rfl ?_
    refine Tr.pop2l (pc := 647) d_L_law_647 rfl ?_
    refine Tr.aload_n (pc := 648) (i := 2) d_L_law_648 rfl rfl ?_
    refine Tr.aload_n (pc := 649) (i := 0) d_L_law_649 rfl rfl ?_
    refine Tr.iload_n (pc := 650) (i := 3) d_L_law_650 rfl rfl ?_
    refine Tr.iconst (pc := 651) d_L_law_651 (by decide) ?_
    refine Tr.iadd (pc := 652) d_L_law_652 ?_
    refine Tr.tp (i + 1) (w32_id (by omega)) ?_
    refine Tr.xld (pc := 653) (i := 0) d_L_law_653 rfl he (by omega) (by omega) ?_
    refine Tr.aload_n (pc := 654) (i := 0) d_L_law_654 rfl rfl ?_
    refine Tr.iload_n (pc := 655) (i := 3) d_L_law_655 rfl rfl ?_
    refine Tr.iconst (pc := 656) d_L_law_656 (by decide) ?_
    refine Tr.iadd (pc := 657) d_L_law_657 ?_
    refine Tr.tp (i + 2) (w32_id (by omega)) ?_
    refine Tr.xld (pc := 658) (i := 0) d_L_law_658 rfl he (by omega) (by omega) ?_
    refine Tr.aload_n (pc := 659) (i := 0) d_L_law_659 rfl rfl ?_
    refine Tr.iload_n (pc := 660) (i := 3) d_L_law_660 rfl rfl ?_
    refine Tr.iconst (pc := 661) d_L_law_661 (by decide) ?_
    refine Tr.iadd (pc := 662) d_L_law_662 ?_
    refine Tr.tp (i + 3) (w32_id (by omega)) ?_
    refine Tr.xld (pc := 663) (i := 0) d_L_law_663 rfl he (by omega) (by omega) ?_
    refine Tr.aload_n (pc := 664) (i := 0) d_L_law_664 rfl rfl ?_
    refine Tr.iload_n (pc := 665) (i := 3) d_L_law_665 rfl rfl ?_
    refine Tr.iconst (pc := 666) d_L_law_666 (by decide) ?_
    refine Tr.iadd (pc := 667) d_L_law_667 ?_
    refine Tr.tp (i + 4) (w32_id (by omega)) ?_
    refine Tr.xld (pc := 668) (i := 0) d_L_law_668 rfl he (by omega) (by omega) ?_
    have JB677 : ∀ b677 : Int, 0 ≤ b677 ∧ b677 ≤ 1 → Tr l K 60 mL_law 677 [(0, (2, -2)), (1, (2, 0)), (2, (2, 120)), (3, (0, i))] [(0, b677), (0, f (i + 3)), (0, f (i + 2)), (0, f (i + 1)), (2, 120)] M1 Q := by
      intro b677 hb677
      refine Tr.callV (pc := 677) (as := [_, _, _, _]) d_L_law_677 s_13_85 ok_X12_byTurns rfl rfl (Nat.le_of_ble_eq_true rfl) (Nat.le_of_ble_eq_true rfl) (by decide) (ty_120 hI1.1) ?_
      refine Tr.imp (mu_byTurns hI1 hm1 (f (i + 1)) (hr _) (f (i + 2)) (hr _) (f (i + 3)) (hr _) b677 hb677) ?_
      rintro M2 _ ⟨hI2, hm2, f2, v2, rfl, z2⟩
      have hx2 := hx1.fr hI1 f2
      have k3 := f2 0 1 (Or.inl (by decide))
      have k4 := f2 113 0 (Or.inl (by decide))
      refine Tr.sc [(1, v2)] rfl ?_
      refine Tr.pop2l (pc := 680) d_L_law_680 rfl ?_
      refine Tr.goto (pc := 681) (tgt := 996) d_L_law_681 rfl ?_
      exact J _ ⟨hI2, hx2, hm2, by omega, by omega⟩
    refine Tr.if_eq (pc := 669) (tgt := 676) d_L_law_669 rfl (fun _ => ?_) (fun _ => ?_)
    · refine Tr.iconst (pc := 676) d_L_law_676 (by decide) ?_
      exact JB677 0 (by omega)
    · refine Tr.iconst (pc := 672) d_L_law_672 (by decide) ?_
      refine Tr.goto (pc := 673) (tgt := 677) d_L_law_673 rfl ?_
      exact JB677 1 (by omega)
  refine Tr.if_eq (pc := 636) (tgt := 643) d_L_law_636 rfl (fun _ => ?_) (fun _ => ?_)
  · refine Tr.iconst (pc := 643) d_L_law_643 (by decide) ?_
    exact JB644 0 (by omega)
  · refine Tr.iconst (pc := 639) d_L_law_639 (by decide) ?_
    refine Tr.goto (pc := 640) (tgt := 644) d_L_law_640 rfl ?_
    exact JB644 1 (by omega)
