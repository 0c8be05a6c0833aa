/-! 40.05 -/
section
def ws_X12_fit_120_w1 : List (Int × Int) := [(120, 59), (120, 60), (120, 61), (120, 62), (120, 63), (120, 64), (120, 65), (120, 66), (120, 67), (120, 68), (120, 75), (120, 79), (120, 84), (120, 109)]
def as_X12_fit_120_w1 : List Int := [154, 155, 156, 157, 158, 159, 160, 161, 162, 163, 164, 165, 166, 167, 168, 169, 170, 171, 172, 182, 183, 184]
def q_X12_fit_120_w1 (a1 : Int) (M0 M' : Mem) (r : Option PV) : Prop := St Tru ws_X12_fit_120_w1 as_X12_fit_120_w1 M0 M' ∧ ∃ v : Int, r = some (0, v) ∧ (-2147483648) ≤ v ∧ v ≤ 2147483647 ∧ (rd M' 120 59 = -1)
set_option maxRecDepth 100000 in
set_option maxHeartbeats 4000000 in
theorem sp_X12_fit_120_w1 {l : Launch} {K : EC} {M0 : Mem} (hI : In Tru M0) (en_120_12 : rd M0 120 12 = 1) (a1 : Int) (ha1 : (-2147483648) ≤ a1 ∧ a1 ≤ 2147483647)  (hq0 : rd M0 120 59 = -1) (hF_Bk1 : Bk1 M0) : Tr l K 8 mX12_fit 0 [(0, (2, 120)), (1, (0, a1))] [] M0 (q_X12_fit_120_w1 a1 M0) := by
  have hS : St Tru ws_X12_fit_120_w1 as_X12_fit_120_w1 M0 M0 := St.rf hI
  obtain ⟨g120_59, eg120_59⟩ : ∃ v, rd M0 120 59 = v := ⟨_, rfl⟩
  have bg120_59 : (-1) ≤ g120_59 ∧ g120_59 ≤ 5 := by rw [← eg120_59]; exact ir_120_59 hI.2.1
  refine Tr.aload_n (pc := 0) (i := 0) d_X12_fit_0 rfl rfl ?_
  refine Tr.iload_n (pc := 1) (i := 1) d_X12_fit_1 rfl rfl ?_
  refine Tr.callV (pc := 2) (as := [_]) d_X12_fit_2 s_12_555 ok_X12_isPart rfl rfl (Nat.le_of_ble_eq_true rfl) (Nat.le_of_ble_eq_true rfl) (by decide) (ty_120 hS.1.1) ?_
  refine Tr.imp (Tr.deep (by decide) (sp_X12_isPart_120_w1 hS.1 ((St.kp hS (by decide) (by decide) (by decide)).trans en_120_12) a1 (by omega))) ?_
  rintro M2 _ ⟨h2, r2, rfl, lr2, ur2, z2_0⟩
  have hS := St.tr hS h2 (by decide) (by decide)
  obtain ⟨w2_126_1, ew2_126_1⟩ : ∃ v, rd M2 126 1 = v := ⟨_, rfl⟩
  have bw2_126_1 : 0 ≤ w2_126_1 ∧ w2_126_1 ≤ 6 := by rw [← ew2_126_1]; exact ir_126_1 hS.1.2.1
  have ka2_126_1 : rd M2 126 1 = w2_126_1 := ew2_126_1
  refine Tr.sc [(0, r2)] rfl ?_
  refine Tr.if_eq (pc := 5) (tgt := 15) d_X12_fit_5 rfl (fun c5 => ?_) (fun c5 => ?_)
  · refine Tr.iconst (pc := 15) d_X12_fit_15 (by decide) ?_
    have kr_120_59 : rd M2 120 59 = g120_59 := ((St.kp h2 (by decide) (by decide) (by decide)).trans eg120_59)
    exact Tr.iret (pc := 16) d_X12_fit_16 rfl ⟨hS, _, rfl, by omega, by omega, by omega⟩
  · refine Tr.aload_n (pc := 8) (i := 0) d_X12_fit_8 rfl rfl ?_
    refine Tr.getf (pc := 9) d_X12_fit_9 f_12_333 (by decide) (by decide) (ty_120 hS.1.1) ?_
    refine Tr.gen (P := fun v => 0 ≤ v ∧ v ≤ 12) (ir_120_106 hS.1.2.1) (fun r9 er9 br9 => ?_)
    refine Tr.if_ne (pc := 12) (tgt := 17) d_X12_fit_12 rfl (fun c12 => ?_) (fun c12 => ?_)
    · refine Tr.iconst (pc := 17) d_X12_fit_17 (by decide) ?_
      refine Tr.istore_n (pc := 18) (i := 2) (ls2 := [(2, (0, 0)), (0, (2, 120)), (1, (0, a1))]) d_X12_fit_18 rfl (by decide) rfl ?_
      have J19 : ∀ (n19 : Nat) (M : Mem) (p19_2 u19_120_59 : Int), St Tru ws_X12_fit_120_w1 as_X12_fit_120_w1 M0 M → (0 ≤ p19_2 ∧ p19_2 ≤ 12) → ((-1) ≤ u19_120_59 ∧ u19_120_59 ≤ 5) → rd M 120 106 = r9 → rd M 120 59 = u19_120_59 → rd M 126 1 = w2_126_1 → (u19_120_59 = -1) → (12 - p19_2).toNat < n19 → Tr l K 8 mX12_fit 19 [(0, (2, 120)), (1, (0, a1)), (2, (0, p19_2))] [] M (q_X12_fit_120_w1 a1 M0) := by
        intro n19
        induction n19 with
        | zero => intro M p19_2 u19_120_59 hS bp19_2 bu19_120_59 k19_120_106 k19_120_59 k19_126_1 t19_0 hm19; exact absurd hm19 (Nat.not_lt_zero _)
        | succ n19 J19 =>
          intro M p19_2 u19_120_59 hS bp19_2 bu19_120_59 k19_120_106 k19_120_59 k19_126_1 t19_0 hm19
          refine Tr.iload_n (pc := 19) (i := 2) d_X12_fit_19 rfl rfl ?_
          refine Tr.aload_n (pc := 20) (i := 0) d_X12_fit_20 rfl rfl ?_
          refine Tr.getf (pc := 21) d_X12_fit_21 f_12_333 (by decide) (by decide) (ty_120 hS.1.1) ?_
          refine Tr.tp r9 k19_120_106 ?_
          refine Tr.icmp_ge (pc := 24) (tgt := 196) d_X12_fit_24 rfl (fun c24 => ?_) (fun c24 => ?_)
          · refine Tr.lconst (pc := 196) (v := 0) d_X12_fit_196 rfl (by decide) ?_
            refine Tr.lstore_n (pc := 197) (i := 2) (ls2 := [(2, (1, 0)), (0, (2, 120)), (1, (0, a1))]) d_X12_fit_197 rfl (by decide) rfl ?_
            refine Tr.aload_n (pc := 198) (i := 0) d_X12_fit_198 rfl rfl ?_
            refine Tr.getf (pc := 199) d_X12_fit_199 f_12_345 (by decide) (by decide) (ty_120 hS.1.1) ?_
            refine Tr.tp 182 (fx_120_110 hS.1.1) ?_
            refine Tr.iconst (pc := 202) d_X12_fit_202 (by decide) ?_
            refine Tr.iconst (pc := 203) d_X12_fit_203 (by decide) ?_
            refine Tr.iastS (pc := 204) (P := St Tru ws_X12_fit_120_w1 as_X12_fit_120_w1 M0) d_X12_fit_204 (ty_182 hS.1.1) (by omega) (by omega) (sa_182 hS (by decide) (by omega) trivial) (fun M204 hS w204 => ?_)
            refine Tr.iconst (pc := 205) d_X12_fit_205 (by decide) ?_
            refine Tr.istore (pc := 206) (i := 4) (ls2 := [(4, (0, 0)), (2, (1, 0)), (0, (2, 120)), (1, (0, a1))]) d_X12_fit_206 (by decide) rfl ?_
            have J208 : ∀ (n208 : Nat) (M : Mem) (p208_2 p208_4 : Int), St Tru ws_X12_fit_120_w1 as_X12_fit_120_w1 M0 M → ((-9223372036854775808) ≤ p208_2 ∧ p208_2 ≤ 9223372036854775807) → (0 ≤ p208_4 ∧ p208_4 ≤ 4097) → rd M 120 106 = r9 → rd M 120 59 = u19_120_59 → rd M 126 1 = w2_126_1 → (u19_120_59 = -1) → (4097 - p208_4).toNat < n208 → Tr l K 8 mX12_fit 208 [(0, (2, 120)), (2, (1, p208_2)), (4, (0, p208_4))] [] M (q_X12_fit_120_w1 a1 M0) := by
              intro n208
              induction n208 with
              | zero => intro M p208_2 p208_4 hS bp208_2 bp208_4 k208_120_106 k208_120_59 k208_126_1 t208_0 hm208; exact absurd hm208 (Nat.not_lt_zero _)
              | succ n208 J208 =>
                intro M p208_2 p208_4 hS bp208_2 bp208_4 k208_120_106 k208_120_59 k208_126_1 t208_0 hm208
                refine Tr.iload (pc := 208) (i := 4) d_X12_fit_208 rfl ?_
                refine Tr.sipush (pc := 210) d_X12_fit_210 rfl (by decide) ?_
                refine Tr.icmp_ge (pc := 213) (tgt := 431) d_X12_fit_213 rfl (fun c213 => ?_) (fun c213 => ?_)
                · refine Tr.aload_n (pc := 431) (i := 0) d_X12_fit_431 rfl rfl ?_
                  refine Tr.iconst (pc := 432) d_X12_fit_432 (by decide) ?_
                  refine Tr.putzS (pc := 433) (P := St Tru ws_X12_fit_120_w1 as_X12_fit_120_w1 M0) d_X12_fit_433 f_12_342 (by decide) (ty_120 hS.1.1) (by omega) (st_120_109 hS (by decide) (by omega) trivial) (fun M433 hS w433 => ?_)
                  refine Tr.lload_n (pc := 436) (i := 2) d_X12_fit_436 rfl rfl ?_
                  refine Tr.l2i (pc := 437) d_X12_fit_437 ?_
                  refine Tr.gen (P := fun v => (-2147483648) ≤ v ∧ v ≤ 2147483647) (w32_b _) (fun r437 er437 br437 => ?_)
                  have kr_120_59 : rd M433 120 59 = u19_120_59 := ((Wr.b w433 rfl).trans k208_120_59)
                  exact Tr.iret (pc := 438) d_X12_fit_438 rfl ⟨hS, _, rfl, by omega, by omega, by omega⟩
                · refine Tr.lconst (pc := 216) (v := 0) d_X12_fit_216 rfl (by decide) ?_
                  refine Tr.lstore (pc := 217) (i := 5) (ls2 := [(5, (1, 0)), (0, (2, 120)), (2, (1, p208_2)), (4, (0, p208_4))]) d_X12_fit_217 (by decide) rfl ?_
                  refine Tr.iconst (pc := 219) d_X12_fit_219 (by decide) ?_
                  refine Tr.istore (pc := 220) (i := 7) (ls2 := [(7, (0, 0)), (5, (1, 0)), (0, (2, 120)), (2, (1, p208_2)), (4, (0, p208_4))]) d_X12_fit_220 (by decide) rfl ?_
                  have J222 : ∀ (n222 : Nat) (M : Mem) (p222_5 p222_7 : Int), St Tru ws_X12_fit_120_w1 as_X12_fit_120_w1 M0 M → ((-9223372036854775808) ≤ p222_5 ∧ p222_5 ≤ 9223372036854775807) → (0 ≤ p222_7 ∧ p222_7 ≤ 12) → (0 ≤ p208_4 ∧ p208_4 ≤ 4096) → rd M 120 106 = r9 → rd M 120 59 = u19_120_59 → rd M 126 1 = w2_126_1 → (u19_120_59 = -1) → (12 - p222_7).toNat < n222 → Tr l K 8 mX12_fit 222 [(0, (2, 120)), (2, (1, p208_2)), (4, (0, p208_4)), (5, (1, p222_5)), (7, (0, p222_7))] [] M (q_X12_fit_120_w1 a1 M0) := by
                    intro n222
                    induction n222 with
                    | zero => intro M p222_5 p222_7 hS bp222_5 bp222_7 z222p208_4 k222_120_106 k222_120_59 k222_126_1 t222_0 hm222; exact absurd hm222 (Nat.not_lt_zero _)
                    | succ n222 J222 =>
                      intro M p222_5 p222_7 hS bp222_5 bp222_7 z222p208_4 k222_120_106 k222_120_59 k222_126_1 t222_0 hm222
                      refine Tr.iload (pc := 222) (i := 7) d_X12_fit_222 rfl ?_
                      refine Tr.aload_n (pc := 224) (i := 0) d_X12_fit_224 rfl rfl ?_
                      refine Tr.getf (pc := 225) d_X12_fit_225 f_12_333 (by decide) (by decide) (ty_120 hS.1.1) ?_
                      refine Tr.tp r9 k222_120_106 ?_
                      refine Tr.icmp_ge (pc := 228) (tgt := 335) d_X12_fit_228 rfl (fun c228 => ?_) (fun c228 => ?_)
                      · refine Tr.aload_n (pc := 335) (i := 0) d_X12_fit_335 rfl rfl ?_
                        refine Tr.getf (pc := 336) d_X12_fit_336 f_12_345 (by decide) (by decide) (ty_120 hS.1.1) ?_
                        refine Tr.tp 182 (fx_120_110 hS.1.1) ?_
                        refine Tr.iconst (pc := 339) d_X12_fit_339 (by decide) ?_
                        refine Tr.iald (pc := 340) d_X12_fit_340 (ty_182 hS.1.1) (by omega) (by omega) ?_
                        refine Tr.gen (P := fun v => (-2147483648) ≤ v ∧ v ≤ 2147483647) (ar_182 hS.1.2.1 _) (fun r340 er340 br340 => ?_)
                        have J361 : ∀ (M : Mem), St Tru ws_X12_fit_120_w1 as_X12_fit_120_w1 M0 M → rd M 120 106 = r9 → rd M 120 59 = u19_120_59 → rd M 126 1 = w2_126_1 → (u19_120_59 = -1) → Tr l K 8 mX12_fit 361 [(0, (2, 120)), (2, (1, p208_2)), (4, (0, p208_4)), (5, (1, p222_5))] [] M (q_X12_fit_120_w1 a1 M0) := by
                          intro M  hS  k361_120_106 k361_120_59 k361_126_1 t361_0
                          refine Tr.aload_n (pc := 361) (i := 0) d_X12_fit_361 rfl rfl ?_
                          refine Tr.getf (pc := 362) d_X12_fit_362 f_12_345 (by decide) (by decide) (ty_120 hS.1.1) ?_
                          refine Tr.tp 182 (fx_120_110 hS.1.1) ?_
                          refine Tr.iconst (pc := 365) d_X12_fit_365 (by decide) ?_
                          refine Tr.iald (pc := 366) d_X12_fit_366 (ty_182 hS.1.1) (by omega) (by omega) ?_
                          refine Tr.gen (P := fun v => (-2147483648) ≤ v ∧ v ≤ 2147483647) (ar_182 hS.1.2.1 _) (fun r366 er366 br366 => ?_)
                          have J425 : ∀ (M : Mem) (p425_2 : Int), St Tru ws_X12_fit_120_w1 as_X12_fit_120_w1 M0 M → ((-9223372036854775808) ≤ p425_2 ∧ p425_2 ≤ 9223372036854775807) → rd M 120 106 = r9 → rd M 120 59 = u19_120_59 → rd M 126 1 = w2_126_1 → (u19_120_59 = -1) → Tr l K 8 mX12_fit 425 [(0, (2, 120)), (2, (1, p425_2)), (4, (0, p208_4))] [] M (q_X12_fit_120_w1 a1 M0) := by
                            intro M p425_2 hS bp425_2 k425_120_106 k425_120_59 k425_126_1 t425_0
                            refine Tr.iincV (pc := 425) (n2 := (p208_4 + 1)) (ls2 := [(4, (0, (p208_4 + 1))), (0, (2, 120)), (2, (1, p425_2))]) d_X12_fit_425 rfl (by decide) ((w32_id (by omega)).trans (by omega)) rfl ?_
                            refine Tr.goto (pc := 428) (tgt := 208) d_X12_fit_428 rfl ?_
                            refine Tr.pick [1, 2, 0] (ls2 := [(0, (2, 120)), (2, (1, p425_2)), (4, (0, (p208_4 + 1)))]) rfl ?_
                            exact J208 _ _ _ hS (by omega) (by omega) k425_120_106 k425_120_59 k425_126_1 (by omega) (by omega)
                          have J380 : ∀ (M : Mem), St Tru ws_X12_fit_120_w1 as_X12_fit_120_w1 M0 M → rd M 120 106 = r9 → rd M 120 59 = u19_120_59 → rd M 126 1 = w2_126_1 → rd M 182 3 = r366 → (u19_120_59 = -1) → Tr l K 8 mX12_fit 380 [(0, (2, 120)), (4, (0, p208_4)), (5, (1, p222_5))] [] M (q_X12_fit_120_w1 a1 M0) := by
                            intro M  hS  k380_120_106 k380_120_59 k380_126_1 k380_182_3 t380_0
                            refine Tr.lload (pc := 380) (i := 5) d_X12_fit_380 rfl ?_
                            refine Tr.lstore_n (pc := 382) (i := 2) (ls2 := [(2, (1, p222_5)), (0, (2, 120)), (4, (0, p208_4)), (5, (1, p222_5))]) d_X12_fit_382 rfl (by decide) rfl ?_
                            refine Tr.aload_n (pc := 383) (i := 0) d_X12_fit_383 rfl rfl ?_
                            refine Tr.getf (pc := 384) d_X12_fit_384 f_12_345 (by decide) (by decide) (ty_120 hS.1.1) ?_
                            refine Tr.tp 182 (fx_120_110 hS.1.1) ?_
                            refine Tr.iconst (pc := 387) d_X12_fit_387 (by decide) ?_
                            refine Tr.iload (pc := 388) (i := 4) d_X12_fit_388 rfl ?_
                            refine Tr.bipush (pc := 390) d_X12_fit_390 rfl (by decide) ?_
                            refine Tr.ishr (pc := 392) d_X12_fit_392 ?_
                            refine Tr.gen (P := fun v => (-2147483648) ≤ v ∧ v ≤ 2147483647) (i32_b _) (fun r392 er392 br392 => ?_)
                            refine Tr.iastS (pc := 393) (P := St Tru ws_X12_fit_120_w1 as_X12_fit_120_w1 M0) d_X12_fit_393 (ty_182 hS.1.1) (by omega) (by omega) (sa_182 hS (by decide) (by omega) trivial) (fun M393 hS w393 => ?_)
                            refine Tr.aload_n (pc := 394) (i := 0) d_X12_fit_394 rfl rfl ?_
                            refine Tr.getf (pc := 395) d_X12_fit_395 f_12_345 (by decide) (by decide) (ty_120 hS.1.1) ?_
                            refine Tr.tp 182 (fx_120_110 hS.1.1) ?_
                            refine Tr.iconst (pc := 398) d_X12_fit_398 (by decide) ?_
                            refine Tr.iload (pc := 399) (i := 4) d_X12_fit_399 rfl ?_
                            refine Tr.iconst (pc := 401) d_X12_fit_401 (by decide) ?_
                            refine Tr.ishr (pc := 402) d_X12_fit_402 ?_
                            refine Tr.gen (P := fun v => (-2147483648) ≤ v ∧ v ≤ 2147483647) (i32_b _) (fun r402 er402 br402 => ?_)
                            refine Tr.bipush (pc := 403) d_X12_fit_403 rfl (by decide) ?_
                            refine Tr.iand (pc := 405) d_X12_fit_405 ?_
                            refine Tr.gen (P := fun v => 0 ≤ v ∧ v ≤ 15) (f_iand_m 4 (by decide +kernel) (by decide) (by decide +kernel)) (fun r405 er405 br405 => ?_)
                            refine Tr.iastS (pc := 406) (P := St Tru ws_X12_fit_120_w1 as_X12_fit_120_w1 M0) d_X12_fit_406 (ty_182 hS.1.1) (by omega) (by omega) (sa_182 hS (by decide) (by omega) trivial) (fun M406 hS w406 => ?_)
                            refine Tr.aload_n (pc := 407) (i := 0) d_X12_fit_407 rfl rfl ?_
                            refine Tr.getf (pc := 408) d_X12_fit_408 f_12_345 (by decide) (by decide) (ty_120 hS.1.1) ?_
                            refine Tr.tp 182 (fx_120_110 hS.1.1) ?_
                            refine Tr.iconst (pc := 411) d_X12_fit_411 (by decide) ?_
                            refine Tr.iload (pc := 412) (i := 4) d_X12_fit_412 rfl ?_
                            refine Tr.bipush (pc := 414) d_X12_fit_414 rfl (by decide) ?_
                            refine Tr.iand (pc := 416) d_X12_fit_416 ?_
                            refine Tr.gen (P := fun v => 0 ≤ v ∧ v ≤ 15) (f_iand_m 4 (by decide +kernel) (by decide) (by decide +kernel)) (fun r416 er416 br416 => ?_)
                            refine Tr.iastS (pc := 417) (P := St Tru ws_X12_fit_120_w1 as_X12_fit_120_w1 M0) d_X12_fit_417 (ty_182 hS.1.1) (by omega) (by omega) (sa_182 hS (by decide) (by omega) trivial) (fun M417 hS w417 => ?_)
                            refine Tr.aload_n (pc := 418) (i := 0) d_X12_fit_418 rfl rfl ?_
                            refine Tr.getf (pc := 419) d_X12_fit_419 f_12_345 (by decide) (by decide) (ty_120 hS.1.1) ?_
                            refine Tr.tp 182 (fx_120_110 hS.1.1) ?_
                            refine Tr.iconst (pc := 422) d_X12_fit_422 (by decide) ?_
                            refine Tr.iconst (pc := 423) d_X12_fit_423 (by decide) ?_
                            refine Tr.iastS (pc := 424) (P := St Tru ws_X12_fit_120_w1 as_X12_fit_120_w1 M0) d_X12_fit_424 (ty_182 hS.1.1) (by omega) (by omega) (sa_182 hS (by decide) (by omega) trivial) (fun M424 hS w424 => ?_)
                            refine Tr.pick [1, 0, 2] (ls2 := [(0, (2, 120)), (2, (1, p222_5)), (4, (0, p208_4))]) rfl ?_
                            exact J425 _ _ hS (by omega) ((Wr.b w424 rfl).trans ((Wr.b w417 rfl).trans ((Wr.b w406 rfl).trans ((Wr.b w393 rfl).trans k380_120_106)))) ((Wr.b w424 rfl).trans ((Wr.b w417 rfl).trans ((Wr.b w406 rfl).trans ((Wr.b w393 rfl).trans k380_120_59)))) ((Wr.b w424 rfl).trans ((Wr.b w417 rfl).trans ((Wr.b w406 rfl).trans ((Wr.b w393 rfl).trans k380_126_1)))) (by omega)
                          refine Tr.if_le (pc := 367) (tgt := 380) d_X12_fit_367 rfl (fun c367 => ?_) (fun c367 => ?_)
                          · refine Tr.pick [0, 2, 3] (ls2 := [(0, (2, 120)), (4, (0, p208_4)), (5, (1, p222_5))]) rfl ?_
                            exact J380 _ hS k361_120_106 k361_120_59 k361_126_1 er366 (by omega)
                          · refine Tr.lload (pc := 370) (i := 5) d_X12_fit_370 rfl ?_
                            refine Tr.lload_n (pc := 372) (i := 2) d_X12_fit_372 rfl rfl ?_
                            refine Tr.lcmp (pc := 373) d_X12_fit_373 ?_
                            refine Tr.gen (P := fun v => (v = 1 ∧ p208_2 < p222_5) ∨ (v = 0 ∧ p222_5 = p208_2) ∨ (v = -1 ∧ p222_5 < p208_2)) (f_lcmp_c _ _) (fun r373 er373 br373 => ?_)
                            refine Tr.if_lt (pc := 374) (tgt := 380) d_X12_fit_374 rfl (fun c374 => ?_) (fun c374 => ?_)
                            · refine Tr.pick [0, 2, 3] (ls2 := [(0, (2, 120)), (4, (0, p208_4)), (5, (1, p222_5))]) rfl ?_
                              exact J380 _ hS k361_120_106 k361_120_59 k361_126_1 er366 (by omega)
                            · refine Tr.goto (pc := 377) (tgt := 425) d_X12_fit_377 rfl ?_
                              refine Tr.pick [0, 1, 2] (ls2 := [(0, (2, 120)), (2, (1, p208_2)), (4, (0, p208_4))]) rfl ?_
                              exact J425 _ _ hS (by omega) k361_120_106 k361_120_59 k361_126_1 (by omega)
                        refine Tr.if_le (pc := 341) (tgt := 361) d_X12_fit_341 rfl (fun c341 => ?_) (fun c341 => ?_)
                        · refine Tr.pick [0, 1, 2, 3] (ls2 := [(0, (2, 120)), (2, (1, p208_2)), (4, (0, p208_4)), (5, (1, p222_5))]) rfl ?_
                          exact J361 _ hS k222_120_106 k222_120_59 k222_126_1 (by omega)
                        · refine Tr.lload (pc := 344) (i := 5) d_X12_fit_344 rfl ?_
                          refine Tr.lload_n (pc := 346) (i := 2) d_X12_fit_346 rfl rfl ?_
                          refine Tr.lcmp (pc := 347) d_X12_fit_347 ?_
                          refine Tr.gen (P := fun v => (v = 1 ∧ p208_2 < p222_5) ∨ (v = 0 ∧ p222_5 = p208_2) ∨ (v = -1 ∧ p222_5 < p208_2)) (f_lcmp_c _ _) (fun r347 er347 br347 => ?_)
                          refine Tr.if_ne (pc := 348) (tgt := 361) d_X12_fit_348 rfl (fun c348 => ?_) (fun c348 => ?_)
                          · refine Tr.pick [0, 1, 2, 3] (ls2 := [(0, (2, 120)), (2, (1, p208_2)), (4, (0, p208_4)), (5, (1, p222_5))]) rfl ?_
                            exact J361 _ hS k222_120_106 k222_120_59 k222_126_1 (by omega)
                          · refine Tr.aload_n (pc := 351) (i := 0) d_X12_fit_351 rfl rfl ?_
                            refine Tr.getf (pc := 352) d_X12_fit_352 f_12_345 (by decide) (by decide) (ty_120 hS.1.1) ?_
                            refine Tr.tp 182 (fx_120_110 hS.1.1) ?_
                            refine Tr.iconst (pc := 355) d_X12_fit_355 (by decide) ?_
                            refine Tr.dup2 (pc := 356) d_X12_fit_356 ne01 ne21 ?_
                            refine Tr.iald (pc := 357) d_X12_fit_357 (ty_182 hS.1.1) (by omega) (by omega) ?_
                            refine Tr.tp r340 er340 ?_
                            refine Tr.iconst (pc := 358) d_X12_fit_358 (by decide) ?_
                            refine Tr.iadd (pc := 359) d_X12_fit_359 ?_
                            refine Tr.gen (P := fun v => (-2147483648) ≤ v ∧ v ≤ 2147483647) (w32_b _) (fun r359 er359 br359 => ?_)
                            refine Tr.iastS (pc := 360) (P := St Tru ws_X12_fit_120_w1 as_X12_fit_120_w1 M0) d_X12_fit_360 (ty_182 hS.1.1) (by omega) (by omega) (sa_182 hS (by decide) (by omega) trivial) (fun M360 hS w360 => ?_)
                            refine Tr.pick [0, 1, 2, 3] (ls2 := [(0, (2, 120)), (2, (1, p208_2)), (4, (0, p208_4)), (5, (1, p222_5))]) rfl ?_
                            exact J361 _ hS ((Wr.b w360 rfl).trans k222_120_106) ((Wr.b w360 rfl).trans k222_120_59) ((Wr.b w360 rfl).trans k222_126_1) (by omega)
                      · refine Tr.aload_n (pc := 231) (i := 0) d_X12_fit_231 rfl rfl ?_
                        refine Tr.getf (pc := 232) d_X12_fit_232 f_12_348 (by decide) (by decide) (ty_120 hS.1.1) ?_
                        refine Tr.tp 183 (fx_120_111 hS.1.1) ?_
                        refine Tr.iload (pc := 235) (i := 7) d_X12_fit_235 rfl ?_
                        refine Tr.lald (pc := 237) d_X12_fit_237 (ty_183 hS.1.1) (by omega) (by omega) ?_
                        refine Tr.gen (P := fun v => (-9223372036854775808) ≤ v ∧ v ≤ 9223372036854775807) (ar_183 hS.1.2.1 _) (fun r237 er237 br237 => ?_)
                        refine Tr.aload_n (pc := 238) (i := 0) d_X12_fit_238 rfl rfl ?_
                        refine Tr.getf (pc := 239) d_X12_fit_239 f_12_351 (by decide) (by decide) (ty_120 hS.1.1) ?_
                        refine Tr.tp 184 (fx_120_112 hS.1.1) ?_
                        refine Tr.iconst (pc := 242) d_X12_fit_242 (by decide) ?_
                        refine Tr.iload (pc := 243) (i := 7) d_X12_fit_243 rfl ?_
                        refine Tr.imul (pc := 245) d_X12_fit_245 ?_
                        refine Tr.tp (3 * p222_7) ((w32_id (by omega)).trans (by omega)) ?_
                        refine Tr.iald (pc := 246) d_X12_fit_246 (ty_184 hS.1.1) (by omega) (by omega) ?_
                        refine Tr.gen (P := fun v => (-2147483648) ≤ v ∧ v ≤ 2147483647) (ar_184 hS.1.2.1 _) (fun r246 er246 br246 => ?_)
                        refine Tr.i2l (pc := 247) d_X12_fit_247 ?_
                        refine Tr.iload (pc := 248) (i := 4) d_X12_fit_248 rfl ?_
                        refine Tr.bipush (pc := 250) d_X12_fit_250 rfl (by decide) ?_
                        refine Tr.ishr (pc := 252) d_X12_fit_252 ?_
                        refine Tr.gen (P := fun v => (-2147483648) ≤ v ∧ v ≤ 2147483647) (i32_b _) (fun r252 er252 br252 => ?_)
                        refine Tr.i2l (pc := 253) d_X12_fit_253 ?_
                        refine Tr.lmul (pc := 254) d_X12_fit_254 ?_
                        refine Tr.gen (P := fun v => (-9223372036854775808) ≤ v ∧ v ≤ 9223372036854775807) (w64_b _) (fun r254 er254 br254 => ?_)
                        refine Tr.ladd (pc := 255) d_X12_fit_255 ?_
                        refine Tr.gen (P := fun v => (-9223372036854775808) ≤ v ∧ v ≤ 9223372036854775807) (w64_b _) (fun r255 er255 br255 => ?_)
                        refine Tr.aload_n (pc := 256) (i := 0) d_X12_fit_256 rfl rfl ?_
                        refine Tr.getf (pc := 257) d_X12_fit_257 f_12_351 (by decide) (by decide) (ty_120 hS.1.1) ?_
                        refine Tr.tp 184 (fx_120_112 hS.1.1) ?_
                        refine Tr.iconst (pc := 260) d_X12_fit_260 (by decide) ?_
                        refine Tr.iload (pc := 261) (i := 7) d_X12_fit_261 rfl ?_
                        refine Tr.imul (pc := 263) d_X12_fit_263 ?_
                        refine Tr.tp (3 * p222_7) ((w32_id (by omega)).trans (by omega)) ?_
                        refine Tr.iconst (pc := 264) d_X12_fit_264 (by decide) ?_
                        refine Tr.iadd (pc := 265) d_X12_fit_265 ?_
                        refine Tr.tp (3 * p222_7 + 1) ((w32_id (by omega)).trans (by omega)) ?_
                        refine Tr.iald (pc := 266) d_X12_fit_266 (ty_184 hS.1.1) (by omega) (by omega) ?_
                        refine Tr.gen (P := fun v => (-2147483648) ≤ v ∧ v ≤ 2147483647) (ar_184 hS.1.2.1 _) (fun r266 er266 br266 => ?_)
                        refine Tr.i2l (pc := 267) d_X12_fit_267 ?_
                        refine Tr.iload (pc := 268) (i := 4) d_X12_fit_268 rfl ?_
                        refine Tr.iconst (pc := 270) d_X12_fit_270 (by decide) ?_
                        refine Tr.ishr (pc := 271) d_X12_fit_271 ?_
                        refine Tr.gen (P := fun v => (-2147483648) ≤ v ∧ v ≤ 2147483647) (i32_b _) (fun r271 er271 br271 => ?_)
                        refine Tr.bipush (pc := 272) d_X12_fit_272 rfl (by decide) ?_
                        refine Tr.iand (pc := 274) d_X12_fit_274 ?_
                        refine Tr.gen (P := fun v => 0 ≤ v ∧ v ≤ 15) (f_iand_m 4 (by decide +kernel) (by decide) (by decide +kernel)) (fun r274 er274 br274 => ?_)
                        refine Tr.i2l (pc := 275) d_X12_fit_275 ?_
                        refine Tr.lmul (pc := 276) d_X12_fit_276 ?_
                        refine Tr.gen (P := fun v => (-9223372036854775808) ≤ v ∧ v ≤ 9223372036854775807) (w64_b _) (fun r276 er276 br276 => ?_)
                        refine Tr.ladd (pc := 277) d_X12_fit_277 ?_
                        refine Tr.gen (P := fun v => (-9223372036854775808) ≤ v ∧ v ≤ 9223372036854775807) (w64_b _) (fun r277 er277 br277 => ?_)
                        refine Tr.aload_n (pc := 278) (i := 0) d_X12_fit_278 rfl rfl ?_
                        refine Tr.getf (pc := 279) d_X12_fit_279 f_12_351 (by decide) (by decide) (ty_120 hS.1.1) ?_
                        refine Tr.tp 184 (fx_120_112 hS.1.1) ?_
                        refine Tr.iconst (pc := 282) d_X12_fit_282 (by decide) ?_
                        refine Tr.iload (pc := 283) (i := 7) d_X12_fit_283 rfl ?_
                        refine Tr.imul (pc := 285) d_X12_fit_285 ?_
                        refine Tr.tp (3 * p222_7) ((w32_id (by omega)).trans (by omega)) ?_
                        refine Tr.iconst (pc := 286) d_X12_fit_286 (by decide) ?_
                        refine Tr.iadd (pc := 287) d_X12_fit_287 ?_
                        refine Tr.tp (3 * p222_7 + 2) ((w32_id (by omega)).trans (by omega)) ?_
                        refine Tr.iald (pc := 288) d_X12_fit_288 (ty_184 hS.1.1) (by omega) (by omega) ?_
                        refine Tr.gen (P := fun v => (-2147483648) ≤ v ∧ v ≤ 2147483647) (ar_184 hS.1.2.1 _) (fun r288 er288 br288 => ?_)
                        refine Tr.i2l (pc := 289) d_X12_fit_289 ?_
                        refine Tr.iload (pc := 290) (i := 4) d_X12_fit_290 rfl ?_
                        refine Tr.bipush (pc := 292) d_X12_fit_292 rfl (by decide) ?_
                        refine Tr.iand (pc := 294) d_X12_fit_294 ?_
                        refine Tr.gen (P := fun v => 0 ≤ v ∧ v ≤ 15) (f_iand_m 4 (by decide +kernel) (by decide) (by decide +kernel)) (fun r294 er294 br294 => ?_)
                        refine Tr.i2l (pc := 295) d_X12_fit_295 ?_
                        refine Tr.lmul (pc := 296) d_X12_fit_296 ?_
                        refine Tr.gen (P := fun v => (-9223372036854775808) ≤ v ∧ v ≤ 9223372036854775807) (w64_b _) (fun r296 er296 br296 => ?_)
                        refine Tr.ladd (pc := 297) d_X12_fit_297 ?_
                        refine Tr.gen (P := fun v => (-9223372036854775808) ≤ v ∧ v ≤ 9223372036854775807) (w64_b _) (fun r297 er297 br297 => ?_)
                        refine Tr.aload_n (pc := 298) (i := 0) d_X12_fit_298 rfl rfl ?_
                        refine Tr.getf (pc := 299) d_X12_fit_299 f_12_339 (by decide) (by decide) (ty_120 hS.1.1) ?_
                        refine Tr.tp 181 (fx_120_108 hS.1.1) ?_
                        refine Tr.iload (pc := 302) (i := 7) d_X12_fit_302 rfl ?_
                        refine Tr.iald (pc := 304) d_X12_fit_304 (ty_181 hS.1.1) (by omega) (by omega) ?_
                        refine Tr.gen (P := fun v => (-2147483648) ≤ v ∧ v ≤ 2147483647) (ar_181 hS.1.2.1 _) (fun r304 er304 br304 => ?_)
                        refine Tr.i2l (pc := 305) d_X12_fit_305 ?_
                        refine Tr.lsub (pc := 306) d_X12_fit_306 ?_
                        refine Tr.gen (P := fun v => (-9223372036854775808) ≤ v ∧ v ≤ 9223372036854775807) (w64_b _) (fun r306 er306 br306 => ?_)
                        refine Tr.lstore (pc := 307) (i := 8) (ls2 := [(8, (1, r306)), (0, (2, 120)), (2, (1, p208_2)), (4, (0, p208_4)), (5, (1, p222_5)), (7, (0, p222_7))]) d_X12_fit_307 (by decide) rfl ?_
                        refine Tr.lload (pc := 309) (i := 5) d_X12_fit_309 rfl ?_
                        refine Tr.lload (pc := 311) (i := 8) d_X12_fit_311 rfl ?_
                        refine Tr.lconst (pc := 313) (v := 0) d_X12_fit_313 rfl (by decide) ?_
                        refine Tr.lcmp (pc := 314) d_X12_fit_314 ?_
                        refine Tr.gen (P := fun v => (v = 1 ∧ 0 < r306) ∨ (v = 0 ∧ r306 = 0) ∨ (v = -1 ∧ r306 < 0)) (f_lcmp_c _ _) (fun r314 er314 br314 => ?_)
                        have J326 : ∀ (M : Mem) (q326_1 : Int), St Tru ws_X12_fit_120_w1 as_X12_fit_120_w1 M0 M → ((-9223372036854775808) ≤ q326_1 ∧ q326_1 ≤ 9223372036854775807) → rd M 120 106 = r9 → rd M 120 59 = u19_120_59 → rd M 126 1 = w2_126_1 → rd M 181 p222_7 = r304 → rd M 183 p222_7 = r237 → rd M 184 (3 * p222_7) = r246 → rd M 184 (3 * p222_7 + 1) = r266 → rd M 184 (3 * p222_7 + 2) = r288 → (u19_120_59 = -1) → Tr l K 8 mX12_fit 326 [(0, (2, 120)), (2, (1, p208_2)), (4, (0, p208_4)), (7, (0, p222_7))] [(1, q326_1), (1, p222_5)] M (q_X12_fit_120_w1 a1 M0) := by
                          intro M q326_1 hS bq326_1 k326_120_106 k326_120_59 k326_126_1 k326_181_p222_710 k326_183_p222_710 k326_184_p222_730 k326_184_p222_731 k326_184_p222_732 t326_0
                          refine Tr.ladd (pc := 326) d_X12_fit_326 ?_
                          refine Tr.gen (P := fun v => (-9223372036854775808) ≤ v ∧ v ≤ 9223372036854775807) (w64_b _) (fun r326 er326 br326 => ?_)
                          refine Tr.lstore (pc := 327) (i := 5) (ls2 := [(5, (1, r326)), (0, (2, 120)), (2, (1, p208_2)), (4, (0, p208_4)), (7, (0, p222_7))]) d_X12_fit_327 (by decide) rfl ?_
                          refine Tr.iincV (pc := 329) (n2 := (p222_7 + 1)) (ls2 := [(7, (0, (p222_7 + 1))), (5, (1, r326)), (0, (2, 120)), (2, (1, p208_2)), (4, (0, p208_4))]) d_X12_fit_329 rfl (by decide) ((w32_id (by omega)).trans (by omega)) rfl ?_
                          refine Tr.goto (pc := 332) (tgt := 222) d_X12_fit_332 rfl ?_
                          refine Tr.pick [2, 3, 4, 1, 0] (ls2 := [(0, (2, 120)), (2, (1, p208_2)), (4, (0, p208_4)), (5, (1, r326)), (7, (0, (p222_7 + 1)))]) rfl ?_
                          exact J222 _ _ _ hS (by omega) (by omega) (by omega) k326_120_106 k326_120_59 k326_126_1 (by omega) (by omega)
                        refine Tr.if_ge (pc := 315) (tgt := 324) d_X12_fit_315 rfl (fun c315 => ?_) (fun c315 => ?_)
                        · refine Tr.lload (pc := 324) (i := 8) d_X12_fit_324 rfl ?_
                          refine Tr.pick [1, 2, 3, 5] (ls2 := [(0, (2, 120)), (2, (1, p208_2)), (4, (0, p208_4)), (7, (0, p222_7))]) rfl ?_
                          exact J326 _ _ hS (by omega) k222_120_106 k222_120_59 k222_126_1 er304 er237 er246 er266 er288 (by omega)
                        · refine Tr.lload (pc := 318) (i := 8) d_X12_fit_318 rfl ?_
                          refine Tr.lneg (pc := 320) d_X12_fit_320 ?_
                          refine Tr.gen (P := fun v => (-9223372036854775808) ≤ v ∧ v ≤ 9223372036854775807) (w64_b _) (fun r320 er320 br320 => ?_)
                          refine Tr.goto (pc := 321) (tgt := 326) d_X12_fit_321 rfl ?_
                          refine Tr.pick [1, 2, 3, 5] (ls2 := [(0, (2, 120)), (2, (1, p208_2)), (4, (0, p208_4)), (7, (0, p222_7))]) rfl ?_
                          exact J326 _ _ hS (by omega) k222_120_106 k222_120_59 k222_126_1 er304 er237 er246 er266 er288 (by omega)
                  refine Tr.pick [2, 3, 4, 1, 0] (ls2 := [(0, (2, 120)), (2, (1, p208_2)), (4, (0, p208_4)), (5, (1, 0)), (7, (0, 0))]) rfl ?_
                  exact J222 _ _ _ _ hS (by omega) (by omega) (by omega) k208_120_106 k208_120_59 k208_126_1 (by omega) (Nat.lt_succ_self _)
            refine Tr.pick [2, 1, 0] (ls2 := [(0, (2, 120)), (2, (1, 0)), (4, (0, 0))]) rfl ?_
            exact J208 _ _ _ _ hS (by omega) (by omega) ((Wr.b w204 rfl).trans k19_120_106) ((Wr.b w204 rfl).trans k19_120_59) ((Wr.b w204 rfl).trans k19_126_1) (by omega) (Nat.lt_succ_self _)
          · refine Tr.iconst (pc := 27) d_X12_fit_27 (by decide) ?_
            refine Tr.istore_n (pc := 28) (i := 3) (ls2 := [(3, (0, 0)), (0, (2, 120)), (1, (0, a1)), (2, (0, p19_2))]) d_X12_fit_28 rfl (by decide) rfl ?_
            have J29 : ∀ (n29 : Nat) (M : Mem) (p29_3 : Int), St Tru ws_X12_fit_120_w1 as_X12_fit_120_w1 M0 M → (0 ≤ p29_3 ∧ p29_3 ≤ 3) → rd M 120 106 = r9 → rd M 120 59 = u19_120_59 → rd M 126 1 = w2_126_1 → (u19_120_59 = -1) → (3 - p29_3).toNat < n29 → Tr l K 8 mX12_fit 29 [(0, (2, 120)), (1, (0, a1)), (2, (0, p19_2)), (3, (0, p29_3))] [] M (q_X12_fit_120_w1 a1 M0) := by
              intro n29
              induction n29 with
              | zero => intro M p29_3 hS bp29_3 k29_120_106 k29_120_59 k29_126_1 t29_0 hm29; exact absurd hm29 (Nat.not_lt_zero _)
              | succ n29 J29 =>
                intro M p29_3 hS bp29_3 k29_120_106 k29_120_59 k29_126_1 t29_0 hm29
                refine Tr.iload_n (pc := 29) (i := 3) d_X12_fit_29 rfl rfl ?_
                refine Tr.iconst (pc := 30) d_X12_fit_30 (by decide) ?_
                refine Tr.icmp_ge (pc := 31) (tgt := 56) d_X12_fit_31 rfl (fun c31 => ?_) (fun c31 => ?_)
                · refine Tr.aload_n (pc := 56) (i := 0) d_X12_fit_56 rfl rfl ?_
                  refine Tr.ldc2 (pc := 57) d_X12_fit_57 kl_12_686 (by decide) ?_
                  refine Tr.callV (pc := 60) (as := [_]) d_X12_fit_60 s_12_637 ok_X12_runs rfl rfl (Nat.le_of_ble_eq_true rfl) (Nat.le_of_ble_eq_true rfl) (by decide) (ty_120 hS.1.1) ?_
                  have kb60_120_59 : rd M 120 59 = u19_120_59 := k29_120_59
                  refine Tr.imp (Tr.deep (by decide) (sp_X12_runs_120_w2 hS.1 ((St.kp hS (by decide) (by decide) (by decide)).trans en_120_12) (-1) (by omega) (by omega) (Bk1.of hF_Bk1 (fun j => (St.ka hS (by decide) (by decide) (by decide))) (fun j => (St.ka hS (by decide) (by decide) (by decide))) (fun j => (St.ka hS (by decide) (by decide) (by decide))) (fun j => (St.ka hS (by decide) (by decide) (by decide))) (fun j => (St.ka hS (by decide) (by decide) (by decide))) (fun j => (St.ka hS (by decide) (by decide) (by decide))) (fun j => (St.ka hS (by decide) (by decide) (by decide))) (fun j => (St.ka hS (by decide) (by decide) (by decide))) (St.kp hS (by decide) (by decide) (by decide)) (St.kp hS (by decide) (by decide) (by decide)) (St.kp hS (by decide) (by decide) (by decide)) (St.kp hS (by decide) (by decide) (by decide))))) ?_
                  rintro M60 _ ⟨h60, r60, rfl, lr60, ur60, z60_0⟩
                  have hS := St.tr hS h60 (by decide) (by decide)
                  obtain ⟨s60_120_59, es60_120_59⟩ : ∃ v, rd M60 120 59 = v := ⟨_, rfl⟩
                  have bs60_120_59 : (-1) ≤ s60_120_59 ∧ s60_120_59 ≤ 5 := by rw [← es60_120_59]; exact ir_120_59 hS.1.2.1
                  refine Tr.sc [(0, r60)] rfl ?_
                  refine Tr.istore_n (pc := 63) (i := 3) (ls2 := [(3, (0, r60)), (0, (2, 120)), (1, (0, a1)), (2, (0, p19_2))]) d_X12_fit_63 rfl (by decide) rfl ?_
                  refine Tr.aload_n (pc := 64) (i := 0) d_X12_fit_64 rfl rfl ?_
                  refine Tr.getf (pc := 65) d_X12_fit_65 f_12_351 (by decide) (by decide) (ty_120 hS.1.1) ?_
                  refine Tr.tp 184 (fx_120_112 hS.1.1) ?_
                  refine Tr.iconst (pc := 68) d_X12_fit_68 (by decide) ?_
                  refine Tr.iload_n (pc := 69) (i := 2) d_X12_fit_69 rfl rfl ?_
                  refine Tr.imul (pc := 70) d_X12_fit_70 ?_
                  refine Tr.tp (3 * p19_2) ((w32_id (by omega)).trans (by omega)) ?_
                  refine Tr.aload_n (pc := 71) (i := 0) d_X12_fit_71 rfl rfl ?_
                  refine Tr.getf (pc := 72) d_X12_fit_72 f_12_222 (by decide) (by decide) (ty_120 hS.1.1) ?_
                  refine Tr.tp 161 (fx_120_69 hS.1.1) ?_
                  refine Tr.iconst (pc := 75) d_X12_fit_75 (by decide) ?_
                  refine Tr.iload_n (pc := 76) (i := 1) d_X12_fit_76 rfl rfl ?_
                  refine Tr.imul (pc := 77) d_X12_fit_77 ?_
                  refine Tr.tp (4 * a1) ((w32_id (by omega)).trans (by omega)) ?_
                  refine Tr.iconst (pc := 78) d_X12_fit_78 (by decide) ?_
                  refine Tr.iadd (pc := 79) d_X12_fit_79 ?_
                  refine Tr.tp (4 * a1) ((w32_id (by omega)).trans (by omega)) ?_
                  refine Tr.iald (pc := 80) d_X12_fit_80 (ty_161 hS.1.1) (by omega) (by omega) ?_
                  refine Tr.gen (P := fun v => (-2147483648) ≤ v ∧ v ≤ 2147483647) (ar_161 hS.1.2.1 _) (fun r80 er80 br80 => ?_)
                  refine Tr.iastS (pc := 81) (P := St Tru ws_X12_fit_120_w1 as_X12_fit_120_w1 M0) d_X12_fit_81 (ty_184 hS.1.1) (by omega) (by omega) (sa_184 hS (by decide) (by omega) trivial) (fun M81 hS w81 => ?_)
                  refine Tr.aload_n (pc := 82) (i := 0) d_X12_fit_82 rfl rfl ?_
                  refine Tr.getf (pc := 83) d_X12_fit_83 f_12_351 (by decide) (by decide) (ty_120 hS.1.1) ?_
                  refine Tr.tp 184 (fx_120_112 hS.1.1) ?_
                  refine Tr.iconst (pc := 86) d_X12_fit_86 (by decide) ?_
                  refine Tr.iload_n (pc := 87) (i := 2) d_X12_fit_87 rfl rfl ?_
                  refine Tr.imul (pc := 88) d_X12_fit_88 ?_
                  refine Tr.tp (3 * p19_2) ((w32_id (by omega)).trans (by omega)) ?_
                  refine Tr.iconst (pc := 89) d_X12_fit_89 (by decide) ?_
                  refine Tr.iadd (pc := 90) d_X12_fit_90 ?_
                  refine Tr.tp (3 * p19_2 + 1) ((w32_id (by omega)).trans (by omega)) ?_
                  refine Tr.aload_n (pc := 91) (i := 0) d_X12_fit_91 rfl rfl ?_
                  refine Tr.getf (pc := 92) d_X12_fit_92 f_12_222 (by decide) (by decide) (ty_120 hS.1.1) ?_
                  refine Tr.tp 161 (fx_120_69 hS.1.1) ?_
                  refine Tr.iconst (pc := 95) d_X12_fit_95 (by decide) ?_
                  refine Tr.iload_n (pc := 96) (i := 1) d_X12_fit_96 rfl rfl ?_
                  refine Tr.imul (pc := 97) d_X12_fit_97 ?_
                  refine Tr.tp (4 * a1) ((w32_id (by omega)).trans (by omega)) ?_
                  refine Tr.iconst (pc := 98) d_X12_fit_98 (by decide) ?_
                  refine Tr.iadd (pc := 99) d_X12_fit_99 ?_
                  refine Tr.tp (4 * a1 + 2) ((w32_id (by omega)).trans (by omega)) ?_
                  refine Tr.iald (pc := 100) d_X12_fit_100 (ty_161 hS.1.1) (by omega) (by omega) ?_
                  refine Tr.gen (P := fun v => (-2147483648) ≤ v ∧ v ≤ 2147483647) (ar_161 hS.1.2.1 _) (fun r100 er100 br100 => ?_)
                  refine Tr.iastS (pc := 101) (P := St Tru ws_X12_fit_120_w1 as_X12_fit_120_w1 M0) d_X12_fit_101 (ty_184 hS.1.1) (by omega) (by omega) (sa_184 hS (by decide) (by omega) trivial) (fun M101 hS w101 => ?_)
                  refine Tr.aload_n (pc := 102) (i := 0) d_X12_fit_102 rfl rfl ?_
                  refine Tr.getf (pc := 103) d_X12_fit_103 f_12_351 (by decide) (by decide) (ty_120 hS.1.1) ?_
                  refine Tr.tp 184 (fx_120_112 hS.1.1) ?_
                  refine Tr.iconst (pc := 106) d_X12_fit_106 (by decide) ?_
                  refine Tr.iload_n (pc := 107) (i := 2) d_X12_fit_107 rfl rfl ?_
                  refine Tr.imul (pc := 108) d_X12_fit_108 ?_
                  refine Tr.tp (3 * p19_2) ((w32_id (by omega)).trans (by omega)) ?_
                  refine Tr.iconst (pc := 109) d_X12_fit_109 (by decide) ?_
                  refine Tr.iadd (pc := 110) d_X12_fit_110 ?_
                  refine Tr.tp (3 * p19_2 + 2) ((w32_id (by omega)).trans (by omega)) ?_
                  refine Tr.aload_n (pc := 111) (i := 0) d_X12_fit_111 rfl rfl ?_
                  refine Tr.getf (pc := 112) d_X12_fit_112 f_12_222 (by decide) (by decide) (ty_120 hS.1.1) ?_
                  refine Tr.tp 161 (fx_120_69 hS.1.1) ?_
                  refine Tr.iconst (pc := 115) d_X12_fit_115 (by decide) ?_
                  refine Tr.iload_n (pc := 116) (i := 1) d_X12_fit_116 rfl rfl ?_
                  refine Tr.imul (pc := 117) d_X12_fit_117 ?_
                  refine Tr.tp (4 * a1) ((w32_id (by omega)).trans (by omega)) ?_
                  refine Tr.iconst (pc := 118) d_X12_fit_118 (by decide) ?_
                  refine Tr.iadd (pc := 119) d_X12_fit_119 ?_
                  refine Tr.tp (4 * a1 + 3) ((w32_id (by omega)).trans (by omega)) ?_
                  refine Tr.iald (pc := 120) d_X12_fit_120 (ty_161 hS.1.1) (by omega) (by omega) ?_
                  refine Tr.gen (P := fun v => (-2147483648) ≤ v ∧ v ≤ 2147483647) (ar_161 hS.1.2.1 _) (fun r120 er120 br120 => ?_)
                  refine Tr.iastS (pc := 121) (P := St Tru ws_X12_fit_120_w1 as_X12_fit_120_w1 M0) d_X12_fit_121 (ty_184 hS.1.1) (by omega) (by omega) (sa_184 hS (by decide) (by omega) trivial) (fun M121 hS w121 => ?_)
                  refine Tr.aload_n (pc := 122) (i := 0) d_X12_fit_122 rfl rfl ?_
                  refine Tr.getf (pc := 123) d_X12_fit_123 f_12_348 (by decide) (by decide) (ty_120 hS.1.1) ?_
                  refine Tr.tp 183 (fx_120_111 hS.1.1) ?_
                  refine Tr.iload_n (pc := 126) (i := 2) d_X12_fit_126 rfl rfl ?_
                  refine Tr.aload_n (pc := 127) (i := 0) d_X12_fit_127 rfl rfl ?_
                  refine Tr.getf (pc := 128) d_X12_fit_128 f_12_204 (by decide) (by decide) (ty_120 hS.1.1) ?_
                  refine Tr.gen (P := fun v => (-9223372036854775808) ≤ v ∧ v ≤ 9223372036854775807) (ir_120_63 hS.1.2.1) (fun r128 er128 br128 => ?_)
                  refine Tr.aload_n (pc := 131) (i := 0) d_X12_fit_131 rfl rfl ?_
                  refine Tr.getf (pc := 132) d_X12_fit_132 f_12_351 (by decide) (by decide) (ty_120 hS.1.1) ?_
                  refine Tr.tp 184 (fx_120_112 hS.1.1) ?_
                  refine Tr.iconst (pc := 135) d_X12_fit_135 (by decide) ?_
                  refine Tr.iload_n (pc := 136) (i := 2) d_X12_fit_136 rfl rfl ?_
                  refine Tr.imul (pc := 137) d_X12_fit_137 ?_
                  refine Tr.tp (3 * p19_2) ((w32_id (by omega)).trans (by omega)) ?_
                  refine Tr.iald (pc := 138) d_X12_fit_138 (ty_184 hS.1.1) (by omega) (by omega) ?_
                  refine Tr.gen (P := fun v => (-2147483648) ≤ v ∧ v ≤ 2147483647) (ar_184 hS.1.2.1 _) (fun r138 er138 br138 => ?_)
                  refine Tr.i2l (pc := 139) d_X12_fit_139 ?_
                  refine Tr.aload_n (pc := 140) (i := 0) d_X12_fit_140 rfl rfl ?_
                  refine Tr.iload_n (pc := 141) (i := 1) d_X12_fit_141 rfl rfl ?_
                  refine Tr.iconst (pc := 142) d_X12_fit_142 (by decide) ?_
                  refine Tr.callV (pc := 143) (as := [_, _]) d_X12_fit_143 s_12_565 ok_X12_rate rfl rfl (Nat.le_of_ble_eq_true rfl) (Nat.le_of_ble_eq_true rfl) (by decide) (ty_120 hS.1.1) ?_
                  refine Tr.imp (Tr.deep (by decide) (sp_X12_rate_120_w1 hS.1 ((St.kp hS (by decide) (by decide) (by decide)).trans en_120_12) a1 (by omega) 0 (by omega) (Bk1.of hF_Bk1 (fun j => (St.ka hS (by decide) (by decide) (by decide))) (fun j => (St.ka hS (by decide) (by decide) (by decide))) (fun j => (St.ka hS (by decide) (by decide) (by decide))) (fun j => (St.ka hS (by decide) (by decide) (by decide))) (fun j => (St.ka hS (by decide) (by decide) (by decide))) (fun j => (St.ka hS (by decide) (by decide) (by decide))) (fun j => (St.ka hS (by decide) (by decide) (by decide))) (fun j => (St.ka hS (by decide) (by decide) (by decide))) (St.kp hS (by decide) (by decide) (by decide)) (St.kp hS (by decide) (by decide) (by decide)) (St.kp hS (by decide) (by decide) (by decide)) (St.kp hS (by decide) (by decide) (by decide))))) ?_
                  rintro M143 _ ⟨h143, r143, rfl, lr143, ur143, z143_0⟩
                  have hS := St.tr hS h143 (by decide) (by decide)
                  have ka143_126_1 : rd M143 126 1 = w2_126_1 := ((St.kp h143 (by decide) (by decide) (by decide)).trans ((Wr.b w121 rfl).trans ((Wr.b w101 rfl).trans ((Wr.b w81 rfl).trans ((St.kp h60 (by decide) (by decide) (by decide)).trans k29_126_1)))))
                  refine Tr.sc [(0, r143), (1, r138), (1, r128), (0, p19_2), (2, 183)] rfl ?_
                  refine Tr.i2l (pc := 146) d_X12_fit_146 ?_
                  refine Tr.lmul (pc := 147) d_X12_fit_147 ?_
                  refine Tr.gen (P := fun v => (-9223372036854775808) ≤ v ∧ v ≤ 9223372036854775807) (w64_b _) (fun r147 er147 br147 => ?_)
                  refine Tr.lsub (pc := 148) d_X12_fit_148 ?_
                  refine Tr.gen (P := fun v => (-9223372036854775808) ≤ v ∧ v ≤ 9223372036854775807) (w64_b _) (fun r148 er148 br148 => ?_)
                  refine Tr.aload_n (pc := 149) (i := 0) d_X12_fit_149 rfl rfl ?_
                  refine Tr.getf (pc := 150) d_X12_fit_150 f_12_351 (by decide) (by decide) (ty_120 hS.1.1) ?_
                  refine Tr.tp 184 (fx_120_112 hS.1.1) ?_
                  refine Tr.iconst (pc := 153) d_X12_fit_153 (by decide) ?_
                  refine Tr.iload_n (pc := 154) (i := 2) d_X12_fit_154 rfl rfl ?_
                  refine Tr.imul (pc := 155) d_X12_fit_155 ?_
                  refine Tr.tp (3 * p19_2) ((w32_id (by omega)).trans (by omega)) ?_
                  refine Tr.iconst (pc := 156) d_X12_fit_156 (by decide) ?_
                  refine Tr.iadd (pc := 157) d_X12_fit_157 ?_
                  refine Tr.tp (3 * p19_2 + 1) ((w32_id (by omega)).trans (by omega)) ?_
                  refine Tr.iald (pc := 158) d_X12_fit_158 (ty_184 hS.1.1) (by omega) (by omega) ?_
                  refine Tr.gen (P := fun v => (-2147483648) ≤ v ∧ v ≤ 2147483647) (ar_184 hS.1.2.1 _) (fun r158 er158 br158 => ?_)
                  refine Tr.i2l (pc := 159) d_X12_fit_159 ?_
                  refine Tr.aload_n (pc := 160) (i := 0) d_X12_fit_160 rfl rfl ?_
                  refine Tr.iload_n (pc := 161) (i := 1) d_X12_fit_161 rfl rfl ?_
                  refine Tr.iconst (pc := 162) d_X12_fit_162 (by decide) ?_
                  refine Tr.callV (pc := 163) (as := [_, _]) d_X12_fit_163 s_12_565 ok_X12_rate rfl rfl (Nat.le_of_ble_eq_true rfl) (Nat.le_of_ble_eq_true rfl) (by decide) (ty_120 hS.1.1) ?_
                  refine Tr.imp (Tr.deep (by decide) (sp_X12_rate_120_w1 hS.1 ((St.kp hS (by decide) (by decide) (by decide)).trans en_120_12) a1 (by omega) 3 (by omega) (Bk1.of hF_Bk1 (fun j => (St.ka hS (by decide) (by decide) (by decide))) (fun j => (St.ka hS (by decide) (by decide) (by decide))) (fun j => (St.ka hS (by decide) (by decide) (by decide))) (fun j => (St.ka hS (by decide) (by decide) (by decide))) (fun j => (St.ka hS (by decide) (by decide) (by decide))) (fun j => (St.ka hS (by decide) (by decide) (by decide))) (fun j => (St.ka hS (by decide) (by decide) (by decide))) (fun j => (St.ka hS (by decide) (by decide) (by decide))) (St.kp hS (by decide) (by decide) (by decide)) (St.kp hS (by decide) (by decide) (by decide)) (St.kp hS (by decide) (by decide) (by decide)) (St.kp hS (by decide) (by decide) (by decide))))) ?_
                  rintro M163 _ ⟨h163, r163, rfl, lr163, ur163, z163_0⟩
                  have hS := St.tr hS h163 (by decide) (by decide)
                  have ka163_126_1 : rd M163 126 1 = w2_126_1 := ((St.kp h163 (by decide) (by decide) (by decide)).trans ((St.kp h143 (by decide) (by decide) (by decide)).trans ((Wr.b w121 rfl).trans ((Wr.b w101 rfl).trans ((Wr.b w81 rfl).trans ((St.kp h60 (by decide) (by decide) (by decide)).trans k29_126_1))))))
                  refine Tr.sc [(0, r163), (1, r158), (1, r148), (0, p19_2), (2, 183)] rfl ?_
                  refine Tr.i2l (pc := 166) d_X12_fit_166 ?_
                  refine Tr.lmul (pc := 167) d_X12_fit_167 ?_
                  refine Tr.gen (P := fun v => (-9223372036854775808) ≤ v ∧ v ≤ 9223372036854775807) (w64_b _) (fun r167 er167 br167 => ?_)
                  refine Tr.lsub (pc := 168) d_X12_fit_168 ?_
                  refine Tr.gen (P := fun v => (-9223372036854775808) ≤ v ∧ v ≤ 9223372036854775807) (w64_b _) (fun r168 er168 br168 => ?_)
                  refine Tr.aload_n (pc := 169) (i := 0) d_X12_fit_169 rfl rfl ?_
                  refine Tr.getf (pc := 170) d_X12_fit_170 f_12_351 (by decide) (by decide) (ty_120 hS.1.1) ?_
                  refine Tr.tp 184 (fx_120_112 hS.1.1) ?_
                  refine Tr.iconst (pc := 173) d_X12_fit_173 (by decide) ?_
                  refine Tr.iload_n (pc := 174) (i := 2) d_X12_fit_174 rfl rfl ?_
                  refine Tr.imul (pc := 175) d_X12_fit_175 ?_
                  refine Tr.tp (3 * p19_2) ((w32_id (by omega)).trans (by omega)) ?_
                  refine Tr.iconst (pc := 176) d_X12_fit_176 (by decide) ?_
                  refine Tr.iadd (pc := 177) d_X12_fit_177 ?_
                  refine Tr.tp (3 * p19_2 + 2) ((w32_id (by omega)).trans (by omega)) ?_
                  refine Tr.iald (pc := 178) d_X12_fit_178 (ty_184 hS.1.1) (by omega) (by omega) ?_
                  refine Tr.tp r120 ((St.ka h163 (by decide) (by decide) (by decide)).trans ((St.ka h143 (by decide) (by decide) (by decide)).trans w121.1)) ?_
                  refine Tr.i2l (pc := 179) d_X12_fit_179 ?_
                  refine Tr.aload_n (pc := 180) (i := 0) d_X12_fit_180 rfl rfl ?_
                  refine Tr.iload_n (pc := 181) (i := 1) d_X12_fit_181 rfl rfl ?_
                  refine Tr.iconst (pc := 182) d_X12_fit_182 (by decide) ?_
                  refine Tr.callV (pc := 183) (as := [_, _]) d_X12_fit_183 s_12_565 ok_X12_rate rfl rfl (Nat.le_of_ble_eq_true rfl) (Nat.le_of_ble_eq_true rfl) (by decide) (ty_120 hS.1.1) ?_
                  refine Tr.imp (Tr.deep (by decide) (sp_X12_rate_120_w1 hS.1 ((St.kp hS (by decide) (by decide) (by decide)).trans en_120_12) a1 (by omega) 4 (by omega) (Bk1.of hF_Bk1 (fun j => (St.ka hS (by decide) (by decide) (by decide))) (fun j => (St.ka hS (by decide) (by decide) (by decide))) (fun j => (St.ka hS (by decide) (by decide) (by decide))) (fun j => (St.ka hS (by decide) (by decide) (by decide))) (fun j => (St.ka hS (by decide) (by decide) (by decide))) (fun j => (St.ka hS (by decide) (by decide) (by decide))) (fun j => (St.ka hS (by decide) (by decide) (by decide))) (fun j => (St.ka hS (by decide) (by decide) (by decide))) (St.kp hS (by decide) (by decide) (by decide)) (St.kp hS (by decide) (by decide) (by decide)) (St.kp hS (by decide) (by decide) (by decide)) (St.kp hS (by decide) (by decide) (by decide))))) ?_
                  rintro M183 _ ⟨h183, r183, rfl, lr183, ur183, z183_0⟩
                  have hS := St.tr hS h183 (by decide) (by decide)
                  have ka183_126_1 : rd M183 126 1 = w2_126_1 := ((St.kp h183 (by decide) (by decide) (by decide)).trans ((St.kp h163 (by decide) (by decide) (by decide)).trans ((St.kp h143 (by decide) (by decide) (by decide)).trans ((Wr.b w121 rfl).trans ((Wr.b w101 rfl).trans ((Wr.b w81 rfl).trans ((St.kp h60 (by decide) (by decide) (by decide)).trans k29_126_1)))))))
                  refine Tr.sc [(0, r183), (1, r120), (1, r168), (0, p19_2), (2, 183)] rfl ?_
                  refine Tr.i2l (pc := 186) d_X12_fit_186 ?_
                  refine Tr.lmul (pc := 187) d_X12_fit_187 ?_
                  refine Tr.gen (P := fun v => (-9223372036854775808) ≤ v ∧ v ≤ 9223372036854775807) (w64_b _) (fun r187 er187 br187 => ?_)
                  refine Tr.lsub (pc := 188) d_X12_fit_188 ?_
                  refine Tr.gen (P := fun v => (-9223372036854775808) ≤ v ∧ v ≤ 9223372036854775807) (w64_b _) (fun r188 er188 br188 => ?_)
                  refine Tr.lastS (pc := 189) (P := St Tru ws_X12_fit_120_w1 as_X12_fit_120_w1 M0) d_X12_fit_189 (ty_183 hS.1.1) (by omega) (by omega) (sa_183 hS (by decide) (by omega) trivial) (fun M189 hS w189 => ?_)
                  refine Tr.iincV (pc := 190) (n2 := (p19_2 + 1)) (ls2 := [(2, (0, (p19_2 + 1))), (3, (0, r60)), (0, (2, 120)), (1, (0, a1))]) d_X12_fit_190 rfl (by decide) ((w32_id (by omega)).trans (by omega)) rfl ?_
                  refine Tr.goto (pc := 193) (tgt := 19) d_X12_fit_193 rfl ?_
                  refine Tr.pick [2, 3, 0] (ls2 := [(0, (2, 120)), (1, (0, a1)), (2, (0, (p19_2 + 1)))]) rfl ?_
                  exact J19 _ _ _ hS (by omega) (by omega) ((Wr.b w189 rfl).trans ((St.kp h183 (by decide) (by decide) (by decide)).trans ((St.kp h163 (by decide) (by decide) (by decide)).trans ((St.kp h143 (by decide) (by decide) (by decide)).trans ((Wr.b w121 rfl).trans ((Wr.b w101 rfl).trans ((Wr.b w81 rfl).trans ((St.kp h60 (by decide) (by decide) (by decide)).trans k29_120_106)))))))) ((Wr.b w189 rfl).trans ((St.kp h183 (by decide) (by decide) (by decide)).trans ((St.kp h163 (by decide) (by decide) (by decide)).trans ((St.kp h143 (by decide) (by decide) (by decide)).trans ((Wr.b w121 rfl).trans ((Wr.b w101 rfl).trans ((Wr.b w81 rfl).trans es60_120_59))))))) ((Wr.b w189 rfl).trans ((St.kp h183 (by decide) (by decide) (by decide)).trans ((St.kp h163 (by decide) (by decide) (by decide)).trans ((St.kp h143 (by decide) (by decide) (by decide)).trans ((Wr.b w121 rfl).trans ((Wr.b w101 rfl).trans ((Wr.b w81 rfl).trans ((St.kp h60 (by decide) (by decide) (by decide)).trans k29_126_1)))))))) (by omega) (by omega)
                · refine Tr.aload_n (pc := 34) (i := 0) d_X12_fit_34 rfl rfl ?_
                  refine Tr.getf (pc := 35) d_X12_fit_35 f_12_171 (by decide) (by decide) (ty_120 hS.1.1) ?_
                  refine Tr.tp 154 (fx_120_52 hS.1.1) ?_
                  refine Tr.iload_n (pc := 38) (i := 3) d_X12_fit_38 rfl rfl ?_
                  refine Tr.aload_n (pc := 39) (i := 0) d_X12_fit_39 rfl rfl ?_
                  refine Tr.getf (pc := 40) d_X12_fit_40 f_12_336 (by decide) (by decide) (ty_120 hS.1.1) ?_
                  refine Tr.tp 180 (fx_120_107 hS.1.1) ?_
                  refine Tr.iconst (pc := 43) d_X12_fit_43 (by decide) ?_
                  refine Tr.iload_n (pc := 44) (i := 2) d_X12_fit_44 rfl rfl ?_
                  refine Tr.imul (pc := 45) d_X12_fit_45 ?_
                  refine Tr.tp (3 * p19_2) ((w32_id (by omega)).trans (by omega)) ?_
                  refine Tr.iload_n (pc := 46) (i := 3) d_X12_fit_46 rfl rfl ?_
                  refine Tr.iadd (pc := 47) d_X12_fit_47 ?_
                  refine Tr.tp (3 * p19_2 + p29_3) ((w32_id (by omega)).trans (by omega)) ?_
                  refine Tr.iald (pc := 48) d_X12_fit_48 (ty_180 hS.1.1) (by omega) (by omega) ?_
                  refine Tr.gen (P := fun v => (-2147483648) ≤ v ∧ v ≤ 2147483647) (ar_180 hS.1.2.1 _) (fun r48 er48 br48 => ?_)
                  refine Tr.iastS (pc := 49) (P := St Tru ws_X12_fit_120_w1 as_X12_fit_120_w1 M0) d_X12_fit_49 (ty_154 hS.1.1) (by omega) (by omega) (sa_154 hS (by decide) (by omega) trivial) (fun M49 hS w49 => ?_)
                  refine Tr.iincV (pc := 50) (n2 := (p29_3 + 1)) (ls2 := [(3, (0, (p29_3 + 1))), (0, (2, 120)), (1, (0, a1)), (2, (0, p19_2))]) d_X12_fit_50 rfl (by decide) ((w32_id (by omega)).trans (by omega)) rfl ?_
                  refine Tr.goto (pc := 53) (tgt := 29) d_X12_fit_53 rfl ?_
                  refine Tr.pick [1, 2, 3, 0] (ls2 := [(0, (2, 120)), (1, (0, a1)), (2, (0, p19_2)), (3, (0, (p29_3 + 1)))]) rfl ?_
                  exact J29 _ _ hS (by omega) ((Wr.b w49 rfl).trans k29_120_106) ((Wr.b w49 rfl).trans k29_120_59) ((Wr.b w49 rfl).trans k29_126_1) (by omega) (by omega)
            refine Tr.pick [1, 2, 3, 0] (ls2 := [(0, (2, 120)), (1, (0, a1)), (2, (0, p19_2)), (3, (0, 0))]) rfl ?_
            exact J29 _ _ _ hS (by omega) k19_120_106 k19_120_59 k19_126_1 (by omega) (Nat.lt_succ_self _)
      refine Tr.pick [1, 2, 0] (ls2 := [(0, (2, 120)), (1, (0, a1)), (2, (0, 0))]) rfl ?_
      exact J19 _ _ _ _ hS (by omega) (by omega) er9 ((St.kp h2 (by decide) (by decide) (by decide)).trans eg120_59) ew2_126_1 (by omega) (Nat.lt_succ_self _)
    · refine Tr.iconst (pc := 15) d_X12_fit_15 (by decide) ?_
      have kr_120_59 : rd M2 120 59 = g120_59 := ((St.kp h2 (by decide) (by decide) (by decide)).trans eg120_59)
      exact Tr.iret (pc := 16) d_X12_fit_16 rfl ⟨hS, _, rfl, by omega, by omega, by omega⟩

def ws_X12_lasts_120_w1 : List (Int × Int) := []
def as_X12_lasts_120_w1 : List Int := []
def q_X12_lasts_120_w1 (M0 M' : Mem) (r : Option PV) : Prop := St Tru ws_X12_lasts_120_w1 as_X12_lasts_120_w1 M0 M' ∧ ∃ v : Int, r = some (0, v) ∧ (-2147483648) ≤ v ∧ v ≤ 2147483647
set_option maxRecDepth 100000 in
set_option maxHeartbeats 4000000 in
theorem sp_X12_lasts_120_w1 {l : Launch} {K : EC} {M0 : Mem} (hI : In Tru M0) (en_120_12 : rd M0 120 12 = 1) (a1 : Int) (ha1 : (-2147483648) ≤ a1 ∧ a1 ≤ 2147483647) (a2 : Int) (ha2 : (-2147483648) ≤ a2 ∧ a2 ≤ 2147483647) (a3 : Int) (ha3 : (-2147483648) ≤ a3 ∧ a3 ≤ 2147483647)  (hF_Bk1 : Bk1 M0) : Tr l K 2 mX12_lasts 0 [(0, (2, 120)), (1, (0, a1)), (2, (0, a2)), (3, (0, a3))] [] M0 (q_X12_lasts_120_w1 M0) := by
  have hS : St Tru ws_X12_lasts_120_w1 as_X12_lasts_120_w1 M0 M0 := St.rf hI
  refine Tr.aload_n (pc := 0) (i := 0) d_X12_lasts_0 rfl rfl ?_
  refine Tr.getz (pc := 1) d_X12_lasts_1 f_12_270 (by decide) (ty_120 hS.1.1) ?_
  refine Tr.gen (P := fun v => 0 ≤ v ∧ v ≤ 1) (ir_120_85 hS.1.2.1) (fun r1 er1 br1 => ?_)
  refine Tr.if_eq (pc := 4) (tgt := 40) d_X12_lasts_4 rfl (fun c4 => ?_) (fun c4 => ?_)
  · refine Tr.iconst (pc := 40) d_X12_lasts_40 (by decide) ?_
    exact Tr.iret (pc := 41) d_X12_lasts_41 rfl ⟨hS, _, rfl, by omega, by omega⟩
  · refine Tr.iload_n (pc := 7) (i := 1) d_X12_lasts_7 rfl rfl ?_
    refine Tr.iconst (pc := 8) d_X12_lasts_8 (by decide) ?_
    refine Tr.ldcw (pc := 9) d_X12_lasts_9 k_12_696 (by decide) ?_
    refine Tr.callS (pc := 12) (as := [_, _, _]) d_X12_lasts_12 s_12_467 ok_X12_is rfl rfl (Nat.le_of_ble_eq_true rfl) (Nat.le_of_ble_eq_true rfl) ?_
    refine Tr.imp (Tr.deep (by decide) (sp_X12_is hS.1 a1 (by omega) 0 (by omega) 1000000000 (by omega))) ?_
    rintro M12 _ ⟨h12, r12, rfl, lr12, ur12, wr12⟩
    have hS := St.tr hS h12 (by decide) (by decide)
    refine Tr.sc [(0, r12)] rfl ?_
    refine Tr.if_eq (pc := 15) (tgt := 40) d_X12_lasts_15 rfl (fun c15 => ?_) (fun c15 => ?_)
    · refine Tr.iconst (pc := 40) d_X12_lasts_40 (by decide) ?_
      exact Tr.iret (pc := 41) d_X12_lasts_41 rfl ⟨hS, _, rfl, by omega, by omega⟩
    · refine Tr.iload_n (pc := 18) (i := 2) d_X12_lasts_18 rfl rfl ?_
      refine Tr.iconst (pc := 19) d_X12_lasts_19 (by decide) ?_
      refine Tr.sipush (pc := 20) d_X12_lasts_20 rfl (by decide) ?_
      refine Tr.callS (pc := 23) (as := [_, _, _]) d_X12_lasts_23 s_12_467 ok_X12_is rfl rfl (Nat.le_of_ble_eq_true rfl) (Nat.le_of_ble_eq_true rfl) ?_
      refine Tr.imp (Tr.deep (by decide) (sp_X12_is hS.1 a2 (by omega) 0 (by omega) 1000 (by omega))) ?_
      rintro M23 _ ⟨h23, r23, rfl, lr23, ur23, wr23⟩
      have hS := St.tr hS h23 (by decide) (by decide)
      refine Tr.sc [(0, r23)] rfl ?_
      refine Tr.if_eq (pc := 26) (tgt := 40) d_X12_lasts_26 rfl (fun c26 => ?_) (fun c26 => ?_)
      · refine Tr.iconst (pc := 40) d_X12_lasts_40 (by decide) ?_
        exact Tr.iret (pc := 41) d_X12_lasts_41 rfl ⟨hS, _, rfl, by omega, by omega⟩
      · refine Tr.iload_n (pc := 29) (i := 3) d_X12_lasts_29 rfl rfl ?_
        refine Tr.iconst (pc := 30) d_X12_lasts_30 (by decide) ?_
        refine Tr.ldcw (pc := 31) d_X12_lasts_31 k_12_697 (by decide) ?_
        refine Tr.callS (pc := 34) (as := [_, _, _]) d_X12_lasts_34 s_12_467 ok_X12_is rfl rfl (Nat.le_of_ble_eq_true rfl) (Nat.le_of_ble_eq_true rfl) ?_
        refine Tr.imp (Tr.deep (by decide) (sp_X12_is hS.1 a3 (by omega) 0 (by omega) 100000 (by omega))) ?_
        rintro M34 _ ⟨h34, r34, rfl, lr34, ur34, wr34⟩
        have hS := St.tr hS h34 (by decide) (by decide)
        refine Tr.sc [(0, r34)] rfl ?_
        refine Tr.if_ne (pc := 37) (tgt := 42) d_X12_lasts_37 rfl (fun c37 => ?_) (fun c37 => ?_)
        · refine Tr.iload_n (pc := 42) (i := 2) d_X12_lasts_42 rfl rfl ?_
          refine Tr.i2l (pc := 43) d_X12_lasts_43 ?_
          refine Tr.aload_n (pc := 44) (i := 0) d_X12_lasts_44 rfl rfl ?_
          refine Tr.getf (pc := 45) d_X12_lasts_45 f_12_276 (by decide) (by decide) (ty_120 hS.1.1) ?_
          refine Tr.gen (P := fun v => (-9223372036854775808) ≤ v ∧ v ≤ 9223372036854775807) (ir_120_87 hS.1.2.1) (fun r45 er45 br45 => ?_)
          refine Tr.lmul (pc := 48) d_X12_lasts_48 ?_
          refine Tr.gen (P := fun v => (-9223372036854775808) ≤ v ∧ v ≤ 9223372036854775807) (w64_b _) (fun r48 er48 br48 => ?_)
          refine Tr.lstore (pc := 49) (i := 4) (ls2 := [(4, (1, r48)), (0, (2, 120)), (1, (0, a1)), (2, (0, a2)), (3, (0, a3))]) d_X12_lasts_49 (by decide) rfl ?_
          refine Tr.iconst (pc := 51) d_X12_lasts_51 (by decide) ?_
          refine Tr.istore (pc := 52) (i := 6) (ls2 := [(6, (0, 0)), (4, (1, r48)), (0, (2, 120)), (1, (0, a1)), (2, (0, a2)), (3, (0, a3))]) d_X12_lasts_52 (by decide) rfl ?_
          have J54 : ∀ (n54 : Nat) (M : Mem) (p54_4 p54_6 : Int), St Tru ws_X12_lasts_120_w1 as_X12_lasts_120_w1 M0 M → ((-9223372036854775808) ≤ p54_4 ∧ p54_4 ≤ 9223372036854775807) → (0 ≤ p54_6 ∧ p54_6 ≤ 6) → rd M 120 85 = r1 → rd M 120 87 = r45 → (6 - p54_6).toNat < n54 → Tr l K 2 mX12_lasts 54 [(0, (2, 120)), (1, (0, a1)), (3, (0, a3)), (4, (1, p54_4)), (6, (0, p54_6))] [] M (q_X12_lasts_120_w1 M0) := by
            intro n54
            induction n54 with
            | zero => intro M p54_4 p54_6 hS bp54_4 bp54_6 k54_120_85 k54_120_87 hm54; exact absurd hm54 (Nat.not_lt_zero _)
            | succ n54 J54 =>
              intro M p54_4 p54_6 hS bp54_4 bp54_6 k54_120_85 k54_120_87 hm54
              refine Tr.iload (pc := 54) (i := 6) d_X12_lasts_54 rfl ?_
              refine Tr.aload_n (pc := 56) (i := 0) d_X12_lasts_56 rfl rfl ?_
              refine Tr.getf (pc := 57) d_X12_lasts_57 f_12_63 (by decide) (by decide) (ty_120 hS.1.1) ?_
              refine Tr.tp 126 (fx_120_17 hS.1.1) ?_
              refine Tr.aload_n (pc := 60) (i := 0) d_X12_lasts_60 rfl rfl ?_
              refine Tr.getf (pc := 61) d_X12_lasts_61 f_12_48 (by decide) (by decide) (ty_120 hS.1.1) ?_
              refine Tr.tp 1 ((St.kp hS (by decide) (by decide) (by decide)).trans en_120_12) ?_
              refine Tr.iald (pc := 64) d_X12_lasts_64 (ty_126 hS.1.1) (by omega) (by omega) ?_
              refine Tr.gen (P := fun v => 0 ≤ v ∧ v ≤ 6) (ir_126_1 hS.1.2.1) (fun r64 er64 br64 => ?_)
              refine Tr.icmp_ge (pc := 65) (tgt := 89) d_X12_lasts_65 rfl (fun c65 => ?_) (fun c65 => ?_)
              · refine Tr.lload (pc := 89) (i := 4) d_X12_lasts_89 rfl ?_
                refine Tr.lconst (pc := 91) (v := 0) d_X12_lasts_91 rfl (by decide) ?_
                refine Tr.lcmp (pc := 92) d_X12_lasts_92 ?_
                refine Tr.gen (P := fun v => (v = 1 ∧ 0 < p54_4) ∨ (v = 0 ∧ p54_4 = 0) ∨ (v = -1 ∧ p54_4 < 0)) (f_lcmp_c _ _) (fun r92 er92 br92 => ?_)
                refine Tr.if_ne (pc := 93) (tgt := 100) d_X12_lasts_93 rfl (fun c93 => ?_) (fun c93 => ?_)
                · refine Tr.iload_n (pc := 100) (i := 1) d_X12_lasts_100 rfl rfl ?_
                  refine Tr.i2l (pc := 101) d_X12_lasts_101 ?_
                  refine Tr.lload (pc := 102) (i := 4) d_X12_lasts_102 rfl ?_
                  refine Tr.ldiv (pc := 104) d_X12_lasts_104 (by omega) ?_
                  refine Tr.gen (P := fun v => (-9223372036854775808) ≤ v ∧ v ≤ 9223372036854775807) (w64_b _) (fun r104 er104 br104 => ?_)
                  refine Tr.l2i (pc := 105) d_X12_lasts_105 ?_
                  refine Tr.gen (P := fun v => (-2147483648) ≤ v ∧ v ≤ 2147483647) (w32_b _) (fun r105 er105 br105 => ?_)
                  exact Tr.iret (pc := 106) d_X12_lasts_106 rfl ⟨hS, _, rfl, by omega, by omega⟩
                · refine Tr.iconst (pc := 96) d_X12_lasts_96 (by decide) ?_
                  refine Tr.goto (pc := 97) (tgt := 106) d_X12_lasts_97 rfl ?_
                  exact Tr.iret (pc := 106) d_X12_lasts_106 rfl ⟨hS, _, rfl, by omega, by omega⟩
              · refine Tr.lload (pc := 68) (i := 4) d_X12_lasts_68 rfl ?_
                refine Tr.iload_n (pc := 70) (i := 3) d_X12_lasts_70 rfl rfl ?_
                refine Tr.i2l (pc := 71) d_X12_lasts_71 ?_
                refine Tr.aload_n (pc := 72) (i := 0) d_X12_lasts_72 rfl rfl ?_
                refine Tr.iload (pc := 73) (i := 6) d_X12_lasts_73 rfl ?_
                refine Tr.callV (pc := 75) (as := [_]) d_X12_lasts_75 s_12_568 ok_X12_sleeps rfl rfl (Nat.le_of_ble_eq_true rfl) (Nat.le_of_ble_eq_true rfl) (by decide) (ty_120 hS.1.1) ?_
                refine Tr.imp (Tr.deep (by decide) (sp_X12_sleeps_120_w1 hS.1 ((St.kp hS (by decide) (by decide) (by decide)).trans en_120_12) p54_6 (by omega) (Bk1.of hF_Bk1 (fun j => (St.ka hS (by decide) (by decide) (by decide))) (fun j => (St.ka hS (by decide) (by decide) (by decide))) (fun j => (St.ka hS (by decide) (by decide) (by decide))) (fun j => (St.ka hS (by decide) (by decide) (by decide))) (fun j => (St.ka hS (by decide) (by decide) (by decide))) (fun j => (St.ka hS (by decide) (by decide) (by decide))) (fun j => (St.ka hS (by decide) (by decide) (by decide))) (fun j => (St.ka hS (by decide) (by decide) (by decide))) (St.kp hS (by decide) (by decide) (by decide)) (St.kp hS (by decide) (by decide) (by decide)) (St.kp hS (by decide) (by decide) (by decide)) (St.kp hS (by decide) (by decide) (by decide))))) ?_
                rintro M75 _ ⟨h75, r75, rfl, lr75, ur75⟩
                have hS := St.tr hS h75 (by decide) (by decide)
                refine Tr.sc [(0, r75), (1, a3), (1, p54_4)] rfl ?_
                refine Tr.i2l (pc := 78) d_X12_lasts_78 ?_
                refine Tr.lmul (pc := 79) d_X12_lasts_79 ?_
                refine Tr.gen (P := fun v => (-9223372036854775808) ≤ v ∧ v ≤ 9223372036854775807) (w64_b _) (fun r79 er79 br79 => ?_)
                refine Tr.ladd (pc := 80) d_X12_lasts_80 ?_
                refine Tr.gen (P := fun v => (-9223372036854775808) ≤ v ∧ v ≤ 9223372036854775807) (w64_b _) (fun r80 er80 br80 => ?_)
                refine Tr.lstore (pc := 81) (i := 4) (ls2 := [(4, (1, r80)), (0, (2, 120)), (1, (0, a1)), (3, (0, a3)), (6, (0, p54_6))]) d_X12_lasts_81 (by decide) rfl ?_
                refine Tr.iincV (pc := 83) (n2 := (p54_6 + 1)) (ls2 := [(6, (0, (p54_6 + 1))), (4, (1, r80)), (0, (2, 120)), (1, (0, a1)), (3, (0, a3))]) d_X12_lasts_83 rfl (by decide) ((w32_id (by omega)).trans (by omega)) rfl ?_
                refine Tr.goto (pc := 86) (tgt := 54) d_X12_lasts_86 rfl ?_
                refine Tr.pick [2, 3, 4, 1, 0] (ls2 := [(0, (2, 120)), (1, (0, a1)), (3, (0, a3)), (4, (1, r80)), (6, (0, (p54_6 + 1)))]) rfl ?_
                exact J54 _ _ _ hS (by omega) (by omega) ((St.kp h75 (by decide) (by decide) (by decide)).trans k54_120_85) ((St.kp h75 (by decide) (by decide) (by decide)).trans k54_120_87) (by omega)
          refine Tr.pick [2, 3, 5, 1, 0] (ls2 := [(0, (2, 120)), (1, (0, a1)), (3, (0, a3)), (4, (1, r48)), (6, (0, 0))]) rfl ?_
          exact J54 _ _ _ _ hS (by omega) (by omega) ((St.kp h34 (by decide) (by decide) (by decide)).trans ((St.kp h23 (by decide) (by decide) (by decide)).trans ((St.kp h12 (by decide) (by decide) (by decide)).trans er1))) er45 (Nat.lt_succ_self _)
        · refine Tr.iconst (pc := 40) d_X12_lasts_40 (by decide) ?_
          exact Tr.iret (pc := 41) d_X12_lasts_41 rfl ⟨hS, _, rfl, by omega, by omega⟩

def ws_X12_span_120_w1 : List (Int × Int) := []
def as_X12_span_120_w1 : List Int := []
def q_X12_span_120_w1 (M0 M' : Mem) (r : Option PV) : Prop := St Tru ws_X12_span_120_w1 as_X12_span_120_w1 M0 M' ∧ ∃ v : Int, r = some (0, v) ∧ (-2147483648) ≤ v ∧ v ≤ 2147483647
set_option maxRecDepth 100000 in
set_option maxHeartbeats 4000000 in
theorem sp_X12_span_120_w1 {l : Launch} {K : EC} {M0 : Mem} (hI : In Tru M0) (en_120_12 : rd M0 120 12 = 1) (a1 : Int) (ha1 : 0 ≤ a1 ∧ a1 ≤ 2)  : Tr l K 0 mX12_span 0 [(0, (2, 120)), (1, (0, a1))] [] M0 (q_X12_span_120_w1 M0) := by
  have hS : St Tru ws_X12_span_120_w1 as_X12_span_120_w1 M0 M0 := St.rf hI
  refine Tr.iload_n (pc := 0) (i := 1) d_X12_span_0 rfl rfl ?_
  refine Tr.aload_n (pc := 1) (i := 0) d_X12_span_1 rfl rfl ?_
  refine Tr.getf (pc := 2) d_X12_span_2 f_12_66 (by decide) (by decide) (ty_120 hS.1.1) ?_
  refine Tr.tp 127 (fx_120_18 hS.1.1) ?_
  refine Tr.aload_n (pc := 5) (i := 0) d_X12_span_5 rfl rfl ?_
  refine Tr.getf (pc := 6) d_X12_span_6 f_12_48 (by decide) (by decide) (ty_120 hS.1.1) ?_
  refine Tr.tp 1 ((St.kp hS (by decide) (by decide) (by decide)).trans en_120_12) ?_
  refine Tr.iald (pc := 9) d_X12_span_9 (ty_127 hS.1.1) (by omega) (by omega) ?_
  refine Tr.gen (P := fun v => 0 ≤ v ∧ v ≤ 3) (ir_127_1 hS.1.2.1) (fun r9 er9 br9 => ?_)
  refine Tr.icmp_ge (pc := 10) (tgt := 45) d_X12_span_10 rfl (fun c10 => ?_) (fun c10 => ?_)
  · refine Tr.iconst (pc := 45) d_X12_span_45 (by decide) ?_
    exact Tr.iret (pc := 46) d_X12_span_46 rfl ⟨hS, _, rfl, by omega, by omega⟩
  · refine Tr.aload_n (pc := 13) (i := 0) d_X12_span_13 rfl rfl ?_
    refine Tr.getf (pc := 14) d_X12_span_14 f_12_88 (by decide) (by decide) (ty_120 hS.1.1) ?_
    refine Tr.tp 134 (fx_120_25 hS.1.1) ?_
    refine Tr.iconst (pc := 17) d_X12_span_17 (by decide) ?_
    refine Tr.aload_n (pc := 18) (i := 0) d_X12_span_18 rfl rfl ?_
    refine Tr.getf (pc := 19) d_X12_span_19 f_12_48 (by decide) (by decide) (ty_120 hS.1.1) ?_
    refine Tr.tp 1 ((St.kp hS (by decide) (by decide) (by decide)).trans en_120_12) ?_
    refine Tr.imul (pc := 22) d_X12_span_22 ?_
    refine Tr.tp 3 (by decide) ?_
    refine Tr.iload_n (pc := 23) (i := 1) d_X12_span_23 rfl rfl ?_
    refine Tr.iadd (pc := 24) d_X12_span_24 ?_
    refine Tr.tp (a1 + 3) ((w32_id (by omega)).trans (by omega)) ?_
    refine Tr.iald (pc := 25) d_X12_span_25 (ty_134 hS.1.1) (by omega) (by omega) ?_
    refine Tr.gen (P := fun v => (-2147483648) ≤ v ∧ v ≤ 2147483647) (ar_134 hS.1.2.1 _) (fun r25 er25 br25 => ?_)
    refine Tr.aload_n (pc := 26) (i := 0) d_X12_span_26 rfl rfl ?_
    refine Tr.getf (pc := 27) d_X12_span_27 f_12_85 (by decide) (by decide) (ty_120 hS.1.1) ?_
    refine Tr.tp 133 (fx_120_24 hS.1.1) ?_
    refine Tr.iconst (pc := 30) d_X12_span_30 (by decide) ?_
    refine Tr.aload_n (pc := 31) (i := 0) d_X12_span_31 rfl rfl ?_
    refine Tr.getf (pc := 32) d_X12_span_32 f_12_48 (by decide) (by decide) (ty_120 hS.1.1) ?_
    refine Tr.tp 1 ((St.kp hS (by decide) (by decide) (by decide)).trans en_120_12) ?_
    refine Tr.imul (pc := 35) d_X12_span_35 ?_
    refine Tr.tp 3 (by decide) ?_
    refine Tr.iload_n (pc := 36) (i := 1) d_X12_span_36 rfl rfl ?_
    refine Tr.iadd (pc := 37) d_X12_span_37 ?_
    refine Tr.tp (a1 + 3) ((w32_id (by omega)).trans (by omega)) ?_
    refine Tr.iald (pc := 38) d_X12_span_38 (ty_133 hS.1.1) (by omega) (by omega) ?_
    refine Tr.gen (P := fun v => (-2147483648) ≤ v ∧ v ≤ 2147483647) (ar_133 hS.1.2.1 _) (fun r38 er38 br38 => ?_)
    refine Tr.isub (pc := 39) d_X12_span_39 ?_
    refine Tr.gen (P := fun v => (-2147483648) ≤ v ∧ v ≤ 2147483647) (w32_b _) (fun r39 er39 br39 => ?_)
    refine Tr.iconst (pc := 40) d_X12_span_40 (by decide) ?_
    refine Tr.iadd (pc := 41) d_X12_span_41 ?_
    refine Tr.gen (P := fun v => (-2147483648) ≤ v ∧ v ≤ 2147483647) (w32_b _) (fun r41 er41 br41 => ?_)
    refine Tr.goto (pc := 42) (tgt := 46) d_X12_span_42 rfl ?_
    exact Tr.iret (pc := 46) d_X12_span_46 rfl ⟨hS, _, rfl, by omega, by omega⟩

def ws_X12_lowOf_120_w1 : List (Int × Int) := []
def as_X12_lowOf_120_w1 : List Int := []
def q_X12_lowOf_120_w1 (M0 M' : Mem) (r : Option PV) : Prop := St Tru ws_X12_lowOf_120_w1 as_X12_lowOf_120_w1 M0 M' ∧ ∃ v : Int, r = some (0, v) ∧ (-2147483648) ≤ v ∧ v ≤ 2147483647
set_option maxRecDepth 100000 in
set_option maxHeartbeats 4000000 in
theorem sp_X12_lowOf_120_w1 {l : Launch} {K : EC} {M0 : Mem} (hI : In Tru M0) (en_120_12 : rd M0 120 12 = 1) (a1 : Int) (ha1 : 0 ≤ a1 ∧ a1 ≤ 2)  : Tr l K 0 mX12_lowOf 0 [(0, (2, 120)), (1, (0, a1))] [] M0 (q_X12_lowOf_120_w1 M0) := by
  have hS : St Tru ws_X12_lowOf_120_w1 as_X12_lowOf_120_w1 M0 M0 := St.rf hI
  refine Tr.iload_n (pc := 0) (i := 1) d_X12_lowOf_0 rfl rfl ?_
  refine Tr.aload_n (pc := 1) (i := 0) d_X12_lowOf_1 rfl rfl ?_
  refine Tr.getf (pc := 2) d_X12_lowOf_2 f_12_66 (by decide) (by decide) (ty_120 hS.1.1) ?_
  refine Tr.tp 127 (fx_120_18 hS.1.1) ?_
  refine Tr.aload_n (pc := 5) (i := 0) d_X12_lowOf_5 rfl rfl ?_
  refine Tr.getf (pc := 6) d_X12_lowOf_6 f_12_48 (by decide) (by decide) (ty_120 hS.1.1) ?_
  refine Tr.tp 1 ((St.kp hS (by decide) (by decide) (by decide)).trans en_120_12) ?_
  refine Tr.iald (pc := 9) d_X12_lowOf_9 (ty_127 hS.1.1) (by omega) (by omega) ?_
  refine Tr.gen (P := fun v => 0 ≤ v ∧ v ≤ 3) (ir_127_1 hS.1.2.1) (fun r9 er9 br9 => ?_)
  refine Tr.icmp_ge (pc := 10) (tgt := 29) d_X12_lowOf_10 rfl (fun c10 => ?_) (fun c10 => ?_)
  · refine Tr.iconst (pc := 29) d_X12_lowOf_29 (by decide) ?_
    exact Tr.iret (pc := 30) d_X12_lowOf_30 rfl ⟨hS, _, rfl, by omega, by omega⟩
  · refine Tr.aload_n (pc := 13) (i := 0) d_X12_lowOf_13 rfl rfl ?_
    refine Tr.getf (pc := 14) d_X12_lowOf_14 f_12_85 (by decide) (by decide) (ty_120 hS.1.1) ?_
    refine Tr.tp 133 (fx_120_24 hS.1.1) ?_
    refine Tr.iconst (pc := 17) d_X12_lowOf_17 (by decide) ?_
    refine Tr.aload_n (pc := 18) (i := 0) d_X12_lowOf_18 rfl rfl ?_
    refine Tr.getf (pc := 19) d_X12_lowOf_19 f_12_48 (by decide) (by decide) (ty_120 hS.1.1) ?_
    refine Tr.tp 1 ((St.kp hS (by decide) (by decide) (by decide)).trans en_120_12) ?_
    refine Tr.imul (pc := 22) d_X12_lowOf_22 ?_
    refine Tr.tp 3 (by decide) ?_
    refine Tr.iload_n (pc := 23) (i := 1) d_X12_lowOf_23 rfl rfl ?_
    refine Tr.iadd (pc := 24) d_X12_lowOf_24 ?_
    refine Tr.tp (a1 + 3) ((w32_id (by omega)).trans (by omega)) ?_
    refine Tr.iald (pc := 25) d_X12_lowOf_25 (ty_133 hS.1.1) (by omega) (by omega) ?_
    refine Tr.gen (P := fun v => (-2147483648) ≤ v ∧ v ≤ 2147483647) (ar_133 hS.1.2.1 _) (fun r25 er25 br25 => ?_)
    refine Tr.goto (pc := 26) (tgt := 30) d_X12_lowOf_26 rfl ?_
    exact Tr.iret (pc := 30) d_X12_lowOf_30 rfl ⟨hS, _, rfl, by omega, by omega⟩

def ws_X12_over_120_w1 : List (Int × Int) := [(120, 59), (120, 60), (120, 61), (120, 62), (120, 63), (120, 64), (120, 65), (120, 66), (120, 67), (120, 68), (120, 75), (120, 79), (120, 84), (120, 104)]
def as_X12_over_120_w1 : List Int := [154, 155, 156, 157, 158, 159, 160, 161, 162, 163, 164, 165, 166, 167, 168, 169, 170, 171, 172, 179]
def q_X12_over_120_w1 (a1 : Int) (M0 M' : Mem) (r : Option PV) : Prop := St Tru ws_X12_over_120_w1 as_X12_over_120_w1 M0 M' ∧ ∃ v : Int, r = some (0, v) ∧ (-2147483648) ≤ v ∧ v ≤ 2147483647 ∧ (rd M' 120 59 = -1)
set_option maxRecDepth 100000 in
set_option maxHeartbeats 4000000 in
theorem sp_X12_over_120_w1 {l : Launch} {K : EC} {M0 : Mem} (hI : In Tru M0) (en_120_12 : rd M0 120 12 = 1) (a1 : Int) (ha1 : 0 ≤ a1 ∧ a1 ≤ 1)  (hq0 : rd M0 120 59 = -1) (hF_Bk1 : Bk1 M0) : Tr l K 8 mX12_over 0 [(0, (2, 120)), (1, (0, a1))] [] M0 (q_X12_over_120_w1 a1 M0) := by
  have hS : St Tru ws_X12_over_120_w1 as_X12_over_120_w1 M0 M0 := St.rf hI
  obtain ⟨g120_59, eg120_59⟩ : ∃ v, rd M0 120 59 = v := ⟨_, rfl⟩
  have bg120_59 : (-1) ≤ g120_59 ∧ g120_59 ≤ 5 := by rw [← eg120_59]; exact ir_120_59 hI.2.1
  refine Tr.aload_n (pc := 0) (i := 0) d_X12_over_0 rfl rfl ?_
  refine Tr.iconst (pc := 1) d_X12_over_1 (by decide) ?_
  refine Tr.callV (pc := 2) (as := [_]) d_X12_over_2 s_12_680 ok_X12_span rfl rfl (Nat.le_of_ble_eq_true rfl) (Nat.le_of_ble_eq_true rfl) (by decide) (ty_120 hS.1.1) ?_
  refine Tr.imp (Tr.deep (by decide) (sp_X12_span_120_w1 hS.1 ((St.kp hS (by decide) (by decide) (by decide)).trans en_120_12) 0 (by omega))) ?_
  rintro M2 _ ⟨h2, r2, rfl, lr2, ur2⟩
  have hS := St.tr hS h2 (by decide) (by decide)
  refine Tr.sc [(0, r2)] rfl ?_
  refine Tr.aload_n (pc := 5) (i := 0) d_X12_over_5 rfl rfl ?_
  refine Tr.iconst (pc := 6) d_X12_over_6 (by decide) ?_
  refine Tr.callV (pc := 7) (as := [_]) d_X12_over_7 s_12_680 ok_X12_span rfl rfl (Nat.le_of_ble_eq_true rfl) (Nat.le_of_ble_eq_true rfl) (by decide) (ty_120 hS.1.1) ?_
  refine Tr.imp (Tr.deep (by decide) (sp_X12_span_120_w1 hS.1 ((St.kp hS (by decide) (by decide) (by decide)).trans en_120_12) 1 (by omega))) ?_
  rintro M7 _ ⟨h7, r7, rfl, lr7, ur7⟩
  have hS := St.tr hS h7 (by decide) (by decide)
  refine Tr.sc [(0, r7), (0, r2)] rfl ?_
  refine Tr.imul (pc := 10) d_X12_over_10 ?_
  refine Tr.gen (P := fun v => (-2147483648) ≤ v ∧ v ≤ 2147483647) (w32_b _) (fun r10 er10 br10 => ?_)
  refine Tr.aload_n (pc := 11) (i := 0) d_X12_over_11 rfl rfl ?_
  refine Tr.iconst (pc := 12) d_X12_over_12 (by decide) ?_
  refine Tr.callV (pc := 13) (as := [_]) d_X12_over_13 s_12_680 ok_X12_span rfl rfl (Nat.le_of_ble_eq_true rfl) (Nat.le_of_ble_eq_true rfl) (by decide) (ty_120 hS.1.1) ?_
  refine Tr.imp (Tr.deep (by decide) (sp_X12_span_120_w1 hS.1 ((St.kp hS (by decide) (by decide) (by decide)).trans en_120_12) 2 (by omega))) ?_
  rintro M13 _ ⟨h13, r13, rfl, lr13, ur13⟩
  have hS := St.tr hS h13 (by decide) (by decide)
  refine Tr.sc [(0, r13), (0, r10)] rfl ?_
  refine Tr.imul (pc := 16) d_X12_over_16 ?_
  refine Tr.gen (P := fun v => (-2147483648) ≤ v ∧ v ≤ 2147483647) (w32_b _) (fun r16 er16 br16 => ?_)
  refine Tr.sipush (pc := 17) d_X12_over_17 rfl (by decide) ?_
  refine Tr.icmp_le (pc := 20) (tgt := 25) d_X12_over_20 rfl (fun c20 => ?_) (fun c20 => ?_)
  · refine Tr.lconst (pc := 25) (v := 0) d_X12_over_25 rfl (by decide) ?_
    refine Tr.lstore_n (pc := 26) (i := 2) (ls2 := [(2, (1, 0)), (0, (2, 120)), (1, (0, a1))]) d_X12_over_26 rfl (by decide) rfl ?_
    refine Tr.iconst (pc := 27) d_X12_over_27 (by decide) ?_
    refine Tr.istore (pc := 28) (i := 4) (ls2 := [(4, (0, 0)), (2, (1, 0)), (0, (2, 120)), (1, (0, a1))]) d_X12_over_28 (by decide) rfl ?_
    refine Tr.iconst (pc := 30) d_X12_over_30 (by decide) ?_
    refine Tr.istore (pc := 31) (i := 5) (ls2 := [(5, (0, 0)), (4, (0, 0)), (2, (1, 0)), (0, (2, 120)), (1, (0, a1))]) d_X12_over_31 (by decide) rfl ?_
    have J33 : ∀ (n33 : Nat) (M : Mem) (p33_2 p33_4 p33_5 u33_120_59 : Int), St Tru ws_X12_over_120_w1 as_X12_over_120_w1 M0 M → ((-9223372036854775808) ≤ p33_2 ∧ p33_2 ≤ 9223372036854775807) → (0 ≤ p33_4 ∧ p33_4 ≤ 1) → (0 ≤ p33_5 ∧ p33_5 ≤ 2147483647) → ((-1) ≤ u33_120_59 ∧ u33_120_59 ≤ 5) → rd M 120 59 = u33_120_59 → (u33_120_59 = -1) → (2147483647 - p33_5).toNat < n33 → Tr l K 8 mX12_over 33 [(0, (2, 120)), (1, (0, a1)), (2, (1, p33_2)), (4, (0, p33_4)), (5, (0, p33_5))] [] M (q_X12_over_120_w1 a1 M0) := by
      intro n33
      induction n33 with
      | zero => intro M p33_2 p33_4 p33_5 u33_120_59 hS bp33_2 bp33_4 bp33_5 bu33_120_59 k33_120_59 t33_0 hm33; exact absurd hm33 (Nat.not_lt_zero _)
      | succ n33 J33 =>
        intro M p33_2 p33_4 p33_5 u33_120_59 hS bp33_2 bp33_4 bp33_5 bu33_120_59 k33_120_59 t33_0 hm33
        refine Tr.iload (pc := 33) (i := 5) d_X12_over_33 rfl ?_
        refine Tr.aload_n (pc := 35) (i := 0) d_X12_over_35 rfl rfl ?_
        refine Tr.iconst (pc := 36) d_X12_over_36 (by decide) ?_
        refine Tr.callV (pc := 37) (as := [_]) d_X12_over_37 s_12_680 ok_X12_span rfl rfl (Nat.le_of_ble_eq_true rfl) (Nat.le_of_ble_eq_true rfl) (by decide) (ty_120 hS.1.1) ?_
        refine Tr.imp (Tr.deep (by decide) (sp_X12_span_120_w1 hS.1 ((St.kp hS (by decide) (by decide) (by decide)).trans en_120_12) 0 (by omega))) ?_
        rintro M37 _ ⟨h37, r37, rfl, lr37, ur37⟩
        have hS := St.tr hS h37 (by decide) (by decide)
        refine Tr.sc [(0, r37), (0, p33_5)] rfl ?_
        refine Tr.icmp_ge (pc := 40) (tgt := 208) d_X12_over_40 rfl (fun c40 => ?_) (fun c40 => ?_)
        · refine Tr.aload_n (pc := 208) (i := 0) d_X12_over_208 rfl rfl ?_
          refine Tr.iconst (pc := 209) d_X12_over_209 (by decide) ?_
          refine Tr.putzS (pc := 210) (P := St Tru ws_X12_over_120_w1 as_X12_over_120_w1 M0) d_X12_over_210 f_12_327 (by decide) (ty_120 hS.1.1) (by omega) (st_120_104 hS (by decide) (by omega) trivial) (fun M210 hS w210 => ?_)
          refine Tr.lload_n (pc := 213) (i := 2) d_X12_over_213 rfl rfl ?_
          refine Tr.l2i (pc := 214) d_X12_over_214 ?_
          refine Tr.gen (P := fun v => (-2147483648) ≤ v ∧ v ≤ 2147483647) (w32_b _) (fun r214 er214 br214 => ?_)
          have kr_120_59 : rd M210 120 59 = u33_120_59 := ((Wr.b w210 rfl).trans ((St.kp h37 (by decide) (by decide) (by decide)).trans k33_120_59))
          exact Tr.iret (pc := 215) d_X12_over_215 rfl ⟨hS, _, rfl, by omega, by omega, by omega⟩
        · refine Tr.iconst (pc := 43) d_X12_over_43 (by decide) ?_
          refine Tr.istore (pc := 44) (i := 6) (ls2 := [(6, (0, 0)), (0, (2, 120)), (1, (0, a1)), (2, (1, p33_2)), (4, (0, p33_4)), (5, (0, p33_5))]) d_X12_over_44 (by decide) rfl ?_
          have J46 : ∀ (n46 : Nat) (M : Mem) (p46_2 p46_4 p46_6 u46_120_59 : Int), St Tru ws_X12_over_120_w1 as_X12_over_120_w1 M0 M → ((-9223372036854775808) ≤ p46_2 ∧ p46_2 ≤ 9223372036854775807) → (0 ≤ p46_4 ∧ p46_4 ≤ 1) → (0 ≤ p46_6 ∧ p46_6 ≤ 2147483647) → ((-1) ≤ u46_120_59 ∧ u46_120_59 ≤ 5) → rd M 120 59 = u46_120_59 → (u46_120_59 = -1) → (2147483647 - p46_6).toNat < n46 → Tr l K 8 mX12_over 46 [(0, (2, 120)), (1, (0, a1)), (2, (1, p46_2)), (4, (0, p46_4)), (5, (0, p33_5)), (6, (0, p46_6))] [] M (q_X12_over_120_w1 a1 M0) := by
            intro n46
            induction n46 with
            | zero => intro M p46_2 p46_4 p46_6 u46_120_59 hS bp46_2 bp46_4 bp46_6 bu46_120_59 k46_120_59 t46_0 hm46; exact absurd hm46 (Nat.not_lt_zero _)
            | succ n46 J46 =>
              intro M p46_2 p46_4 p46_6 u46_120_59 hS bp46_2 bp46_4 bp46_6 bu46_120_59 k46_120_59 t46_0 hm46
              refine Tr.iload (pc := 46) (i := 6) d_X12_over_46 rfl ?_
              refine Tr.aload_n (pc := 48) (i := 0) d_X12_over_48 rfl rfl ?_
              refine Tr.iconst (pc := 49) d_X12_over_49 (by decide) ?_
              refine Tr.callV (pc := 50) (as := [_]) d_X12_over_50 s_12_680 ok_X12_span rfl rfl (Nat.le_of_ble_eq_true rfl) (Nat.le_of_ble_eq_true rfl) (by decide) (ty_120 hS.1.1) ?_
              refine Tr.imp (Tr.deep (by decide) (sp_X12_span_120_w1 hS.1 ((St.kp hS (by decide) (by decide) (by decide)).trans en_120_12) 1 (by omega))) ?_
              rintro M50 _ ⟨h50, r50, rfl, lr50, ur50⟩
              have hS := St.tr hS h50 (by decide) (by decide)
              refine Tr.sc [(0, r50), (0, p46_6)] rfl ?_
              refine Tr.icmp_ge (pc := 53) (tgt := 202) d_X12_over_53 rfl (fun c53 => ?_) (fun c53 => ?_)
              · refine Tr.iincV (pc := 202) (n2 := (p33_5 + 1)) (ls2 := [(5, (0, (p33_5 + 1))), (0, (2, 120)), (1, (0, a1)), (2, (1, p46_2)), (4, (0, p46_4)), (6, (0, p46_6))]) d_X12_over_202 rfl (by decide) ((w32_id (by omega)).trans (by omega)) rfl ?_
                refine Tr.goto (pc := 205) (tgt := 33) d_X12_over_205 rfl ?_
                refine Tr.pick [1, 2, 3, 4, 0] (ls2 := [(0, (2, 120)), (1, (0, a1)), (2, (1, p46_2)), (4, (0, p46_4)), (5, (0, (p33_5 + 1)))]) rfl ?_
                exact J33 _ _ _ _ _ hS (by omega) (by omega) (by omega) (by omega) ((St.kp h50 (by decide) (by decide) (by decide)).trans k46_120_59) (by omega) (by omega)
              · refine Tr.iconst (pc := 56) d_X12_over_56 (by decide) ?_
                refine Tr.istore (pc := 57) (i := 7) (ls2 := [(7, (0, 0)), (0, (2, 120)), (1, (0, a1)), (2, (1, p46_2)), (4, (0, p46_4)), (5, (0, p33_5)), (6, (0, p46_6))]) d_X12_over_57 (by decide) rfl ?_
                have J59 : ∀ (n59 : Nat) (M : Mem) (p59_2 p59_4 p59_7 u59_120_59 : Int), St Tru ws_X12_over_120_w1 as_X12_over_120_w1 M0 M → ((-9223372036854775808) ≤ p59_2 ∧ p59_2 ≤ 9223372036854775807) → (0 ≤ p59_4 ∧ p59_4 ≤ 1) → (0 ≤ p59_7 ∧ p59_7 ≤ 2147483647) → ((-1) ≤ u59_120_59 ∧ u59_120_59 ≤ 5) → rd M 120 59 = u59_120_59 → (u59_120_59 = -1) → (2147483647 - p59_7).toNat < n59 → Tr l K 8 mX12_over 59 [(0, (2, 120)), (1, (0, a1)), (2, (1, p59_2)), (4, (0, p59_4)), (5, (0, p33_5)), (6, (0, p46_6)), (7, (0, p59_7))] [] M (q_X12_over_120_w1 a1 M0) := by
                  intro n59
                  induction n59 with
                  | zero => intro M p59_2 p59_4 p59_7 u59_120_59 hS bp59_2 bp59_4 bp59_7 bu59_120_59 k59_120_59 t59_0 hm59; exact absurd hm59 (Nat.not_lt_zero _)
                  | succ n59 J59 =>
                    intro M p59_2 p59_4 p59_7 u59_120_59 hS bp59_2 bp59_4 bp59_7 bu59_120_59 k59_120_59 t59_0 hm59
                    refine Tr.iload (pc := 59) (i := 7) d_X12_over_59 rfl ?_
                    refine Tr.aload_n (pc := 61) (i := 0) d_X12_over_61 rfl rfl ?_
                    refine Tr.iconst (pc := 62) d_X12_over_62 (by decide) ?_
                    refine Tr.callV (pc := 63) (as := [_]) d_X12_over_63 s_12_680 ok_X12_span rfl rfl (Nat.le_of_ble_eq_true rfl) (Nat.le_of_ble_eq_true rfl) (by decide) (ty_120 hS.1.1) ?_
                    refine Tr.imp (Tr.deep (by decide) (sp_X12_span_120_w1 hS.1 ((St.kp hS (by decide) (by decide) (by decide)).trans en_120_12) 2 (by omega))) ?_
                    rintro M63 _ ⟨h63, r63, rfl, lr63, ur63⟩
                    have hS := St.tr hS h63 (by decide) (by decide)
                    refine Tr.sc [(0, r63), (0, p59_7)] rfl ?_
                    refine Tr.icmp_ge (pc := 66) (tgt := 196) d_X12_over_66 rfl (fun c66 => ?_) (fun c66 => ?_)
                    · refine Tr.iincV (pc := 196) (n2 := (p46_6 + 1)) (ls2 := [(6, (0, (p46_6 + 1))), (0, (2, 120)), (1, (0, a1)), (2, (1, p59_2)), (4, (0, p59_4)), (5, (0, p33_5)), (7, (0, p59_7))]) d_X12_over_196 rfl (by decide) ((w32_id (by omega)).trans (by omega)) rfl ?_
                      refine Tr.goto (pc := 199) (tgt := 46) d_X12_over_199 rfl ?_
                      refine Tr.pick [1, 2, 3, 4, 5, 0] (ls2 := [(0, (2, 120)), (1, (0, a1)), (2, (1, p59_2)), (4, (0, p59_4)), (5, (0, p33_5)), (6, (0, (p46_6 + 1)))]) rfl ?_
                      exact J46 _ _ _ _ _ hS (by omega) (by omega) (by omega) (by omega) ((St.kp h63 (by decide) (by decide) (by decide)).trans k59_120_59) (by omega) (by omega)
                    · refine Tr.aload_n (pc := 69) (i := 0) d_X12_over_69 rfl rfl ?_
                      refine Tr.getf (pc := 70) d_X12_over_70 f_12_171 (by decide) (by decide) (ty_120 hS.1.1) ?_
                      refine Tr.tp 154 (fx_120_52 hS.1.1) ?_
                      refine Tr.iconst (pc := 73) d_X12_over_73 (by decide) ?_
                      refine Tr.aload_n (pc := 74) (i := 0) d_X12_over_74 rfl rfl ?_
                      refine Tr.iconst (pc := 75) d_X12_over_75 (by decide) ?_
                      refine Tr.callV (pc := 76) (as := [_]) d_X12_over_76 s_12_683 ok_X12_lowOf rfl rfl (Nat.le_of_ble_eq_true rfl) (Nat.le_of_ble_eq_true rfl) (by decide) (ty_120 hS.1.1) ?_
                      refine Tr.imp (Tr.deep (by decide) (sp_X12_lowOf_120_w1 hS.1 ((St.kp hS (by decide) (by decide) (by decide)).trans en_120_12) 0 (by omega))) ?_
                      rintro M76 _ ⟨h76, r76, rfl, lr76, ur76⟩
                      have hS := St.tr hS h76 (by decide) (by decide)
                      refine Tr.sc [(0, r76), (0, 0), (2, 154)] rfl ?_
                      refine Tr.iload (pc := 79) (i := 5) d_X12_over_79 rfl ?_
                      refine Tr.iadd (pc := 81) d_X12_over_81 ?_
                      refine Tr.gen (P := fun v => (-2147483648) ≤ v ∧ v ≤ 2147483647) (w32_b _) (fun r81 er81 br81 => ?_)
                      refine Tr.iastS (pc := 82) (P := St Tru ws_X12_over_120_w1 as_X12_over_120_w1 M0) d_X12_over_82 (ty_154 hS.1.1) (by omega) (by omega) (sa_154 hS (by decide) (by omega) trivial) (fun M82 hS w82 => ?_)
                      refine Tr.aload_n (pc := 83) (i := 0) d_X12_over_83 rfl rfl ?_
                      refine Tr.getf (pc := 84) d_X12_over_84 f_12_171 (by decide) (by decide) (ty_120 hS.1.1) ?_
                      refine Tr.tp 154 (fx_120_52 hS.1.1) ?_
                      refine Tr.iconst (pc := 87) d_X12_over_87 (by decide) ?_
                      refine Tr.aload_n (pc := 88) (i := 0) d_X12_over_88 rfl rfl ?_
                      refine Tr.iconst (pc := 89) d_X12_over_89 (by decide) ?_
                      refine Tr.callV (pc := 90) (as := [_]) d_X12_over_90 s_12_683 ok_X12_lowOf rfl rfl (Nat.le_of_ble_eq_true rfl) (Nat.le_of_ble_eq_true rfl) (by decide) (ty_120 hS.1.1) ?_
                      refine Tr.imp (Tr.deep (by decide) (sp_X12_lowOf_120_w1 hS.1 ((St.kp hS (by decide) (by decide) (by decide)).trans en_120_12) 1 (by omega))) ?_
                      rintro M90 _ ⟨h90, r90, rfl, lr90, ur90⟩
                      have hS := St.tr hS h90 (by decide) (by decide)
                      refine Tr.sc [(0, r90), (0, 1), (2, 154)] rfl ?_
                      refine Tr.iload (pc := 93) (i := 6) d_X12_over_93 rfl ?_
                      refine Tr.iadd (pc := 95) d_X12_over_95 ?_
                      refine Tr.gen (P := fun v => (-2147483648) ≤ v ∧ v ≤ 2147483647) (w32_b _) (fun r95 er95 br95 => ?_)
                      refine Tr.iastS (pc := 96) (P := St Tru ws_X12_over_120_w1 as_X12_over_120_w1 M0) d_X12_over_96 (ty_154 hS.1.1) (by omega) (by omega) (sa_154 hS (by decide) (by omega) trivial) (fun M96 hS w96 => ?_)
                      refine Tr.aload_n (pc := 97) (i := 0) d_X12_over_97 rfl rfl ?_
                      refine Tr.getf (pc := 98) d_X12_over_98 f_12_171 (by decide) (by decide) (ty_120 hS.1.1) ?_
                      refine Tr.tp 154 (fx_120_52 hS.1.1) ?_
                      refine Tr.iconst (pc := 101) d_X12_over_101 (by decide) ?_
                      refine Tr.aload_n (pc := 102) (i := 0) d_X12_over_102 rfl rfl ?_
                      refine Tr.iconst (pc := 103) d_X12_over_103 (by decide) ?_
                      refine Tr.callV (pc := 104) (as := [_]) d_X12_over_104 s_12_683 ok_X12_lowOf rfl rfl (Nat.le_of_ble_eq_true rfl) (Nat.le_of_ble_eq_true rfl) (by decide) (ty_120 hS.1.1) ?_
                      refine Tr.imp (Tr.deep (by decide) (sp_X12_lowOf_120_w1 hS.1 ((St.kp hS (by decide) (by decide) (by decide)).trans en_120_12) 2 (by omega))) ?_
                      rintro M104 _ ⟨h104, r104, rfl, lr104, ur104⟩
                      have hS := St.tr hS h104 (by decide) (by decide)
                      refine Tr.sc [(0, r104), (0, 2), (2, 154)] rfl ?_
                      refine Tr.iload (pc := 107) (i := 7) d_X12_over_107 rfl ?_
                      refine Tr.iadd (pc := 109) d_X12_over_109 ?_
                      refine Tr.gen (P := fun v => (-2147483648) ≤ v ∧ v ≤ 2147483647) (w32_b _) (fun r109 er109 br109 => ?_)
                      refine Tr.iastS (pc := 110) (P := St Tru ws_X12_over_120_w1 as_X12_over_120_w1 M0) d_X12_over_110 (ty_154 hS.1.1) (by omega) (by omega) (sa_154 hS (by decide) (by omega) trivial) (fun M110 hS w110 => ?_)
                      refine Tr.aload_n (pc := 111) (i := 0) d_X12_over_111 rfl rfl ?_
                      refine Tr.ldc2 (pc := 112) d_X12_over_112 kl_12_686 (by decide) ?_
                      refine Tr.callV (pc := 115) (as := [_]) d_X12_over_115 s_12_637 ok_X12_runs rfl rfl (Nat.le_of_ble_eq_true rfl) (Nat.le_of_ble_eq_true rfl) (by decide) (ty_120 hS.1.1) ?_
                      have kb115_120_59 : rd M110 120 59 = u59_120_59 := ((Wr.b w110 rfl).trans ((St.kp h104 (by decide) (by decide) (by decide)).trans ((Wr.b w96 rfl).trans ((St.kp h90 (by decide) (by decide) (by decide)).trans ((Wr.b w82 rfl).trans ((St.kp h76 (by decide) (by decide) (by decide)).trans ((St.kp h63 (by decide) (by decide) (by decide)).trans k59_120_59)))))))
                      refine Tr.imp (Tr.deep (by decide) (sp_X12_runs_120_w2 hS.1 ((St.kp hS (by decide) (by decide) (by decide)).trans en_120_12) (-1) (by omega) (by omega) (Bk1.of hF_Bk1 (fun j => (St.ka hS (by decide) (by decide) (by decide))) (fun j => (St.ka hS (by decide) (by decide) (by decide))) (fun j => (St.ka hS (by decide) (by decide) (by decide))) (fun j => (St.ka hS (by decide) (by decide) (by decide))) (fun j => (St.ka hS (by decide) (by decide) (by decide))) (fun j => (St.ka hS (by decide) (by decide) (by decide))) (fun j => (St.ka hS (by decide) (by decide) (by decide))) (fun j => (St.ka hS (by decide) (by decide) (by decide))) (St.kp hS (by decide) (by decide) (by decide)) (St.kp hS (by decide) (by decide) (by decide)) (St.kp hS (by decide) (by decide) (by decide)) (St.kp hS (by decide) (by decide) (by decide))))) ?_
                      rintro M115 _ ⟨h115, r115, rfl, lr115, ur115, z115_0⟩
                      have hS := St.tr hS h115 (by decide) (by decide)
                      obtain ⟨s115_120_59, es115_120_59⟩ : ∃ v, rd M115 120 59 = v := ⟨_, rfl⟩
                      have bs115_120_59 : (-1) ≤ s115_120_59 ∧ s115_120_59 ≤ 5 := by rw [← es115_120_59]; exact ir_120_59 hS.1.2.1
                      refine Tr.sc [(0, r115)] rfl ?_
                      refine Tr.istore (pc := 118) (i := 8) (ls2 := [(8, (0, r115)), (0, (2, 120)), (1, (0, a1)), (2, (1, p59_2)), (4, (0, p59_4)), (5, (0, p33_5)), (6, (0, p46_6)), (7, (0, p59_7))]) d_X12_over_118 (by decide) rfl ?_
                      refine Tr.iload (pc := 120) (i := 4) d_X12_over_120 rfl ?_
                      have J190 : ∀ (M : Mem) (p190_4 p190_2 : Int), St Tru ws_X12_over_120_w1 as_X12_over_120_w1 M0 M → (1 ≤ p190_4 ∧ p190_4 ≤ 1) → ((-9223372036854775808) ≤ p190_2 ∧ p190_2 ≤ 9223372036854775807) → rd M 120 59 = s115_120_59 → rd M 154 0 = r81 → (s115_120_59 = -1) → Tr l K 8 mX12_over 190 [(0, (2, 120)), (1, (0, a1)), (2, (1, p190_2)), (4, (0, p190_4)), (5, (0, p33_5)), (6, (0, p46_6)), (7, (0, p59_7))] [] M (q_X12_over_120_w1 a1 M0) := by
                        intro M p190_4 p190_2 hS bp190_4 bp190_2 k190_120_59 k190_154_0 t190_0
                        refine Tr.iincV (pc := 190) (n2 := (p59_7 + 1)) (ls2 := [(7, (0, (p59_7 + 1))), (0, (2, 120)), (1, (0, a1)), (2, (1, p190_2)), (4, (0, p190_4)), (5, (0, p33_5)), (6, (0, p46_6))]) d_X12_over_190 rfl (by decide) ((w32_id (by omega)).trans (by omega)) rfl ?_
                        refine Tr.goto (pc := 193) (tgt := 59) d_X12_over_193 rfl ?_
                        refine Tr.pick [1, 2, 3, 4, 5, 6, 0] (ls2 := [(0, (2, 120)), (1, (0, a1)), (2, (1, p190_2)), (4, (0, p190_4)), (5, (0, p33_5)), (6, (0, p46_6)), (7, (0, (p59_7 + 1)))]) rfl ?_
                        exact J59 _ _ _ _ _ hS (by omega) (by omega) (by omega) (by omega) k190_120_59 (by omega) (by omega)
                      have J153 : ∀ (M : Mem), St Tru ws_X12_over_120_w1 as_X12_over_120_w1 M0 M → rd M 120 59 = s115_120_59 → rd M 154 0 = r81 → (s115_120_59 = -1) → Tr l K 8 mX12_over 153 [(0, (2, 120)), (1, (0, a1)), (5, (0, p33_5)), (6, (0, p46_6)), (7, (0, p59_7))] [] M (q_X12_over_120_w1 a1 M0) := by
                        intro M  hS  k153_120_59 k153_154_0 t153_0
                        refine Tr.iconst (pc := 153) d_X12_over_153 (by decide) ?_
                        refine Tr.istore (pc := 154) (i := 4) (ls2 := [(4, (0, 1)), (0, (2, 120)), (1, (0, a1)), (5, (0, p33_5)), (6, (0, p46_6)), (7, (0, p59_7))]) d_X12_over_154 (by decide) rfl ?_
                        refine Tr.aload_n (pc := 156) (i := 0) d_X12_over_156 rfl rfl ?_
                        refine Tr.getf (pc := 157) d_X12_over_157 f_12_204 (by decide) (by decide) (ty_120 hS.1.1) ?_
                        refine Tr.gen (P := fun v => (-9223372036854775808) ≤ v ∧ v ≤ 9223372036854775807) (ir_120_63 hS.1.2.1) (fun r157 er157 br157 => ?_)
                        refine Tr.lstore_n (pc := 160) (i := 2) (ls2 := [(2, (1, r157)), (4, (0, 1)), (0, (2, 120)), (1, (0, a1)), (5, (0, p33_5)), (6, (0, p46_6)), (7, (0, p59_7))]) d_X12_over_160 rfl (by decide) rfl ?_
                        refine Tr.iconst (pc := 161) d_X12_over_161 (by decide) ?_
                        refine Tr.istore (pc := 162) (i := 9) (ls2 := [(9, (0, 0)), (2, (1, r157)), (4, (0, 1)), (0, (2, 120)), (1, (0, a1)), (5, (0, p33_5)), (6, (0, p46_6)), (7, (0, p59_7))]) d_X12_over_162 (by decide) rfl ?_
                        have J164 : ∀ (n164 : Nat) (M : Mem) (p164_9 : Int), St Tru ws_X12_over_120_w1 as_X12_over_120_w1 M0 M → (0 ≤ p164_9 ∧ p164_9 ≤ 3) → rd M 120 59 = s115_120_59 → rd M 120 63 = r157 → rd M 154 0 = r81 → (s115_120_59 = -1) → (3 - p164_9).toNat < n164 → Tr l K 8 mX12_over 164 [(0, (2, 120)), (1, (0, a1)), (2, (1, r157)), (4, (0, 1)), (5, (0, p33_5)), (6, (0, p46_6)), (7, (0, p59_7)), (9, (0, p164_9))] [] M (q_X12_over_120_w1 a1 M0) := by
                          intro n164
                          induction n164 with
                          | zero => intro M p164_9 hS bp164_9 k164_120_59 k164_120_63 k164_154_0 t164_0 hm164; exact absurd hm164 (Nat.not_lt_zero _)
                          | succ n164 J164 =>
                            intro M p164_9 hS bp164_9 k164_120_59 k164_120_63 k164_154_0 t164_0 hm164
                            refine Tr.iload (pc := 164) (i := 9) d_X12_over_164 rfl ?_
                            refine Tr.iconst (pc := 166) d_X12_over_166 (by decide) ?_
                            refine Tr.icmp_ge (pc := 167) (tgt := 190) d_X12_over_167 rfl (fun c167 => ?_) (fun c167 => ?_)
                            · refine Tr.pick [0, 1, 2, 3, 4, 5, 6] (ls2 := [(0, (2, 120)), (1, (0, a1)), (2, (1, r157)), (4, (0, 1)), (5, (0, p33_5)), (6, (0, p46_6)), (7, (0, p59_7))]) rfl ?_
                              exact J190 _ _ _ hS (by omega) (by omega) k164_120_59 k164_154_0 (by omega)
                            · refine Tr.aload_n (pc := 170) (i := 0) d_X12_over_170 rfl rfl ?_
                              refine Tr.getf (pc := 171) d_X12_over_171 f_12_330 (by decide) (by decide) (ty_120 hS.1.1) ?_
                              refine Tr.tp 179 (fx_120_105 hS.1.1) ?_
                              refine Tr.iload (pc := 174) (i := 9) d_X12_over_174 rfl ?_
                              refine Tr.aload_n (pc := 176) (i := 0) d_X12_over_176 rfl rfl ?_
                              refine Tr.getf (pc := 177) d_X12_over_177 f_12_171 (by decide) (by decide) (ty_120 hS.1.1) ?_
                              refine Tr.tp 154 (fx_120_52 hS.1.1) ?_
                              refine Tr.iload (pc := 180) (i := 9) d_X12_over_180 rfl ?_
                              refine Tr.iald (pc := 182) d_X12_over_182 (ty_154 hS.1.1) (by omega) (by omega) ?_
                              refine Tr.gen (P := fun v => (-2147483648) ≤ v ∧ v ≤ 2147483647) (ar_154 hS.1.2.1 _) (fun r182 er182 br182 => ?_)
                              refine Tr.iastS (pc := 183) (P := St Tru ws_X12_over_120_w1 as_X12_over_120_w1 M0) d_X12_over_183 (ty_179 hS.1.1) (by omega) (by omega) (sa_179 hS (by decide) (by omega) trivial) (fun M183 hS w183 => ?_)
                              refine Tr.iincV (pc := 184) (n2 := (p164_9 + 1)) (ls2 := [(9, (0, (p164_9 + 1))), (0, (2, 120)), (1, (0, a1)), (2, (1, r157)), (4, (0, 1)), (5, (0, p33_5)), (6, (0, p46_6)), (7, (0, p59_7))]) d_X12_over_184 rfl (by decide) ((w32_id (by omega)).trans (by omega)) rfl ?_
                              refine Tr.goto (pc := 187) (tgt := 164) d_X12_over_187 rfl ?_
                              refine Tr.pick [1, 2, 3, 4, 5, 6, 7, 0] (ls2 := [(0, (2, 120)), (1, (0, a1)), (2, (1, r157)), (4, (0, 1)), (5, (0, p33_5)), (6, (0, p46_6)), (7, (0, p59_7)), (9, (0, (p164_9 + 1)))]) rfl ?_
                              exact J164 _ _ hS (by omega) ((Wr.b w183 rfl).trans k164_120_59) ((Wr.b w183 rfl).trans k164_120_63) ((Wr.b w183 rfl).trans k164_154_0) (by omega) (by omega)
                        refine Tr.pick [3, 4, 1, 2, 5, 6, 7, 0] (ls2 := [(0, (2, 120)), (1, (0, a1)), (2, (1, r157)), (4, (0, 1)), (5, (0, p33_5)), (6, (0, p46_6)), (7, (0, p59_7)), (9, (0, 0))]) rfl ?_
                        exact J164 _ _ _ hS (by omega) k153_120_59 er157 k153_154_0 (by omega) (Nat.lt_succ_self _)
                      refine Tr.if_eq (pc := 122) (tgt := 153) d_X12_over_122 rfl (fun c122 => ?_) (fun c122 => ?_)
                      · refine Tr.pick [1, 2, 5, 6, 7] (ls2 := [(0, (2, 120)), (1, (0, a1)), (5, (0, p33_5)), (6, (0, p46_6)), (7, (0, p59_7))]) rfl ?_
                        exact J153 _ hS es115_120_59 ((St.kp h115 (by decide) (by decide) (by decide)).trans ((Wr.b w110 rfl).trans ((St.kp h104 (by decide) (by decide) (by decide)).trans ((Wr.b w96 rfl).trans ((St.kp h90 (by decide) (by decide) (by decide)).trans w82.1))))) (by omega)
                      · refine Tr.iload_n (pc := 125) (i := 1) d_X12_over_125 rfl rfl ?_
                        refine Tr.if_eq (pc := 126) (tgt := 141) d_X12_over_126 rfl (fun c126 => ?_) (fun c126 => ?_)
                        · refine Tr.aload_n (pc := 141) (i := 0) d_X12_over_141 rfl rfl ?_
                          refine Tr.getf (pc := 142) d_X12_over_142 f_12_204 (by decide) (by decide) (ty_120 hS.1.1) ?_
                          refine Tr.gen (P := fun v => (-9223372036854775808) ≤ v ∧ v ≤ 9223372036854775807) (ir_120_63 hS.1.2.1) (fun r142 er142 br142 => ?_)
                          refine Tr.lload_n (pc := 145) (i := 2) d_X12_over_145 rfl rfl ?_
                          refine Tr.lcmp (pc := 146) d_X12_over_146 ?_
                          refine Tr.gen (P := fun v => (v = 1 ∧ p59_2 < r142) ∨ (v = 0 ∧ r142 = p59_2) ∨ (v = -1 ∧ r142 < p59_2)) (f_lcmp_c _ _) (fun r146 er146 br146 => ?_)
                          refine Tr.if_lt (pc := 147) (tgt := 153) d_X12_over_147 rfl (fun c147 => ?_) (fun c147 => ?_)
                          · refine Tr.pick [1, 2, 5, 6, 7] (ls2 := [(0, (2, 120)), (1, (0, a1)), (5, (0, p33_5)), (6, (0, p46_6)), (7, (0, p59_7))]) rfl ?_
                            exact J153 _ hS es115_120_59 ((St.kp h115 (by decide) (by decide) (by decide)).trans ((Wr.b w110 rfl).trans ((St.kp h104 (by decide) (by decide) (by decide)).trans ((Wr.b w96 rfl).trans ((St.kp h90 (by decide) (by decide) (by decide)).trans w82.1))))) (by omega)
                          · refine Tr.goto (pc := 150) (tgt := 190) d_X12_over_150 rfl ?_
                            refine Tr.pick [1, 2, 3, 4, 5, 6, 7] (ls2 := [(0, (2, 120)), (1, (0, a1)), (2, (1, p59_2)), (4, (0, p59_4)), (5, (0, p33_5)), (6, (0, p46_6)), (7, (0, p59_7))]) rfl ?_
                            exact J190 _ _ _ hS (by omega) (by omega) es115_120_59 ((St.kp h115 (by decide) (by decide) (by decide)).trans ((Wr.b w110 rfl).trans ((St.kp h104 (by decide) (by decide) (by decide)).trans ((Wr.b w96 rfl).trans ((St.kp h90 (by decide) (by decide) (by decide)).trans w82.1))))) (by omega)
                        · refine Tr.aload_n (pc := 129) (i := 0) d_X12_over_129 rfl rfl ?_
                          refine Tr.getf (pc := 130) d_X12_over_130 f_12_204 (by decide) (by decide) (ty_120 hS.1.1) ?_
                          refine Tr.gen (P := fun v => (-9223372036854775808) ≤ v ∧ v ≤ 9223372036854775807) (ir_120_63 hS.1.2.1) (fun r130 er130 br130 => ?_)
                          refine Tr.lload_n (pc := 133) (i := 2) d_X12_over_133 rfl rfl ?_
                          refine Tr.lcmp (pc := 134) d_X12_over_134 ?_
                          refine Tr.gen (P := fun v => (v = 1 ∧ p59_2 < r130) ∨ (v = 0 ∧ r130 = p59_2) ∨ (v = -1 ∧ r130 < p59_2)) (f_lcmp_c _ _) (fun r134 er134 br134 => ?_)
                          refine Tr.if_gt (pc := 135) (tgt := 153) d_X12_over_135 rfl (fun c135 => ?_) (fun c135 => ?_)
                          · refine Tr.pick [1, 2, 5, 6, 7] (ls2 := [(0, (2, 120)), (1, (0, a1)), (5, (0, p33_5)), (6, (0, p46_6)), (7, (0, p59_7))]) rfl ?_
                            exact J153 _ hS es115_120_59 ((St.kp h115 (by decide) (by decide) (by decide)).trans ((Wr.b w110 rfl).trans ((St.kp h104 (by decide) (by decide) (by decide)).trans ((Wr.b w96 rfl).trans ((St.kp h90 (by decide) (by decide) (by decide)).trans w82.1))))) (by omega)
                          · refine Tr.goto (pc := 138) (tgt := 190) d_X12_over_138 rfl ?_
                            refine Tr.pick [1, 2, 3, 4, 5, 6, 7] (ls2 := [(0, (2, 120)), (1, (0, a1)), (2, (1, p59_2)), (4, (0, p59_4)), (5, (0, p33_5)), (6, (0, p46_6)), (7, (0, p59_7))]) rfl ?_
                            exact J190 _ _ _ hS (by omega) (by omega) es115_120_59 ((St.kp h115 (by decide) (by decide) (by decide)).trans ((Wr.b w110 rfl).trans ((St.kp h104 (by decide) (by decide) (by decide)).trans ((Wr.b w96 rfl).trans ((St.kp h90 (by decide) (by decide) (by decide)).trans w82.1))))) (by omega)
                refine Tr.pick [1, 2, 3, 4, 5, 6, 0] (ls2 := [(0, (2, 120)), (1, (0, a1)), (2, (1, p46_2)), (4, (0, p46_4)), (5, (0, p33_5)), (6, (0, p46_6)), (7, (0, 0))]) rfl ?_
                exact J59 _ _ _ _ _ _ hS (by omega) (by omega) (by omega) (by omega) ((St.kp h50 (by decide) (by decide) (by decide)).trans k46_120_59) (by omega) (Nat.lt_succ_self _)
          refine Tr.pick [1, 2, 3, 4, 5, 0] (ls2 := [(0, (2, 120)), (1, (0, a1)), (2, (1, p33_2)), (4, (0, p33_4)), (5, (0, p33_5)), (6, (0, 0))]) rfl ?_
          exact J46 _ _ _ _ _ _ hS (by omega) (by omega) (by omega) (by omega) ((St.kp h37 (by decide) (by decide) (by decide)).trans k33_120_59) (by omega) (Nat.lt_succ_self _)
    refine Tr.pick [3, 4, 2, 1, 0] (ls2 := [(0, (2, 120)), (1, (0, a1)), (2, (1, 0)), (4, (0, 0)), (5, (0, 0))]) rfl ?_
    exact J33 _ _ _ _ _ _ hS (by omega) (by omega) (by omega) (by omega) ((St.kp h13 (by decide) (by decide) (by decide)).trans ((St.kp h7 (by decide) (by decide) (by decide)).trans ((St.kp h2 (by decide) (by decide) (by decide)).trans eg120_59))) (by omega) (Nat.lt_succ_self _)
  · refine Tr.iconst (pc := 23) d_X12_over_23 (by decide) ?_
    have kr_120_59 : rd M13 120 59 = g120_59 := ((St.kp h13 (by decide) (by decide) (by decide)).trans ((St.kp h7 (by decide) (by decide) (by decide)).trans ((St.kp h2 (by decide) (by decide) (by decide)).trans eg120_59)))
    exact Tr.iret (pc := 24) d_X12_over_24 rfl ⟨hS, _, rfl, by omega, by omega, by omega⟩
end
/-! 40.06 -/
section
def ws_X12_runs_120_w3 : List (Int × Int) := [(120, 59), (120, 60), (120, 61), (120, 62), (120, 63), (120, 64), (120, 65), (120, 66), (120, 67), (120, 68), (120, 75), (120, 79), (120, 84)]
def as_X12_runs_120_w3 : List Int := [155, 156, 157, 158, 159, 160, 161, 162, 163, 164, 165, 166, 167, 168, 169, 170, 171, 172]
def q_X12_runs_120_w3 (a1 : Int) (M0 M' : Mem) (r : Option PV) : Prop := St Tru ws_X12_runs_120_w3 as_X12_runs_120_w3 M0 M' ∧ ∃ v : Int, r = some (0, v) ∧ 0 ≤ v ∧ v ≤ 2 ∧ (rd M' 120 59 = -1)
set_option maxRecDepth 100000 in
set_option maxHeartbeats 4000000 in
theorem sp_X12_runs_120_w3 {l : Launch} {K : EC} {M0 : Mem} (hI : In Tru M0) (en_120_12 : rd M0 120 12 = 1) (a1 : Int) (ha1 : (-1) ≤ a1 ∧ a1 ≤ 2147483647)  (hq0 : rd M0 120 59 = -1) (hF_Bk1 : Bk1 M0) : Tr l K 7 mX12_runs 0 [(0, (2, 120)), (1, (1, a1))] [] M0 (q_X12_runs_120_w3 a1 M0) := by
  have hS : St Tru ws_X12_runs_120_w3 as_X12_runs_120_w3 M0 M0 := St.rf hI
  obtain ⟨g120_62, eg120_62⟩ : ∃ v, rd M0 120 62 = v := ⟨_, rfl⟩
  have bg120_62 : 0 ≤ g120_62 ∧ g120_62 ≤ 2060 := by rw [← eg120_62]; exact ir_120_62 hI.2.1
  obtain ⟨g120_68, eg120_68⟩ : ∃ v, rd M0 120 68 = v := ⟨_, rfl⟩
  have bg120_68 : 0 ≤ g120_68 ∧ g120_68 ≤ 2 := by rw [← eg120_68]; exact ir_120_68 hI.2.1
  obtain ⟨g120_75, eg120_75⟩ : ∃ v, rd M0 120 75 = v := ⟨_, rfl⟩
  have bg120_75 : 0 ≤ g120_75 ∧ g120_75 ≤ 2100 := by rw [← eg120_75]; exact ir_120_75 hI.2.1
  obtain ⟨g120_79, eg120_79⟩ : ∃ v, rd M0 120 79 = v := ⟨_, rfl⟩
  have bg120_79 : 0 ≤ g120_79 ∧ g120_79 ≤ 2100 := by rw [← eg120_79]; exact ir_120_79 hI.2.1
  obtain ⟨g120_59, eg120_59⟩ : ∃ v, rd M0 120 59 = v := ⟨_, rfl⟩
  have bg120_59 : (-1) ≤ g120_59 ∧ g120_59 ≤ 5 := by rw [← eg120_59]; exact ir_120_59 hI.2.1
  obtain ⟨g136_1, eg136_1⟩ : ∃ v, rd M0 136 1 = v := ⟨_, rfl⟩
  have bg136_1 : 0 ≤ g136_1 ∧ g136_1 ≤ 200 := by rw [← eg136_1]; exact ir_136_1 hI.2.1
  obtain ⟨g126_1, eg126_1⟩ : ∃ v, rd M0 126 1 = v := ⟨_, rfl⟩
  have bg126_1 : 0 ≤ g126_1 ∧ g126_1 ≤ 6 := by rw [← eg126_1]; exact ir_126_1 hI.2.1
  refine Tr.iconst (pc := 0) d_X12_runs_0 (by decide) ?_
  refine Tr.istore_n (pc := 1) (i := 3) (ls2 := [(3, (0, 0)), (0, (2, 120)), (1, (1, a1))]) d_X12_runs_1 rfl (by decide) rfl ?_
  have J2 : ∀ (n2 : Nat) (M : Mem) (p2_3 : Int), St Tru ws_X12_runs_120_w3 as_X12_runs_120_w3 M0 M → (0 ≤ p2_3 ∧ p2_3 ≤ 6) → rd M 120 59 = g120_59 → rd M 120 62 = g120_62 → rd M 120 68 = g120_68 → rd M 120 75 = g120_75 → rd M 120 79 = g120_79 → rd M 126 1 = g126_1 → rd M 136 1 = g136_1 → (g120_59 = -1) → (6 - p2_3).toNat < n2 → Tr l K 7 mX12_runs 2 [(0, (2, 120)), (1, (1, a1)), (3, (0, p2_3))] [] M (q_X12_runs_120_w3 a1 M0) := by
    intro n2
    induction n2 with
    | zero => intro M p2_3 hS bp2_3 k2_120_59 k2_120_62 k2_120_68 k2_120_75 k2_120_79 k2_126_1 k2_136_1 t2_0 hm2; exact absurd hm2 (Nat.not_lt_zero _)
    | succ n2 J2 =>
      intro M p2_3 hS bp2_3 k2_120_59 k2_120_62 k2_120_68 k2_120_75 k2_120_79 k2_126_1 k2_136_1 t2_0 hm2
      refine Tr.iload_n (pc := 2) (i := 3) d_X12_runs_2 rfl rfl ?_
      refine Tr.bipush (pc := 3) d_X12_runs_3 rfl (by decide) ?_
      refine Tr.icmp_ge (pc := 5) (tgt := 21) d_X12_runs_5 rfl (fun c5 => ?_) (fun c5 => ?_)
      · refine Tr.iconst (pc := 21) d_X12_runs_21 (by decide) ?_
        refine Tr.istore_n (pc := 22) (i := 3) (ls2 := [(3, (0, 0)), (0, (2, 120)), (1, (1, a1))]) d_X12_runs_22 rfl (by decide) rfl ?_
        have J23 : ∀ (n23 : Nat) (M : Mem) (p23_3 : Int), St Tru ws_X12_runs_120_w3 as_X12_runs_120_w3 M0 M → (0 ≤ p23_3 ∧ p23_3 ≤ 6) → rd M 120 59 = g120_59 → rd M 120 62 = g120_62 → rd M 120 68 = g120_68 → rd M 120 75 = g120_75 → rd M 120 79 = g120_79 → rd M 126 1 = g126_1 → rd M 136 1 = g136_1 → (g120_59 = -1) → (∀ p : Int, 0 ≤ p → p < p23_3 → rd M 158 p ≤ 50) → (6 - p23_3).toNat < n23 → Tr l K 7 mX12_runs 23 [(0, (2, 120)), (1, (1, a1)), (3, (0, p23_3))] [] M (q_X12_runs_120_w3 a1 M0) := by
          intro n23
          induction n23 with
          | zero => intro M p23_3 hS bp23_3 k23_120_59 k23_120_62 k23_120_68 k23_120_75 k23_120_79 k23_126_1 k23_136_1 t23_0 tp23_0 hm23; exact absurd hm23 (Nat.not_lt_zero _)
          | succ n23 J23 =>
            intro M p23_3 hS bp23_3 k23_120_59 k23_120_62 k23_120_68 k23_120_75 k23_120_79 k23_126_1 k23_136_1 t23_0 tp23_0 hm23
            refine Tr.iload_n (pc := 23) (i := 3) d_X12_runs_23 rfl rfl ?_
            refine Tr.bipush (pc := 24) d_X12_runs_24 rfl (by decide) ?_
            refine Tr.icmp_ge (pc := 26) (tgt := 63) d_X12_runs_26 rfl (fun c26 => ?_) (fun c26 => ?_)
            · have kp63_126_1 : rd M 126 1 = g126_1 := k23_126_1
              have hS := St.rn (r := Tb1) hS (fun p p0 p1 => tp23_0 p p0 (by omega))
              refine Tr.iconst (pc := 63) d_X12_runs_63 (by decide) ?_
              refine Tr.istore_n (pc := 64) (i := 3) (ls2 := [(3, (0, 0)), (0, (2, 120)), (1, (1, a1))]) d_X12_runs_64 rfl (by decide) rfl ?_
              have J65 : ∀ (n65 : Nat) (M : Mem) (p65_3 : Int), St Tb1 ws_X12_runs_120_w3 as_X12_runs_120_w3 M0 M → (0 ≤ p65_3 ∧ p65_3 ≤ 8) → rd M 120 59 = g120_59 → rd M 120 62 = g120_62 → rd M 120 68 = g120_68 → rd M 120 75 = g120_75 → rd M 120 79 = g120_79 → rd M 126 1 = g126_1 → rd M 136 1 = g136_1 → (g120_59 = -1) → (8 - p65_3).toNat < n65 → Tr l K 7 mX12_runs 65 [(0, (2, 120)), (1, (1, a1)), (3, (0, p65_3))] [] M (q_X12_runs_120_w3 a1 M0) := by
                intro n65
                induction n65 with
                | zero => intro M p65_3 hS bp65_3 k65_120_59 k65_120_62 k65_120_68 k65_120_75 k65_120_79 k65_126_1 k65_136_1 t65_0 hm65; exact absurd hm65 (Nat.not_lt_zero _)
                | succ n65 J65 =>
                  intro M p65_3 hS bp65_3 k65_120_59 k65_120_62 k65_120_68 k65_120_75 k65_120_79 k65_126_1 k65_136_1 t65_0 hm65
                  refine Tr.iload_n (pc := 65) (i := 3) d_X12_runs_65 rfl rfl ?_
                  refine Tr.bipush (pc := 66) d_X12_runs_66 rfl (by decide) ?_
                  refine Tr.icmp_ge (pc := 68) (tgt := 84) d_X12_runs_68 rfl (fun c68 => ?_) (fun c68 => ?_)
                  · refine Tr.iconst (pc := 84) d_X12_runs_84 (by decide) ?_
                    refine Tr.istore_n (pc := 85) (i := 3) (ls2 := [(3, (0, 0)), (0, (2, 120)), (1, (1, a1))]) d_X12_runs_85 rfl (by decide) rfl ?_
                    have J86 : ∀ (n86 : Nat) (M : Mem) (p86_3 : Int), St Tb1 ws_X12_runs_120_w3 as_X12_runs_120_w3 M0 M → (0 ≤ p86_3 ∧ p86_3 ≤ 24) → rd M 120 59 = g120_59 → rd M 120 62 = g120_62 → rd M 120 68 = g120_68 → rd M 120 75 = g120_75 → rd M 120 79 = g120_79 → rd M 126 1 = g126_1 → rd M 136 1 = g136_1 → (g120_59 = -1) → (24 - p86_3).toNat < n86 → Tr l K 7 mX12_runs 86 [(0, (2, 120)), (1, (1, a1)), (3, (0, p86_3))] [] M (q_X12_runs_120_w3 a1 M0) := by
                      intro n86
                      induction n86 with
                      | zero => intro M p86_3 hS bp86_3 k86_120_59 k86_120_62 k86_120_68 k86_120_75 k86_120_79 k86_126_1 k86_136_1 t86_0 hm86; exact absurd hm86 (Nat.not_lt_zero _)
                      | succ n86 J86 =>
                        intro M p86_3 hS bp86_3 k86_120_59 k86_120_62 k86_120_68 k86_120_75 k86_120_79 k86_126_1 k86_136_1 t86_0 hm86
                        refine Tr.iload_n (pc := 86) (i := 3) d_X12_runs_86 rfl rfl ?_
                        refine Tr.bipush (pc := 87) d_X12_runs_87 rfl (by decide) ?_
                        refine Tr.icmp_ge (pc := 89) (tgt := 105) d_X12_runs_89 rfl (fun c89 => ?_) (fun c89 => ?_)
                        · refine Tr.aload_n (pc := 105) (i := 0) d_X12_runs_105 rfl rfl ?_
                          refine Tr.iconst (pc := 106) d_X12_runs_106 (by decide) ?_
                          refine Tr.putfS (pc := 107) (P := St Tb1 ws_X12_runs_120_w3 as_X12_runs_120_w3 M0) d_X12_runs_107 f_12_201 (by decide) (by decide) (ty_120 hS.1.1) (st_120_62 hS (by decide) (by omega) (Tb1.of hS.1.2.2.2.2 (fun _ => rd_wb _ rfl) (rd_wb _ rfl))) (fun M107 hS w107 => ?_)
                          refine Tr.aload_n (pc := 110) (i := 0) d_X12_runs_110 rfl rfl ?_
                          refine Tr.lconst (pc := 111) (v := 0) d_X12_runs_111 rfl (by decide) ?_
                          refine Tr.putfS (pc := 112) (P := St Tb1 ws_X12_runs_120_w3 as_X12_runs_120_w3 M0) d_X12_runs_112 f_12_204 (by decide) (by decide) (ty_120 hS.1.1) (st_120_63 hS (by decide) (by omega) (Tb1.of hS.1.2.2.2.2 (fun _ => rd_wb _ rfl) (rd_wb _ rfl))) (fun M112 hS w112 => ?_)
                          refine Tr.aload_n (pc := 115) (i := 0) d_X12_runs_115 rfl rfl ?_
                          refine Tr.lload_n (pc := 116) (i := 1) d_X12_runs_116 rfl rfl ?_
                          refine Tr.putfS (pc := 117) (P := St Tb1 ws_X12_runs_120_w3 as_X12_runs_120_w3 M0) d_X12_runs_117 f_12_207 (by decide) (by decide) (ty_120 hS.1.1) (st_120_64 hS (by decide) (by omega) (Tb1.of hS.1.2.2.2.2 (fun _ => rd_wb _ rfl) (rd_wb _ rfl))) (fun M117 hS w117 => ?_)
                          refine Tr.aload_n (pc := 120) (i := 0) d_X12_runs_120 rfl rfl ?_
                          refine Tr.iconst (pc := 121) d_X12_runs_121 (by decide) ?_
                          refine Tr.putfS (pc := 122) (P := St Tb1 ws_X12_runs_120_w3 as_X12_runs_120_w3 M0) d_X12_runs_122 f_12_210 (by decide) (by decide) (ty_120 hS.1.1) (st_120_65 hS (by decide) (by omega) (Tb1.of hS.1.2.2.2.2 (fun _ => rd_wb _ rfl) (rd_wb _ rfl))) (fun M122 hS w122 => ?_)
                          refine Tr.aload_n (pc := 125) (i := 0) d_X12_runs_125 rfl rfl ?_
                          refine Tr.iconst (pc := 126) d_X12_runs_126 (by decide) ?_
                          refine Tr.putfS (pc := 127) (P := St Tb1 ws_X12_runs_120_w3 as_X12_runs_120_w3 M0) d_X12_runs_127 f_12_213 (by decide) (by decide) (ty_120 hS.1.1) (st_120_66 hS (by decide) (by omega) (Tb1.of hS.1.2.2.2.2 (fun _ => rd_wb _ rfl) (rd_wb _ rfl))) (fun M127 hS w127 => ?_)
                          refine Tr.aload_n (pc := 130) (i := 0) d_X12_runs_130 rfl rfl ?_
                          refine Tr.iconst (pc := 131) d_X12_runs_131 (by decide) ?_
                          refine Tr.putfS (pc := 132) (P := St Tb1 ws_X12_runs_120_w3 as_X12_runs_120_w3 M0) d_X12_runs_132 f_12_216 (by decide) (by decide) (ty_120 hS.1.1) (st_120_67 hS (by decide) (by omega) (Tb1.of hS.1.2.2.2.2 (fun _ => rd_wb _ rfl) (rd_wb _ rfl))) (fun M132 hS w132 => ?_)
                          refine Tr.aload_n (pc := 135) (i := 0) d_X12_runs_135 rfl rfl ?_
                          refine Tr.iconst (pc := 136) d_X12_runs_136 (by decide) ?_
                          refine Tr.putfS (pc := 137) (P := St Tb1 ws_X12_runs_120_w3 as_X12_runs_120_w3 M0) d_X12_runs_137 f_12_219 (by decide) (by decide) (ty_120 hS.1.1) (st_120_68 hS (by decide) (by omega) (Tb1.of hS.1.2.2.2.2 (fun _ => rd_wb _ rfl) (rd_wb _ rfl))) (fun M137 hS w137 => ?_)
                          refine Tr.aload_n (pc := 140) (i := 0) d_X12_runs_140 rfl rfl ?_
                          refine Tr.iconst (pc := 141) d_X12_runs_141 (by decide) ?_
                          refine Tr.putfS (pc := 142) (P := St Tb1 ws_X12_runs_120_w3 as_X12_runs_120_w3 M0) d_X12_runs_142 f_12_267 (by decide) (by decide) (ty_120 hS.1.1) (st_120_84 hS (by decide) (by omega) (Tb1.of hS.1.2.2.2.2 (fun _ => rd_wb _ rfl) (rd_wb _ rfl))) (fun M142 hS w142 => ?_)
                          refine Tr.aload_n (pc := 145) (i := 0) d_X12_runs_145 rfl rfl ?_
                          refine Tr.iconst (pc := 146) d_X12_runs_146 (by decide) ?_
                          refine Tr.putfS (pc := 147) (P := St Tb1 ws_X12_runs_120_w3 as_X12_runs_120_w3 M0) d_X12_runs_147 f_12_195 (by decide) (by decide) (ty_120 hS.1.1) (st_120_60 hS (by decide) (by omega) (Tb1.of hS.1.2.2.2.2 (fun _ => rd_wb _ rfl) (rd_wb _ rfl))) (fun M147 hS w147 => ?_)
                          refine Tr.aload_n (pc := 150) (i := 0) d_X12_runs_150 rfl rfl ?_
                          refine Tr.iconst (pc := 151) d_X12_runs_151 (by decide) ?_
                          refine Tr.putfS (pc := 152) (P := St Tb1 ws_X12_runs_120_w3 as_X12_runs_120_w3 M0) d_X12_runs_152 f_12_240 (by decide) (by decide) (ty_120 hS.1.1) (st_120_75 hS (by decide) (by omega) (Tb1.of hS.1.2.2.2.2 (fun _ => rd_wb _ rfl) (rd_wb _ rfl))) (fun M152 hS w152 => ?_)
                          refine Tr.aload_n (pc := 155) (i := 0) d_X12_runs_155 rfl rfl ?_
                          refine Tr.iconst (pc := 156) d_X12_runs_156 (by decide) ?_
                          refine Tr.putfS (pc := 157) (P := St Tb1 ws_X12_runs_120_w3 as_X12_runs_120_w3 M0) d_X12_runs_157 f_12_252 (by decide) (by decide) (ty_120 hS.1.1) (st_120_79 hS (by decide) (by omega) (Tb1.of hS.1.2.2.2.2 (fun _ => rd_wb _ rfl) (rd_wb _ rfl))) (fun M157 hS w157 => ?_)
                          refine Tr.iconst (pc := 160) d_X12_runs_160 (by decide) ?_
                          refine Tr.istore_n (pc := 161) (i := 3) (ls2 := [(3, (0, 0)), (0, (2, 120)), (1, (1, a1))]) d_X12_runs_161 rfl (by decide) rfl ?_
                          have J162 : ∀ (n162 : Nat) (M : Mem) (p162_3 u162_120_59 u162_120_62 u162_120_68 u162_120_75 u162_120_79 : Int), St Tb1 ws_X12_runs_120_w3 as_X12_runs_120_w3 M0 M → (0 ≤ p162_3 ∧ p162_3 ≤ 200) → ((-1) ≤ u162_120_59 ∧ u162_120_59 ≤ 5) → (0 ≤ u162_120_62 ∧ u162_120_62 ≤ 2060) → (0 ≤ u162_120_68 ∧ u162_120_68 ≤ 2) → (0 ≤ u162_120_75 ∧ u162_120_75 ≤ 2100) → (0 ≤ u162_120_79 ∧ u162_120_79 ≤ 2100) → rd M 120 59 = u162_120_59 → rd M 120 62 = u162_120_62 → rd M 120 64 = a1 → rd M 120 68 = u162_120_68 → rd M 120 75 = u162_120_75 → rd M 120 79 = u162_120_79 → rd M 126 1 = g126_1 → rd M 136 1 = g136_1 → (u162_120_75 ≤ u162_120_62) → (u162_120_79 ≤ u162_120_62) → (u162_120_62 ≤ 2000) → (u162_120_59 = -1) → (0 ≤ p162_3 ∧ p162_3 ≤ 200) → ((2001 - u162_120_62) * 300 + 1000 * (2 - u162_120_68) + rkf (rd M0 137 (200 + p162_3)) p162_3).toNat < n162 → Tr l K 7 mX12_runs 162 [(0, (2, 120)), (3, (0, p162_3))] [] M (q_X12_runs_120_w3 a1 M0) := by
                            intro n162
                            induction n162 with
                            | zero => intro M p162_3 u162_120_59 u162_120_62 u162_120_68 u162_120_75 u162_120_79 hS bp162_3 bu162_120_59 bu162_120_62 bu162_120_68 bu162_120_75 bu162_120_79 k162_120_59 k162_120_62 k162_120_64 k162_120_68 k162_120_75 k162_120_79 k162_126_1 k162_136_1 t162_0 t162_1 t162_2 t162_3 t162_4 hm162; exact absurd hm162 (Nat.not_lt_zero _)
                            | succ n162 J162 =>
                              intro M p162_3 u162_120_59 u162_120_62 u162_120_68 u162_120_75 u162_120_79 hS bp162_3 bu162_120_59 bu162_120_62 bu162_120_68 bu162_120_75 bu162_120_79 k162_120_59 k162_120_62 k162_120_64 k162_120_68 k162_120_75 k162_120_79 k162_126_1 k162_136_1 t162_0 t162_1 t162_2 t162_3 t162_4 hm162
                              refine Tr.iload_n (pc := 162) (i := 3) d_X12_runs_162 rfl rfl ?_
                              refine Tr.aload_n (pc := 163) (i := 0) d_X12_runs_163 rfl rfl ?_
                              refine Tr.getf (pc := 164) d_X12_runs_164 f_12_94 (by decide) (by decide) (ty_120 hS.1.1) ?_
                              refine Tr.tp 136 (fx_120_27 hS.1.1) ?_
                              refine Tr.aload_n (pc := 167) (i := 0) d_X12_runs_167 rfl rfl ?_
                              refine Tr.getf (pc := 168) d_X12_runs_168 f_12_48 (by decide) (by decide) (ty_120 hS.1.1) ?_
                              refine Tr.tp 1 ((St.kp hS (by decide) (by decide) (by decide)).trans en_120_12) ?_
                              refine Tr.iald (pc := 171) d_X12_runs_171 (ty_136 hS.1.1) (by omega) (by omega) ?_
                              refine Tr.tp g136_1 k162_136_1 ?_
                              have J317 : ∀ (M : Mem), St Tb1 ws_X12_runs_120_w3 as_X12_runs_120_w3 M0 M → rd M 120 59 = u162_120_59 → rd M 120 62 = u162_120_62 → rd M 120 64 = a1 → rd M 120 68 = u162_120_68 → rd M 120 75 = u162_120_75 → rd M 120 79 = u162_120_79 → rd M 126 1 = g126_1 → rd M 136 1 = g136_1 → (u162_120_62 ≤ 2000) → (u162_120_59 = -1) → Tr l K 7 mX12_runs 317 [(0, (2, 120))] [] M (q_X12_runs_120_w3 a1 M0) := by
                                intro M  hS  k317_120_59 k317_120_62 k317_120_64 k317_120_68 k317_120_75 k317_120_79 k317_126_1 k317_136_1 t317_0 t317_1
                                refine Tr.aload_n (pc := 317) (i := 0) d_X12_runs_317 rfl rfl ?_
                                refine Tr.getf (pc := 318) d_X12_runs_318 f_12_219 (by decide) (by decide) (ty_120 hS.1.1) ?_
                                refine Tr.tp u162_120_68 k317_120_68 ?_
                                refine Tr.if_le (pc := 321) (tgt := 329) d_X12_runs_321 rfl (fun c321 => ?_) (fun c321 => ?_)
                                · refine Tr.iconst (pc := 329) d_X12_runs_329 (by decide) ?_
                                  refine Tr.istore (pc := 330) (i := 4) (ls2 := [(4, (0, 1)), (0, (2, 120))]) d_X12_runs_330 (by decide) rfl ?_
                                  have J332 : ∀ (n332 : Nat) (M : Mem) (p332_4 u332_120_62 : Int), St Tb1 ws_X12_runs_120_w3 as_X12_runs_120_w3 M0 M → (0 ≤ p332_4 ∧ p332_4 ≤ 1) → (0 ≤ u332_120_62 ∧ u332_120_62 ≤ 2060) → rd M 120 59 = u162_120_59 → rd M 120 62 = u332_120_62 → rd M 120 64 = a1 → rd M 120 68 = u162_120_68 → rd M 120 75 = u162_120_75 → rd M 120 79 = u162_120_79 → rd M 126 1 = g126_1 → rd M 136 1 = g136_1 → (u162_120_68 = 0) → (u332_120_62 ≤ 2050) → (u162_120_59 = -1) → (∀ p : Int, 0 ≤ p → p < rd M 126 1 → rd M 156 p = 0 → rd M 158 p ≤ 2050 - u332_120_62) → (2 * (2060 - u332_120_62) + p332_4).toNat < n332 → Tr l K 7 mX12_runs 332 [(0, (2, 120)), (4, (0, p332_4))] [] M (q_X12_runs_120_w3 a1 M0) := by
                                    intro n332
                                    induction n332 with
                                    | zero => intro M p332_4 u332_120_62 hS bp332_4 bu332_120_62 k332_120_59 k332_120_62 k332_120_64 k332_120_68 k332_120_75 k332_120_79 k332_126_1 k332_136_1 t332_0 t332_1 t332_2 tp332_0 hm332; exact absurd hm332 (Nat.not_lt_zero _)
                                    | succ n332 J332 =>
                                      intro M p332_4 u332_120_62 hS bp332_4 bu332_120_62 k332_120_59 k332_120_62 k332_120_64 k332_120_68 k332_120_75 k332_120_79 k332_126_1 k332_136_1 t332_0 t332_1 t332_2 tp332_0 hm332
                                      refine Tr.iload (pc := 332) (i := 4) d_X12_runs_332 rfl ?_
                                      refine Tr.if_eq (pc := 334) (tgt := 409) d_X12_runs_334 rfl (fun c334 => ?_) (fun c334 => ?_)
                                      · refine Tr.iconst (pc := 409) d_X12_runs_409 (by decide) ?_
                                        have kr_120_59 : rd M 120 59 = u162_120_59 := k332_120_59
                                        have hS := hS.wk
                                        exact Tr.iret (pc := 410) d_X12_runs_410 rfl ⟨hS, _, rfl, by omega, by omega, by omega⟩
                                      · refine Tr.iconst (pc := 337) d_X12_runs_337 (by decide) ?_
                                        refine Tr.istore (pc := 338) (i := 4) (ls2 := [(4, (0, 0)), (0, (2, 120))]) d_X12_runs_338 (by decide) rfl ?_
                                        refine Tr.iconst (pc := 340) d_X12_runs_340 (by decide) ?_
                                        refine Tr.istore (pc := 341) (i := 5) (ls2 := [(5, (0, 0)), (4, (0, 0)), (0, (2, 120))]) d_X12_runs_341 (by decide) rfl ?_
                                        have J343 : ∀ (n343 : Nat) (M : Mem) (p343_4 p343_5 : Int), St Tb1 ws_X12_runs_120_w3 as_X12_runs_120_w3 M0 M → (0 ≤ p343_4 ∧ p343_4 ≤ 1) → (0 ≤ p343_5 ∧ p343_5 ≤ 6) → rd M 120 59 = u162_120_59 → rd M 120 62 = u332_120_62 → rd M 120 64 = a1 → rd M 120 68 = u162_120_68 → rd M 120 75 = u162_120_75 → rd M 120 79 = u162_120_79 → rd M 126 1 = g126_1 → rd M 136 1 = g136_1 → (u162_120_68 = 0) → (u332_120_62 ≤ 2050) → (u162_120_59 = -1) → (p343_4 = 0 ∨ u332_120_62 ≤ 2049) → (∀ p : Int, 0 ≤ p → p < rd M 126 1 → rd M 156 p = 0 → rd M 158 p ≤ 2050 - u332_120_62) → (6 - p343_5).toNat < n343 → Tr l K 7 mX12_runs 343 [(0, (2, 120)), (4, (0, p343_4)), (5, (0, p343_5))] [] M (q_X12_runs_120_w3 a1 M0) := by
                                          intro n343
                                          induction n343 with
                                          | zero => intro M p343_4 p343_5 hS bp343_4 bp343_5 k343_120_59 k343_120_62 k343_120_64 k343_120_68 k343_120_75 k343_120_79 k343_126_1 k343_136_1 t343_0 t343_1 t343_2 t343_3 tp343_0 hm343; exact absurd hm343 (Nat.not_lt_zero _)
                                          | succ n343 J343 =>
                                            intro M p343_4 p343_5 hS bp343_4 bp343_5 k343_120_59 k343_120_62 k343_120_64 k343_120_68 k343_120_75 k343_120_79 k343_126_1 k343_136_1 t343_0 t343_1 t343_2 t343_3 tp343_0 hm343
                                            refine Tr.iload (pc := 343) (i := 5) d_X12_runs_343 rfl ?_
                                            refine Tr.aload_n (pc := 345) (i := 0) d_X12_runs_345 rfl rfl ?_
                                            refine Tr.getf (pc := 346) d_X12_runs_346 f_12_63 (by decide) (by decide) (ty_120 hS.1.1) ?_
                                            refine Tr.tp 126 (fx_120_17 hS.1.1) ?_
                                            refine Tr.aload_n (pc := 349) (i := 0) d_X12_runs_349 rfl rfl ?_
                                            refine Tr.getf (pc := 350) d_X12_runs_350 f_12_48 (by decide) (by decide) (ty_120 hS.1.1) ?_
                                            refine Tr.tp 1 ((St.kp hS (by decide) (by decide) (by decide)).trans en_120_12) ?_
                                            refine Tr.iald (pc := 353) d_X12_runs_353 (ty_126 hS.1.1) (by omega) (by omega) ?_
                                            refine Tr.tp g126_1 k343_126_1 ?_
                                            refine Tr.icmp_ge (pc := 354) (tgt := 395) d_X12_runs_354 rfl (fun c354 => ?_) (fun c354 => ?_)
                                            · refine Tr.iload (pc := 395) (i := 4) d_X12_runs_395 rfl ?_
                                              refine Tr.if_eq (pc := 397) (tgt := 332) d_X12_runs_397 rfl (fun c397 => ?_) (fun c397 => ?_)
                                              · refine Tr.pick [0, 1] (ls2 := [(0, (2, 120)), (4, (0, p343_4))]) rfl ?_
                                                exact J332 _ _ _ hS (by omega) (by omega) k343_120_59 k343_120_62 k343_120_64 k343_120_68 k343_120_75 k343_120_79 k343_126_1 k343_136_1 (by omega) (by omega) (by omega) tp343_0 (by omega)
                                              · refine Tr.aload_n (pc := 400) (i := 0) d_X12_runs_400 rfl rfl ?_
                                                refine Tr.iconst (pc := 401) d_X12_runs_401 (by decide) ?_
                                                refine Tr.callV (pc := 402) (as := [_]) d_X12_runs_402 s_12_577 ok_X12_tick rfl rfl (Nat.le_of_ble_eq_true rfl) (Nat.le_of_ble_eq_true rfl) (by decide) (ty_120 hS.1.1) ?_
                                                have kb402_120_59 : rd M 120 59 = u162_120_59 := k343_120_59
                                                obtain ⟨w402_120_61, ew402_120_61⟩ : ∃ v, rd M 120 61 = v := ⟨_, rfl⟩
                                                have bw402_120_61 : 0 ≤ w402_120_61 ∧ w402_120_61 ≤ 3 := by rw [← ew402_120_61]; exact ir_120_61 hS.1.2.1
                                                have kb402_120_61 : rd M 120 61 = w402_120_61 := ew402_120_61
                                                have kb402_120_62 : rd M 120 62 = u332_120_62 := k343_120_62
                                                have kb402_120_68 : rd M 120 68 = u162_120_68 := k343_120_68
                                                refine Tr.imp (Tr.deep (by decide) (sp_X12_tick_120_w3 hS.1 ((St.kp hS (by decide) (by decide) (by decide)).trans en_120_12) (-1) (by omega) (by omega) (by omega) (by omega) (Bk1.of hF_Bk1 (fun j => (St.ka hS (by decide) (by decide) (by decide))) (fun j => (St.ka hS (by decide) (by decide) (by decide))) (fun j => (St.ka hS (by decide) (by decide) (by decide))) (fun j => (St.ka hS (by decide) (by decide) (by decide))) (fun j => (St.ka hS (by decide) (by decide) (by decide))) (fun j => (St.ka hS (by decide) (by decide) (by decide))) (fun j => (St.ka hS (by decide) (by decide) (by decide))) (fun j => (St.ka hS (by decide) (by decide) (by decide))) (St.kp hS (by decide) (by decide) (by decide)) (St.kp hS (by decide) (by decide) (by decide)) (St.kp hS (by decide) (by decide) (by decide)) (St.kp hS (by decide) (by decide) (by decide))))) ?_
                                                rintro M402 _ ⟨h402, r402, rfl, lr402, ur402, z402_0, z402_1, z402_2, z402_3⟩
                                                have hS := St.tr hS h402 (by decide) (by decide)
                                                have ka402_120_59 : rd M402 120 59 = u162_120_59 := ((St.kp h402 (by decide) (by decide) (by decide)).trans k343_120_59)
                                                obtain ⟨s402_120_62, es402_120_62⟩ : ∃ v, rd M402 120 62 = v := ⟨_, rfl⟩
                                                have bs402_120_62 : 0 ≤ s402_120_62 ∧ s402_120_62 ≤ 2060 := by rw [← es402_120_62]; exact ir_120_62 hS.1.2.1
                                                have ka402_120_68 : rd M402 120 68 = u162_120_68 := ((St.kp h402 (by decide) (by decide) (by decide)).trans k343_120_68)
                                                refine Tr.sc [(0, r402)] rfl ?_
                                                refine Tr.pop (pc := 405) d_X12_runs_405 ne01 ?_
                                                refine Tr.goto (pc := 406) (tgt := 332) d_X12_runs_406 rfl ?_
                                                refine Tr.pick [0, 1] (ls2 := [(0, (2, 120)), (4, (0, p343_4))]) rfl ?_
                                                exact J332 _ _ _ hS (by omega) (by omega) ((St.kp h402 (by decide) (by decide) (by decide)).trans k343_120_59) es402_120_62 ((St.kp h402 (by decide) (by decide) (by decide)).trans k343_120_64) ((St.kp h402 (by decide) (by decide) (by decide)).trans k343_120_68) ((St.kp h402 (by decide) (by decide) (by decide)).trans k343_120_75) ((St.kp h402 (by decide) (by decide) (by decide)).trans k343_120_79) ((St.kp h402 (by decide) (by decide) (by decide)).trans k343_126_1) ((St.kp h402 (by decide) (by decide) (by decide)).trans k343_136_1) (by omega) (by omega) (by omega) (fun p p0 p1 p2 => by have h8 := z402_3 (by omega) (2050 - u332_120_62) (by omega) tp343_0 p p0 p1 p2; omega) (by omega)
                                            · refine Tr.iload (pc := 357) (i := 4) d_X12_runs_357 rfl ?_
                                              have J387 : ∀ (M : Mem) (q387_0 : Int), St Tb1 ws_X12_runs_120_w3 as_X12_runs_120_w3 M0 M → (0 ≤ q387_0 ∧ q387_0 ≤ 1) → rd M 120 59 = u162_120_59 → rd M 120 62 = u332_120_62 → rd M 120 64 = a1 → rd M 120 68 = u162_120_68 → rd M 120 75 = u162_120_75 → rd M 120 79 = u162_120_79 → rd M 126 1 = g126_1 → rd M 136 1 = g136_1 → (u162_120_68 = 0) → (u332_120_62 ≤ 2050) → (u162_120_59 = -1) → (q387_0 = 0 ∨ u332_120_62 ≤ 2049) → (∀ p : Int, 0 ≤ p → p < rd M 126 1 → rd M 156 p = 0 → rd M 158 p ≤ 2050 - u332_120_62) → Tr l K 7 mX12_runs 387 [(0, (2, 120)), (5, (0, p343_5))] [(0, q387_0)] M (q_X12_runs_120_w3 a1 M0) := by
                                                intro M q387_0 hS bq387_0 k387_120_59 k387_120_62 k387_120_64 k387_120_68 k387_120_75 k387_120_79 k387_126_1 k387_136_1 t387_0 t387_1 t387_2 t387_3 tp387_0
                                                refine Tr.istore (pc := 387) (i := 4) (ls2 := [(4, (0, q387_0)), (0, (2, 120)), (5, (0, p343_5))]) d_X12_runs_387 (by decide) rfl ?_
                                                refine Tr.iincV (pc := 389) (n2 := (p343_5 + 1)) (ls2 := [(5, (0, (p343_5 + 1))), (4, (0, q387_0)), (0, (2, 120))]) d_X12_runs_389 rfl (by decide) ((w32_id (by omega)).trans (by omega)) rfl ?_
                                                refine Tr.goto (pc := 392) (tgt := 343) d_X12_runs_392 rfl ?_
                                                refine Tr.pick [2, 1, 0] (ls2 := [(0, (2, 120)), (4, (0, q387_0)), (5, (0, (p343_5 + 1)))]) rfl ?_
                                                exact J343 _ _ _ hS (by omega) (by omega) k387_120_59 k387_120_62 k387_120_64 k387_120_68 k387_120_75 k387_120_79 k387_126_1 k387_136_1 (by omega) (by omega) (by omega) (by first | assumption | omega) tp387_0 (by omega)
                                              have J382 : ∀ (M : Mem), St Tb1 ws_X12_runs_120_w3 as_X12_runs_120_w3 M0 M → rd M 120 59 = u162_120_59 → rd M 120 62 = u332_120_62 → rd M 120 64 = a1 → rd M 120 68 = u162_120_68 → rd M 120 75 = u162_120_75 → rd M 120 79 = u162_120_79 → rd M 126 1 = g126_1 → rd M 136 1 = g136_1 → (u162_120_68 = 0) → (u332_120_62 ≤ 2050) → (u162_120_59 = -1) → (u332_120_62 ≤ 2049) → (∀ p : Int, 0 ≤ p → p < rd M 126 1 → rd M 156 p = 0 → rd M 158 p ≤ 2050 - u332_120_62) → Tr l K 7 mX12_runs 382 [(0, (2, 120)), (5, (0, p343_5))] [] M (q_X12_runs_120_w3 a1 M0) := by
                                                intro M  hS  k382_120_59 k382_120_62 k382_120_64 k382_120_68 k382_120_75 k382_120_79 k382_126_1 k382_136_1 t382_0 t382_1 t382_2 t382_3 tp382_0
                                                refine Tr.iconst (pc := 382) d_X12_runs_382 (by decide) ?_
                                                refine Tr.goto (pc := 383) (tgt := 387) d_X12_runs_383 rfl ?_
                                                refine Tr.pick [0, 1] (ls2 := [(0, (2, 120)), (5, (0, p343_5))]) rfl ?_
                                                exact J387 _ _ hS (by omega) k382_120_59 k382_120_62 k382_120_64 k382_120_68 k382_120_75 k382_120_79 k382_126_1 k382_136_1 (by omega) (by omega) (by omega) (by first | assumption | omega) tp382_0
                                              refine Tr.if_ne (pc := 359) (tgt := 382) d_X12_runs_359 rfl (fun c359 => ?_) (fun c359 => ?_)
                                              · refine Tr.pick [0, 2] (ls2 := [(0, (2, 120)), (5, (0, p343_5))]) rfl ?_
                                                exact J382 _ hS k343_120_59 k343_120_62 k343_120_64 k343_120_68 k343_120_75 k343_120_79 k343_126_1 k343_136_1 (by omega) (by omega) (by omega) (by omega) tp343_0
                                              · refine Tr.aload_n (pc := 362) (i := 0) d_X12_runs_362 rfl rfl ?_
                                                refine Tr.getf (pc := 363) d_X12_runs_363 f_12_177 (by decide) (by decide) (ty_120 hS.1.1) ?_
                                                refine Tr.tp 156 (fx_120_54 hS.1.1) ?_
                                                refine Tr.iload (pc := 366) (i := 5) d_X12_runs_366 rfl ?_
                                                refine Tr.zald (pc := 368) d_X12_runs_368 (ty_156 hS.1.1) (by omega) (by omega) ?_
                                                refine Tr.gen (P := fun v => 0 ≤ v ∧ v ≤ 1) (ar_156 hS.1.2.1 _) (fun r368 er368 br368 => ?_)
                                                have J386 : ∀ (M : Mem), St Tb1 ws_X12_runs_120_w3 as_X12_runs_120_w3 M0 M → rd M 120 59 = u162_120_59 → rd M 120 62 = u332_120_62 → rd M 120 64 = a1 → rd M 120 68 = u162_120_68 → rd M 120 75 = u162_120_75 → rd M 120 79 = u162_120_79 → rd M 126 1 = g126_1 → rd M 136 1 = g136_1 → rd M 156 p343_5 = r368 → (u162_120_68 = 0) → (u332_120_62 ≤ 2050) → (u162_120_59 = -1) → (∀ p : Int, 0 ≤ p → p < rd M 126 1 → rd M 156 p = 0 → rd M 158 p ≤ 2050 - u332_120_62) → Tr l K 7 mX12_runs 386 [(0, (2, 120)), (5, (0, p343_5))] [] M (q_X12_runs_120_w3 a1 M0) := by
                                                  intro M  hS  k386_120_59 k386_120_62 k386_120_64 k386_120_68 k386_120_75 k386_120_79 k386_126_1 k386_136_1 k386_156_p343_510 t386_0 t386_1 t386_2 tp386_0
                                                  refine Tr.iconst (pc := 386) d_X12_runs_386 (by decide) ?_
                                                  refine Tr.pick [0, 1] (ls2 := [(0, (2, 120)), (5, (0, p343_5))]) rfl ?_
                                                  exact J387 _ _ hS (by omega) k386_120_59 k386_120_62 k386_120_64 k386_120_68 k386_120_75 k386_120_79 k386_126_1 k386_136_1 (by omega) (by omega) (by omega) (by first | assumption | omega) tp386_0
                                                refine Tr.if_ne (pc := 369) (tgt := 386) d_X12_runs_369 rfl (fun c369 => ?_) (fun c369 => ?_)
                                                · refine Tr.pick [0, 2] (ls2 := [(0, (2, 120)), (5, (0, p343_5))]) rfl ?_
                                                  exact J386 _ hS k343_120_59 k343_120_62 k343_120_64 k343_120_68 k343_120_75 k343_120_79 k343_126_1 k343_136_1 er368 (by omega) (by omega) (by omega) tp343_0
                                                · refine Tr.aload_n (pc := 372) (i := 0) d_X12_runs_372 rfl rfl ?_
                                                  refine Tr.getf (pc := 373) d_X12_runs_373 f_12_183 (by decide) (by decide) (ty_120 hS.1.1) ?_
                                                  refine Tr.tp 158 (fx_120_56 hS.1.1) ?_
                                                  refine Tr.iload (pc := 376) (i := 5) d_X12_runs_376 rfl ?_
                                                  refine Tr.iald (pc := 378) d_X12_runs_378 (ty_158 hS.1.1) (by omega) (by omega) ?_
                                                  refine Tr.gen (P := fun v => ((-2147483648) ≤ v ∧ v ≤ 2147483647) ∧ v ≤ 2050 - u332_120_62) (by have h9 := (ar_158 hS.1.2.1 (p343_5)); have e8 := k343_126_1; have h8 := tp343_0 p343_5 (by omega) (by omega) (by omega); omega) (fun r378 er378 br378 => ?_)
                                                  refine Tr.if_le (pc := 379) (tgt := 386) d_X12_runs_379 rfl (fun c379 => ?_) (fun c379 => ?_)
                                                  · refine Tr.pick [0, 2] (ls2 := [(0, (2, 120)), (5, (0, p343_5))]) rfl ?_
                                                    exact J386 _ hS k343_120_59 k343_120_62 k343_120_64 k343_120_68 k343_120_75 k343_120_79 k343_126_1 k343_136_1 er368 (by omega) (by omega) (by omega) tp343_0
                                                  · refine Tr.pick [0, 2] (ls2 := [(0, (2, 120)), (5, (0, p343_5))]) rfl ?_
                                                    exact J382 _ hS k343_120_59 k343_120_62 k343_120_64 k343_120_68 k343_120_75 k343_120_79 k343_126_1 k343_136_1 (by omega) (by omega) (by omega) (by omega) tp343_0
                                        refine Tr.pick [2, 1, 0] (ls2 := [(0, (2, 120)), (4, (0, 0)), (5, (0, 0))]) rfl ?_
                                        exact J343 _ _ _ _ hS (by omega) (by omega) k332_120_59 k332_120_62 k332_120_64 k332_120_68 k332_120_75 k332_120_79 k332_126_1 k332_136_1 (by omega) (by omega) (by omega) (by first | assumption | omega) tp332_0 (Nat.lt_succ_self _)
                                  refine Tr.pick [1, 0] (ls2 := [(0, (2, 120)), (4, (0, 1))]) rfl ?_
                                  exact J332 _ _ _ _ hS (by omega) (by omega) k317_120_59 k317_120_62 k317_120_64 k317_120_68 k317_120_75 k317_120_79 k317_126_1 k317_136_1 (by omega) (by omega) (by omega) (fun p p0 p1 _ => by have h8 := hS.1.2.2.2.2 p p0 p1; omega) (Nat.lt_succ_self _)
                                · refine Tr.aload_n (pc := 324) (i := 0) d_X12_runs_324 rfl rfl ?_
                                  refine Tr.getf (pc := 325) d_X12_runs_325 f_12_219 (by decide) (by decide) (ty_120 hS.1.1) ?_
                                  refine Tr.tp u162_120_68 k317_120_68 ?_
                                  have kr_120_59 : rd M 120 59 = u162_120_59 := k317_120_59
                                  have hS := hS.wk
                                  exact Tr.iret (pc := 328) d_X12_runs_328 rfl ⟨hS, _, rfl, by omega, by omega, by omega⟩
                              refine Tr.icmp_ge (pc := 172) (tgt := 317) d_X12_runs_172 rfl (fun c172 => ?_) (fun c172 => ?_)
                              · refine Tr.pick [0] (ls2 := [(0, (2, 120))]) rfl ?_
                                exact J317 _ hS k162_120_59 k162_120_62 k162_120_64 k162_120_68 k162_120_75 k162_120_79 k162_126_1 k162_136_1 (by omega) (by omega)
                              · refine Tr.aload_n (pc := 175) (i := 0) d_X12_runs_175 rfl rfl ?_
                                refine Tr.getf (pc := 176) d_X12_runs_176 f_12_219 (by decide) (by decide) (ty_120 hS.1.1) ?_
                                refine Tr.tp u162_120_68 k162_120_68 ?_
                                refine Tr.if_ne (pc := 179) (tgt := 317) d_X12_runs_179 rfl (fun c179 => ?_) (fun c179 => ?_)
                                · refine Tr.pick [0] (ls2 := [(0, (2, 120))]) rfl ?_
                                  exact J317 _ hS k162_120_59 k162_120_62 k162_120_64 k162_120_68 k162_120_75 k162_120_79 k162_126_1 k162_136_1 (by omega) (by omega)
                                · refine Tr.sipush (pc := 182) d_X12_runs_182 rfl (by decide) ?_
                                  refine Tr.aload_n (pc := 185) (i := 0) d_X12_runs_185 rfl rfl ?_
                                  refine Tr.getf (pc := 186) d_X12_runs_186 f_12_48 (by decide) (by decide) (ty_120 hS.1.1) ?_
                                  refine Tr.tp 1 ((St.kp hS (by decide) (by decide) (by decide)).trans en_120_12) ?_
                                  refine Tr.imul (pc := 189) d_X12_runs_189 ?_
                                  refine Tr.tp 200 (by decide) ?_
                                  refine Tr.iload_n (pc := 190) (i := 3) d_X12_runs_190 rfl rfl ?_
                                  refine Tr.iadd (pc := 191) d_X12_runs_191 ?_
                                  refine Tr.tp (p162_3 + 200) ((w32_id (by omega)).trans (by omega)) ?_
                                  refine Tr.istore (pc := 192) (i := 4) (ls2 := [(4, (0, (p162_3 + 200))), (0, (2, 120)), (3, (0, p162_3))]) d_X12_runs_192 (by decide) rfl ?_
                                  refine Tr.iincV (pc := 194) (n2 := (p162_3 + 1)) (ls2 := [(3, (0, (p162_3 + 1))), (4, (0, (p162_3 + 200))), (0, (2, 120))]) d_X12_runs_194 rfl (by decide) ((w32_id (by omega)).trans (by omega)) rfl ?_
                                  refine Tr.aload_n (pc := 197) (i := 0) d_X12_runs_197 rfl rfl ?_
                                  refine Tr.getf (pc := 198) d_X12_runs_198 f_12_97 (by decide) (by decide) (ty_120 hS.1.1) ?_
                                  refine Tr.tp 137 (fx_120_28 hS.1.1) ?_
                                  refine Tr.iload (pc := 201) (i := 4) d_X12_runs_201 rfl ?_
                                  refine Tr.iald (pc := 203) d_X12_runs_203 (ty_137 hS.1.1) (by omega) (by omega) ?_
                                  refine Tr.gen (P := fun v => 0 ≤ v ∧ v ≤ 8) (ar_137 hS.1.2.1 _) (fun r203 er203 br203 => ?_)
                                  refine Tr.if_ne (pc := 204) (tgt := 218) d_X12_runs_204 rfl (fun c204 => ?_) (fun c204 => ?_)
                                  · refine Tr.aload_n (pc := 218) (i := 0) d_X12_runs_218 rfl rfl ?_
                                    refine Tr.aload_n (pc := 219) (i := 0) d_X12_runs_219 rfl rfl ?_
                                    refine Tr.getf (pc := 220) d_X12_runs_220 f_12_100 (by decide) (by decide) (ty_120 hS.1.1) ?_
                                    refine Tr.tp 138 (fx_120_29 hS.1.1) ?_
                                    refine Tr.iload (pc := 223) (i := 4) d_X12_runs_223 rfl ?_
                                    refine Tr.iald (pc := 225) d_X12_runs_225 (ty_138 hS.1.1) (by omega) (by omega) ?_
                                    refine Tr.gen (P := fun v => 0 ≤ v ∧ v ≤ 59) (by have h9 := (ar_138 hS.1.2.1 ((p162_3 + 200))); have e8 := k162_136_1; have e7 := er203; have h8 := Bk1_ln (Bk1.of hF_Bk1 (fun j => (St.ka hS (by decide) (by decide) (by decide))) (fun j => (St.ka hS (by decide) (by decide) (by decide))) (fun j => (St.ka hS (by decide) (by decide) (by decide))) (fun j => (St.ka hS (by decide) (by decide) (by decide))) (fun j => (St.ka hS (by decide) (by decide) (by decide))) (fun j => (St.ka hS (by decide) (by decide) (by decide))) (fun j => (St.ka hS (by decide) (by decide) (by decide))) (fun j => (St.ka hS (by decide) (by decide) (by decide))) (St.kp hS (by decide) (by decide) (by decide)) (St.kp hS (by decide) (by decide) (by decide)) (St.kp hS (by decide) (by decide) (by decide)) (St.kp hS (by decide) (by decide) (by decide))) (i := (p162_3 + 200)) (by omega) (by omega) (by omega); omega) (fun r225 er225 br225 => ?_)
                                    refine Tr.callV (pc := 226) (as := [_]) d_X12_runs_226 s_12_577 ok_X12_tick rfl rfl (Nat.le_of_ble_eq_true rfl) (Nat.le_of_ble_eq_true rfl) (by decide) (ty_120 hS.1.1) ?_
                                    have kb226_120_59 : rd M 120 59 = u162_120_59 := k162_120_59
                                    obtain ⟨w226_120_61, ew226_120_61⟩ : ∃ v, rd M 120 61 = v := ⟨_, rfl⟩
                                    have bw226_120_61 : 0 ≤ w226_120_61 ∧ w226_120_61 ≤ 3 := by rw [← ew226_120_61]; exact ir_120_61 hS.1.2.1
                                    have kb226_120_61 : rd M 120 61 = w226_120_61 := ew226_120_61
                                    have kb226_120_62 : rd M 120 62 = u162_120_62 := k162_120_62
                                    have kb226_120_68 : rd M 120 68 = u162_120_68 := k162_120_68
                                    refine Tr.imp (Tr.deep (by decide) (sp_X12_tick_120_w2 hS.1 ((St.kp hS (by decide) (by decide) (by decide)).trans en_120_12) r225 (by omega) (by omega) (by omega) (Bk1.of hF_Bk1 (fun j => (St.ka hS (by decide) (by decide) (by decide))) (fun j => (St.ka hS (by decide) (by decide) (by decide))) (fun j => (St.ka hS (by decide) (by decide) (by decide))) (fun j => (St.ka hS (by decide) (by decide) (by decide))) (fun j => (St.ka hS (by decide) (by decide) (by decide))) (fun j => (St.ka hS (by decide) (by decide) (by decide))) (fun j => (St.ka hS (by decide) (by decide) (by decide))) (fun j => (St.ka hS (by decide) (by decide) (by decide))) (St.kp hS (by decide) (by decide) (by decide)) (St.kp hS (by decide) (by decide) (by decide)) (St.kp hS (by decide) (by decide) (by decide)) (St.kp hS (by decide) (by decide) (by decide))))) ?_
                                    rintro M226 _ ⟨h226, r226, rfl, lr226, ur226, z226_0, z226_1, z226_2⟩
                                    have hS := St.tr hS h226 (by decide) (by decide)
                                    have ka226_120_59 : rd M226 120 59 = u162_120_59 := ((St.kp h226 (by decide) (by decide) (by decide)).trans k162_120_59)
                                    obtain ⟨s226_120_62, es226_120_62⟩ : ∃ v, rd M226 120 62 = v := ⟨_, rfl⟩
                                    have bs226_120_62 : 0 ≤ s226_120_62 ∧ s226_120_62 ≤ 2060 := by rw [← es226_120_62]; exact ir_120_62 hS.1.2.1
                                    obtain ⟨s226_120_68, es226_120_68⟩ : ∃ v, rd M226 120 68 = v := ⟨_, rfl⟩
                                    have bs226_120_68 : 0 ≤ s226_120_68 ∧ s226_120_68 ≤ 2 := by rw [← es226_120_68]; exact ir_120_68 hS.1.2.1
                                    refine Tr.sc [(0, r226)] rfl ?_
                                    refine Tr.istore (pc := 229) (i := 5) (ls2 := [(5, (0, r226)), (3, (0, (p162_3 + 1))), (4, (0, (p162_3 + 200))), (0, (2, 120))]) d_X12_runs_229 (by decide) rfl ?_
                                    refine Tr.iload (pc := 231) (i := 5) d_X12_runs_231 rfl ?_
                                    have J246 : ∀ (M : Mem), St Tb1 ws_X12_runs_120_w3 as_X12_runs_120_w3 M0 M → rd M 120 59 = u162_120_59 → rd M 120 61 = w226_120_61 → rd M 120 62 = s226_120_62 → rd M 120 64 = a1 → rd M 120 68 = s226_120_68 → rd M 120 75 = u162_120_75 → rd M 120 79 = u162_120_79 → rd M 126 1 = g126_1 → rd M 136 1 = g136_1 → rd M 137 (p162_3 + 200) = r203 → rd M 138 (p162_3 + 200) = r225 → (s226_120_62 ≤ 2000) → (u162_120_59 = -1) → (0 ≤ (p162_3 + 1) ∧ (p162_3 + 1) ≤ 200) → ((r226 = 1 ∧ u162_120_75 + 1 ≤ s226_120_62 ∧ u162_120_79 + 1 ≤ s226_120_62 ∧ s226_120_62 = u162_120_62 + 1) ∨ (r226 = 0 ∧ u162_120_75 ≤ s226_120_62 ∧ u162_120_79 ≤ s226_120_62 ∧ 1 ≤ s226_120_68 ∧ s226_120_62 = u162_120_62)) → Tr l K 7 mX12_runs 246 [(0, (2, 120)), (3, (0, (p162_3 + 1))), (4, (0, (p162_3 + 200))), (5, (0, r226))] [] M (q_X12_runs_120_w3 a1 M0) := by
                                      intro M  hS  k246_120_59 k246_120_61 k246_120_62 k246_120_64 k246_120_68 k246_120_75 k246_120_79 k246_126_1 k246_136_1 k246_137_p162_31200 k246_138_p162_31200 t246_0 t246_1 t246_2 t246_3
                                      refine Tr.iload (pc := 246) (i := 5) d_X12_runs_246 rfl ?_
                                      have J298 : ∀ (M : Mem) (p298_3 p298_5 u298_120_59 u298_120_62 u298_120_68 u298_120_75 u298_120_79 : Int), St Tb1 ws_X12_runs_120_w3 as_X12_runs_120_w3 M0 M → (0 ≤ p298_3 ∧ p298_3 ≤ 200) → (0 ≤ p298_5 ∧ p298_5 ≤ 1) → ((-1) ≤ u298_120_59 ∧ u298_120_59 ≤ 5) → (0 ≤ u298_120_62 ∧ u298_120_62 ≤ 2060) → (0 ≤ u298_120_68 ∧ u298_120_68 ≤ 2) → (0 ≤ u298_120_75 ∧ u298_120_75 ≤ 2100) → (0 ≤ u298_120_79 ∧ u298_120_79 ≤ 2100) → rd M 120 59 = u298_120_59 → rd M 120 62 = u298_120_62 → rd M 120 64 = a1 → rd M 120 68 = u298_120_68 → rd M 120 75 = u298_120_75 → rd M 120 79 = u298_120_79 → rd M 126 1 = g126_1 → rd M 136 1 = g136_1 → rd M 137 (p162_3 + 200) = r203 → rd M 138 (p162_3 + 200) = r225 → (u298_120_62 ≤ 2000) → (u298_120_59 = -1) → (0 ≤ p298_3 ∧ p298_3 ≤ 200) → (u298_120_75 ≤ u298_120_62 ∧ u298_120_79 ≤ u298_120_62) → ((1 ≤ u298_120_68 ∧ u162_120_62 ≤ u298_120_62) ∨ u162_120_62 + 1 ≤ u298_120_62) → Tr l K 7 mX12_runs 298 [(0, (2, 120)), (3, (0, p298_3)), (4, (0, (p162_3 + 200))), (5, (0, p298_5))] [] M (q_X12_runs_120_w3 a1 M0) := by
                                        intro M p298_3 p298_5 u298_120_59 u298_120_62 u298_120_68 u298_120_75 u298_120_79 hS bp298_3 bp298_5 bu298_120_59 bu298_120_62 bu298_120_68 bu298_120_75 bu298_120_79 k298_120_59 k298_120_62 k298_120_64 k298_120_68 k298_120_75 k298_120_79 k298_126_1 k298_136_1 k298_137_p162_31200 k298_138_p162_31200 t298_0 t298_1 t298_2 t298_3 t298_4
                                        refine Tr.iload (pc := 298) (i := 5) d_X12_runs_298 rfl ?_
                                        have J314 : ∀ (M : Mem), St Tb1 ws_X12_runs_120_w3 as_X12_runs_120_w3 M0 M → rd M 120 59 = u298_120_59 → rd M 120 62 = u298_120_62 → rd M 120 64 = a1 → rd M 120 68 = u298_120_68 → rd M 120 75 = u298_120_75 → rd M 120 79 = u298_120_79 → rd M 126 1 = g126_1 → rd M 136 1 = g136_1 → rd M 137 (p162_3 + 200) = r203 → rd M 138 (p162_3 + 200) = r225 → Tr l K 7 mX12_runs 314 [(0, (2, 120)), (3, (0, p298_3))] [] M (q_X12_runs_120_w3 a1 M0) := by
                                          intro M  hS  k314_120_59 k314_120_62 k314_120_64 k314_120_68 k314_120_75 k314_120_79 k314_126_1 k314_136_1 k314_137_p162_31200 k314_138_p162_31200
                                          refine Tr.goto (pc := 314) (tgt := 162) d_X12_runs_314 rfl ?_
                                          refine Tr.pick [0, 1] (ls2 := [(0, (2, 120)), (3, (0, p298_3))]) rfl ?_
                                          have jr := rkf_b (rd M0 137 (200 + p298_3)) (a := p298_3) (by omega) (by omega)
                                          have jo := rkf_b (rd M0 137 (200 + p162_3)) (a := p162_3) (by omega) (by omega)
                                          exact J162 _ _ _ _ _ _ _ hS (by omega) (by omega) (by omega) (by omega) (by omega) (by omega) k314_120_59 k314_120_62 k314_120_64 k314_120_68 k314_120_75 k314_120_79 k314_126_1 k314_136_1 (by omega) (by omega) (by omega) (by omega) (by omega) (by omega)
                                        refine Tr.if_ne (pc := 300) (tgt := 314) d_X12_runs_300 rfl (fun c300 => ?_) (fun c300 => ?_)
                                        · refine Tr.pick [0, 1] (ls2 := [(0, (2, 120)), (3, (0, p298_3))]) rfl ?_
                                          exact J314 _ hS k298_120_59 k298_120_62 k298_120_64 k298_120_68 k298_120_75 k298_120_79 k298_126_1 k298_136_1 k298_137_p162_31200 k298_138_p162_31200
                                        · refine Tr.aload_n (pc := 303) (i := 0) d_X12_runs_303 rfl rfl ?_
                                          refine Tr.aload_n (pc := 304) (i := 0) d_X12_runs_304 rfl rfl ?_
                                          refine Tr.getf (pc := 305) d_X12_runs_305 f_12_100 (by decide) (by decide) (ty_120 hS.1.1) ?_
                                          refine Tr.tp 138 (fx_120_29 hS.1.1) ?_
                                          refine Tr.iload (pc := 308) (i := 4) d_X12_runs_308 rfl ?_
                                          refine Tr.iald (pc := 310) d_X12_runs_310 (ty_138 hS.1.1) (by omega) (by omega) ?_
                                          refine Tr.tp r225 k298_138_p162_31200 ?_
                                          refine Tr.putfS (pc := 311) (P := St Tb1 ws_X12_runs_120_w3 as_X12_runs_120_w3 M0) d_X12_runs_311 f_12_267 (by decide) (by decide) (ty_120 hS.1.1) (st_120_84 hS (by decide) (by omega) (Tb1.of hS.1.2.2.2.2 (fun _ => rd_wb _ rfl) (rd_wb _ rfl))) (fun M311 hS w311 => ?_)
                                          refine Tr.pick [0, 1] (ls2 := [(0, (2, 120)), (3, (0, p298_3))]) rfl ?_
                                          exact J314 _ hS ((Wr.b w311 rfl).trans k298_120_59) ((Wr.b w311 rfl).trans k298_120_62) ((Wr.b w311 rfl).trans k298_120_64) ((Wr.b w311 rfl).trans k298_120_68) ((Wr.b w311 rfl).trans k298_120_75) ((Wr.b w311 rfl).trans k298_120_79) ((Wr.b w311 rfl).trans k298_126_1) ((Wr.b w311 rfl).trans k298_136_1) ((Wr.b w311 rfl).trans k298_137_p162_31200) ((Wr.b w311 rfl).trans k298_138_p162_31200)
                                      have J285 : ∀ (M : Mem), St Tb1 ws_X12_runs_120_w3 as_X12_runs_120_w3 M0 M → rd M 120 59 = u162_120_59 → rd M 120 61 = w226_120_61 → rd M 120 62 = s226_120_62 → rd M 120 64 = a1 → rd M 120 68 = s226_120_68 → rd M 120 75 = u162_120_75 → rd M 120 79 = u162_120_79 → rd M 126 1 = g126_1 → rd M 136 1 = g136_1 → rd M 137 (p162_3 + 200) = r203 → rd M 138 (p162_3 + 200) = r225 → (s226_120_62 ≤ 2000) → (u162_120_59 = -1) → (0 ≤ (p162_3 + 1) ∧ (p162_3 + 1) ≤ 200) → ((r226 = 1 ∧ u162_120_75 + 1 ≤ s226_120_62 ∧ u162_120_79 + 1 ≤ s226_120_62 ∧ s226_120_62 = u162_120_62 + 1) ∨ (r226 = 0 ∧ u162_120_75 ≤ s226_120_62 ∧ u162_120_79 ≤ s226_120_62 ∧ 1 ≤ s226_120_68 ∧ s226_120_62 = u162_120_62)) → Tr l K 7 mX12_runs 285 [(0, (2, 120)), (3, (0, (p162_3 + 1))), (4, (0, (p162_3 + 200))), (5, (0, r226))] [] M (q_X12_runs_120_w3 a1 M0) := by
                                        intro M  hS  k285_120_59 k285_120_61 k285_120_62 k285_120_64 k285_120_68 k285_120_75 k285_120_79 k285_126_1 k285_136_1 k285_137_p162_31200 k285_138_p162_31200 t285_0 t285_1 t285_2 t285_3
                                        refine Tr.iload (pc := 285) (i := 5) d_X12_runs_285 rfl ?_
                                        refine Tr.if_eq (pc := 287) (tgt := 298) d_X12_runs_287 rfl (fun c287 => ?_) (fun c287 => ?_)
                                        · refine Tr.pick [0, 1, 2, 3] (ls2 := [(0, (2, 120)), (3, (0, (p162_3 + 1))), (4, (0, (p162_3 + 200))), (5, (0, r226))]) rfl ?_
                                          exact J298 _ _ _ _ _ _ _ _ hS (by omega) (by omega) (by omega) (by omega) (by omega) (by omega) (by omega) k285_120_59 k285_120_62 k285_120_64 k285_120_68 k285_120_75 k285_120_79 k285_126_1 k285_136_1 k285_137_p162_31200 k285_138_p162_31200 (by omega) (by omega) (by omega) (by omega) (by first | assumption | omega)
                                        · refine Tr.aload_n (pc := 290) (i := 0) d_X12_runs_290 rfl rfl ?_
                                          refine Tr.iload (pc := 291) (i := 4) d_X12_runs_291 rfl ?_
                                          refine Tr.callV (pc := 293) (as := [_]) d_X12_runs_293 s_12_635 ok_X12_does rfl rfl (Nat.le_of_ble_eq_true rfl) (Nat.le_of_ble_eq_true rfl) (by decide) (ty_120 hS.1.1) ?_
                                          have kb293_120_59 : rd M 120 59 = u162_120_59 := k285_120_59
                                          have kb293_120_62 : rd M 120 62 = s226_120_62 := k285_120_62
                                          have kb293_120_75 : rd M 120 75 = u162_120_75 := k285_120_75
                                          have kb293_120_79 : rd M 120 79 = u162_120_79 := k285_120_79
                                          have kb293_136_1 : rd M 136 1 = g136_1 := k285_136_1
                                          have kp293_138 : rd M 138 (p162_3 + 200) = r225 := k285_138_p162_31200
                                          refine Tr.imp (Tr.deep (by decide) (sp_X12_does_120_w1 hS.1 ((St.kp hS (by decide) (by decide) (by decide)).trans en_120_12) (p162_3 + 200) (by omega) (by omega) (by omega) (by omega) (by omega) (by omega) (by omega) (Bk1.of hF_Bk1 (fun j => (St.ka hS (by decide) (by decide) (by decide))) (fun j => (St.ka hS (by decide) (by decide) (by decide))) (fun j => (St.ka hS (by decide) (by decide) (by decide))) (fun j => (St.ka hS (by decide) (by decide) (by decide))) (fun j => (St.ka hS (by decide) (by decide) (by decide))) (fun j => (St.ka hS (by decide) (by decide) (by decide))) (fun j => (St.ka hS (by decide) (by decide) (by decide))) (fun j => (St.ka hS (by decide) (by decide) (by decide))) (St.kp hS (by decide) (by decide) (by decide)) (St.kp hS (by decide) (by decide) (by decide)) (St.kp hS (by decide) (by decide) (by decide)) (St.kp hS (by decide) (by decide) (by decide))))) ?_
                                          rintro M293 _ ⟨h293, r293, rfl, lr293, ur293, z293_0, z293_1, z293_2, z293_3, z293_4⟩
                                          have hS := St.tr hS h293 (by decide) (by decide)
                                          obtain ⟨s293_120_59, es293_120_59⟩ : ∃ v, rd M293 120 59 = v := ⟨_, rfl⟩
                                          have bs293_120_59 : (-1) ≤ s293_120_59 ∧ s293_120_59 ≤ 5 := by rw [← es293_120_59]; exact ir_120_59 hS.1.2.1
                                          obtain ⟨s293_120_62, es293_120_62⟩ : ∃ v, rd M293 120 62 = v := ⟨_, rfl⟩
                                          have bs293_120_62 : 0 ≤ s293_120_62 ∧ s293_120_62 ≤ 2060 := by rw [← es293_120_62]; exact ir_120_62 hS.1.2.1
                                          obtain ⟨s293_120_68, es293_120_68⟩ : ∃ v, rd M293 120 68 = v := ⟨_, rfl⟩
                                          have bs293_120_68 : 0 ≤ s293_120_68 ∧ s293_120_68 ≤ 2 := by rw [← es293_120_68]; exact ir_120_68 hS.1.2.1
                                          obtain ⟨s293_120_75, es293_120_75⟩ : ∃ v, rd M293 120 75 = v := ⟨_, rfl⟩
                                          have bs293_120_75 : 0 ≤ s293_120_75 ∧ s293_120_75 ≤ 2100 := by rw [← es293_120_75]; exact ir_120_75 hS.1.2.1
                                          obtain ⟨s293_120_79, es293_120_79⟩ : ∃ v, rd M293 120 79 = v := ⟨_, rfl⟩
                                          have bs293_120_79 : 0 ≤ s293_120_79 ∧ s293_120_79 ≤ 2100 := by rw [← es293_120_79]; exact ir_120_79 hS.1.2.1
                                          refine Tr.sc [(0, r293)] rfl ?_
                                          refine Tr.istore (pc := 296) (i := 5) (ls2 := [(5, (0, r293)), (0, (2, 120)), (3, (0, (p162_3 + 1))), (4, (0, (p162_3 + 200)))]) d_X12_runs_296 (by decide) rfl ?_
                                          refine Tr.pick [1, 2, 3, 0] (ls2 := [(0, (2, 120)), (3, (0, (p162_3 + 1))), (4, (0, (p162_3 + 200))), (5, (0, r293))]) rfl ?_
                                          exact J298 _ _ _ _ _ _ _ _ hS (by omega) (by omega) (by omega) (by omega) (by omega) (by omega) (by omega) es293_120_59 es293_120_62 ((St.kp h293 (by decide) (by decide) (by decide)).trans k285_120_64) es293_120_68 es293_120_75 es293_120_79 ((St.kp h293 (by decide) (by decide) (by decide)).trans k285_126_1) ((St.kp h293 (by decide) (by decide) (by decide)).trans k285_136_1) ((St.ka h293 (by decide) (by decide) (by decide)).trans k285_137_p162_31200) ((St.ka h293 (by decide) (by decide) (by decide)).trans k285_138_p162_31200) (by omega) (by omega) (by omega) (by omega) (by first | assumption | omega)
                                      refine Tr.if_eq (pc := 248) (tgt := 285) d_X12_runs_248 rfl (fun c248 => ?_) (fun c248 => ?_)
                                      · refine Tr.pick [0, 1, 2, 3] (ls2 := [(0, (2, 120)), (3, (0, (p162_3 + 1))), (4, (0, (p162_3 + 200))), (5, (0, r226))]) rfl ?_
                                        exact J285 _ hS k246_120_59 k246_120_61 k246_120_62 k246_120_64 k246_120_68 k246_120_75 k246_120_79 k246_126_1 k246_136_1 k246_137_p162_31200 k246_138_p162_31200 (by omega) (by omega) (by omega) (by first | assumption | omega)
                                      · refine Tr.aload_n (pc := 251) (i := 0) d_X12_runs_251 rfl rfl ?_
                                        refine Tr.getf (pc := 252) d_X12_runs_252 f_12_97 (by decide) (by decide) (ty_120 hS.1.1) ?_
                                        refine Tr.tp 137 (fx_120_28 hS.1.1) ?_
                                        refine Tr.iload (pc := 255) (i := 4) d_X12_runs_255 rfl ?_
                                        refine Tr.iald (pc := 257) d_X12_runs_257 (ty_137 hS.1.1) (by omega) (by omega) ?_
                                        refine Tr.tp r203 k246_137_p162_31200 ?_
                                        refine Tr.bipush (pc := 258) d_X12_runs_258 rfl (by decide) ?_
                                        refine Tr.icmp_lt (pc := 260) (tgt := 285) d_X12_runs_260 rfl (fun c260 => ?_) (fun c260 => ?_)
                                        · refine Tr.pick [0, 1, 2, 3] (ls2 := [(0, (2, 120)), (3, (0, (p162_3 + 1))), (4, (0, (p162_3 + 200))), (5, (0, r226))]) rfl ?_
                                          exact J285 _ hS k246_120_59 k246_120_61 k246_120_62 k246_120_64 k246_120_68 k246_120_75 k246_120_79 k246_126_1 k246_136_1 k246_137_p162_31200 k246_138_p162_31200 (by omega) (by omega) (by omega) (by first | assumption | omega)
                                        · refine Tr.aload_n (pc := 263) (i := 0) d_X12_runs_263 rfl rfl ?_
                                          refine Tr.iload (pc := 264) (i := 4) d_X12_runs_264 rfl ?_
                                          refine Tr.callV (pc := 266) (as := [_]) d_X12_runs_266 s_12_614 ok_X12_works rfl rfl (Nat.le_of_ble_eq_true rfl) (Nat.le_of_ble_eq_true rfl) (by decide) (ty_120 hS.1.1) ?_
                                          have kb266_136_1 : rd M 136 1 = g136_1 := k246_136_1
                                          refine Tr.imp (Tr.deep (by decide) (sp_X12_works_120_w1 hS.1.wk ((St.kp hS (by decide) (by decide) (by decide)).trans en_120_12) (p162_3 + 200) (by omega) (by omega) (Bk1.of hF_Bk1 (fun j => (St.ka hS (by decide) (by decide) (by decide))) (fun j => (St.ka hS (by decide) (by decide) (by decide))) (fun j => (St.ka hS (by decide) (by decide) (by decide))) (fun j => (St.ka hS (by decide) (by decide) (by decide))) (fun j => (St.ka hS (by decide) (by decide) (by decide))) (fun j => (St.ka hS (by decide) (by decide) (by decide))) (fun j => (St.ka hS (by decide) (by decide) (by decide))) (fun j => (St.ka hS (by decide) (by decide) (by decide))) (St.kp hS (by decide) (by decide) (by decide)) (St.kp hS (by decide) (by decide) (by decide)) (St.kp hS (by decide) (by decide) (by decide)) (St.kp hS (by decide) (by decide) (by decide))))) ?_
                                          rintro M266 _ ⟨h266, r266, rfl, lr266, ur266⟩
                                          have h266 := St.rn h266 (Tb1.of hS.1.2.2.2.2 (fun _ => (St.ka h266 (by decide) (by decide) (by decide))) (St.kp h266 (by decide) (by decide) (by decide)))
                                          have hS := St.tr hS h266 (by decide) (by decide)
                                          refine Tr.sc [(1, r266)] rfl ?_
                                          refine Tr.lconst (pc := 269) (v := 0) d_X12_runs_269 rfl (by decide) ?_
                                          refine Tr.lcmp (pc := 270) d_X12_runs_270 ?_
                                          refine Tr.gen (P := fun v => (v = 1 ∧ 0 < r266) ∨ (v = 0 ∧ r266 = 0) ∨ (v = -1 ∧ r266 < 0)) (f_lcmp_c _ _) (fun r270 er270 br270 => ?_)
                                          refine Tr.if_ne (pc := 271) (tgt := 298) d_X12_runs_271 rfl (fun c271 => ?_) (fun c271 => ?_)
                                          · refine Tr.pick [0, 1, 2, 3] (ls2 := [(0, (2, 120)), (3, (0, (p162_3 + 1))), (4, (0, (p162_3 + 200))), (5, (0, r226))]) rfl ?_
                                            exact J298 _ _ _ _ _ _ _ _ hS (by omega) (by omega) (by omega) (by omega) (by omega) (by omega) (by omega) ((St.kp h266 (by decide) (by decide) (by decide)).trans k246_120_59) ((St.kp h266 (by decide) (by decide) (by decide)).trans k246_120_62) ((St.kp h266 (by decide) (by decide) (by decide)).trans k246_120_64) ((St.kp h266 (by decide) (by decide) (by decide)).trans k246_120_68) ((St.kp h266 (by decide) (by decide) (by decide)).trans k246_120_75) ((St.kp h266 (by decide) (by decide) (by decide)).trans k246_120_79) ((St.kp h266 (by decide) (by decide) (by decide)).trans k246_126_1) ((St.kp h266 (by decide) (by decide) (by decide)).trans k246_136_1) ((St.ka h266 (by decide) (by decide) (by decide)).trans k246_137_p162_31200) ((St.ka h266 (by decide) (by decide) (by decide)).trans k246_138_p162_31200) (by omega) (by omega) (by omega) (by omega) (by first | assumption | omega)
                                          · refine Tr.aload_n (pc := 274) (i := 0) d_X12_runs_274 rfl rfl ?_
                                            refine Tr.getf (pc := 275) d_X12_runs_275 f_12_112 (by decide) (by decide) (ty_120 hS.1.1) ?_
                                            refine Tr.tp 142 (fx_120_33 hS.1.1) ?_
                                            refine Tr.iload (pc := 278) (i := 4) d_X12_runs_278 rfl ?_
                                            refine Tr.iald (pc := 280) d_X12_runs_280 (ty_142 hS.1.1) (by omega) (by omega) ?_
                                            refine Tr.gen (P := fun v => 0 ≤ v ∧ v ≤ 200) (ar_142 hS.1.2.1 _) (fun r280 er280 br280 => ?_)
                                            refine Tr.istore_n (pc := 281) (i := 3) (ls2 := [(3, (0, r280)), (0, (2, 120)), (4, (0, (p162_3 + 200))), (5, (0, r226))]) d_X12_runs_281 rfl (by decide) rfl ?_
                                            refine Tr.goto (pc := 282) (tgt := 298) d_X12_runs_282 rfl ?_
                                            refine Tr.pick [1, 0, 2, 3] (ls2 := [(0, (2, 120)), (3, (0, r280)), (4, (0, (p162_3 + 200))), (5, (0, r226))]) rfl ?_
                                            exact J298 _ _ _ _ _ _ _ _ hS (by omega) (by omega) (by omega) (by omega) (by omega) (by omega) (by omega) ((St.kp h266 (by decide) (by decide) (by decide)).trans k246_120_59) ((St.kp h266 (by decide) (by decide) (by decide)).trans k246_120_62) ((St.kp h266 (by decide) (by decide) (by decide)).trans k246_120_64) ((St.kp h266 (by decide) (by decide) (by decide)).trans k246_120_68) ((St.kp h266 (by decide) (by decide) (by decide)).trans k246_120_75) ((St.kp h266 (by decide) (by decide) (by decide)).trans k246_120_79) ((St.kp h266 (by decide) (by decide) (by decide)).trans k246_126_1) ((St.kp h266 (by decide) (by decide) (by decide)).trans k246_136_1) ((St.ka h266 (by decide) (by decide) (by decide)).trans k246_137_p162_31200) ((St.ka h266 (by decide) (by decide) (by decide)).trans k246_138_p162_31200) (by omega) (by omega) (by omega) (by omega) (by first | assumption | omega)
                                    refine Tr.if_eq (pc := 233) (tgt := 246) d_X12_runs_233 rfl (fun c233 => ?_) (fun c233 => ?_)
                                    · refine Tr.pick [3, 1, 2, 0] (ls2 := [(0, (2, 120)), (3, (0, (p162_3 + 1))), (4, (0, (p162_3 + 200))), (5, (0, r226))]) rfl ?_
                                      exact J246 _ hS ((St.kp h226 (by decide) (by decide) (by decide)).trans k162_120_59) ((St.kp h226 (by decide) (by decide) (by decide)).trans ew226_120_61) es226_120_62 ((St.kp h226 (by decide) (by decide) (by decide)).trans k162_120_64) es226_120_68 ((St.kp h226 (by decide) (by decide) (by decide)).trans k162_120_75) ((St.kp h226 (by decide) (by decide) (by decide)).trans k162_120_79) ((St.kp h226 (by decide) (by decide) (by decide)).trans k162_126_1) ((St.kp h226 (by decide) (by decide) (by decide)).trans k162_136_1) ((St.ka h226 (by decide) (by decide) (by decide)).trans er203) ((St.ka h226 (by decide) (by decide) (by decide)).trans er225) (by omega) (by omega) (by omega) (by first | assumption | omega)
                                    · refine Tr.aload_n (pc := 236) (i := 0) d_X12_runs_236 rfl rfl ?_
                                      refine Tr.dup (pc := 237) d_X12_runs_237 ne21 ?_
                                      refine Tr.getf (pc := 238) d_X12_runs_238 f_12_216 (by decide) (by decide) (ty_120 hS.1.1) ?_
                                      refine Tr.gen (P := fun v => (-2147483648) ≤ v ∧ v ≤ 2147483647) (ir_120_67 hS.1.2.1) (fun r238 er238 br238 => ?_)
                                      refine Tr.iconst (pc := 241) d_X12_runs_241 (by decide) ?_
                                      refine Tr.iadd (pc := 242) d_X12_runs_242 ?_
                                      refine Tr.gen (P := fun v => (-2147483648) ≤ v ∧ v ≤ 2147483647) (w32_b _) (fun r242 er242 br242 => ?_)
                                      refine Tr.putfS (pc := 243) (P := St Tb1 ws_X12_runs_120_w3 as_X12_runs_120_w3 M0) d_X12_runs_243 f_12_216 (by decide) (by decide) (ty_120 hS.1.1) (st_120_67 hS (by decide) (by omega) (Tb1.of hS.1.2.2.2.2 (fun _ => rd_wb _ rfl) (rd_wb _ rfl))) (fun M243 hS w243 => ?_)
                                      refine Tr.pick [3, 1, 2, 0] (ls2 := [(0, (2, 120)), (3, (0, (p162_3 + 1))), (4, (0, (p162_3 + 200))), (5, (0, r226))]) rfl ?_
                                      exact J246 _ hS ((Wr.b w243 rfl).trans ((St.kp h226 (by decide) (by decide) (by decide)).trans k162_120_59)) ((Wr.b w243 rfl).trans ((St.kp h226 (by decide) (by decide) (by decide)).trans ew226_120_61)) ((Wr.b w243 rfl).trans es226_120_62) ((Wr.b w243 rfl).trans ((St.kp h226 (by decide) (by decide) (by decide)).trans k162_120_64)) ((Wr.b w243 rfl).trans es226_120_68) ((Wr.b w243 rfl).trans ((St.kp h226 (by decide) (by decide) (by decide)).trans k162_120_75)) ((Wr.b w243 rfl).trans ((St.kp h226 (by decide) (by decide) (by decide)).trans k162_120_79)) ((Wr.b w243 rfl).trans ((St.kp h226 (by decide) (by decide) (by decide)).trans k162_126_1)) ((Wr.b w243 rfl).trans ((St.kp h226 (by decide) (by decide) (by decide)).trans k162_136_1)) ((Wr.b w243 rfl).trans ((St.ka h226 (by decide) (by decide) (by decide)).trans er203)) ((Wr.b w243 rfl).trans ((St.ka h226 (by decide) (by decide) (by decide)).trans er225)) (by omega) (by omega) (by omega) (by first | assumption | omega)
                                  · refine Tr.aload_n (pc := 207) (i := 0) d_X12_runs_207 rfl rfl ?_
                                    refine Tr.getf (pc := 208) d_X12_runs_208 f_12_112 (by decide) (by decide) (ty_120 hS.1.1) ?_
                                    refine Tr.tp 142 (fx_120_33 hS.1.1) ?_
                                    refine Tr.iload (pc := 211) (i := 4) d_X12_runs_211 rfl ?_
                                    refine Tr.iald (pc := 213) d_X12_runs_213 (ty_142 hS.1.1) (by omega) (by omega) ?_
                                    refine Tr.gen (P := fun v => 0 ≤ v ∧ v ≤ 200) (ar_142 hS.1.2.1 _) (fun r213 er213 br213 => ?_)
                                    refine Tr.istore_n (pc := 214) (i := 3) (ls2 := [(3, (0, r213)), (4, (0, (p162_3 + 200))), (0, (2, 120))]) d_X12_runs_214 rfl (by decide) rfl ?_
                                    refine Tr.goto (pc := 215) (tgt := 162) d_X12_runs_215 rfl ?_
                                    refine Tr.pick [2, 0] (ls2 := [(0, (2, 120)), (3, (0, r213))]) rfl ?_
                                    have jr := rkf_b (rd M0 137 (200 + r213)) (a := r213) (by omega) (by omega)
                                    have jo := rkf_b (rd M0 137 (200 + p162_3)) (a := p162_3) (by omega) (by omega)
                                    have h7 : (200 : Int) + p162_3 = (p162_3 + 200) := by omega
                                    have je : rd M0 137 (200 + p162_3) = 0 := by have h8 : rd M 137 (200 + p162_3) = rd M0 137 (200 + p162_3) := St.ka hS (by decide) (by decide) (by decide); rw [h7] at h8 ⊢; omega
                                    have jg : rd M0 142 (200 + p162_3) = r213 := by rw [h7]; exact (St.ka hS (by decide) (by decide) (by decide)).symm.trans er213
                                    have jj := Bk1_jm hF_Bk1 (k := p162_3) (by omega) (by omega) je jg
                                    exact J162 _ _ _ _ _ _ _ hS (by omega) (by omega) (by omega) (by omega) (by omega) (by omega) k162_120_59 k162_120_62 k162_120_64 k162_120_68 k162_120_75 k162_120_79 k162_126_1 k162_136_1 (by omega) (by omega) (by omega) (by omega) (by omega) (by omega)
                          refine Tr.pick [1, 0] (ls2 := [(0, (2, 120)), (3, (0, 0))]) rfl ?_
                          have jr := rkf_b (rd M0 137 (200 + 0)) (a := 0) (by omega) (by omega)
                          exact J162 _ _ _ _ _ _ _ _ hS (by omega) (by omega) (by omega) (by omega) (by omega) (by omega) ((Wr.b w157 rfl).trans ((Wr.b w152 rfl).trans ((Wr.b w147 rfl).trans ((Wr.b w142 rfl).trans ((Wr.b w137 rfl).trans ((Wr.b w132 rfl).trans ((Wr.b w127 rfl).trans ((Wr.b w122 rfl).trans ((Wr.b w117 rfl).trans ((Wr.b w112 rfl).trans ((Wr.b w107 rfl).trans k86_120_59))))))))))) ((Wr.b w157 rfl).trans ((Wr.b w152 rfl).trans ((Wr.b w147 rfl).trans ((Wr.b w142 rfl).trans ((Wr.b w137 rfl).trans ((Wr.b w132 rfl).trans ((Wr.b w127 rfl).trans ((Wr.b w122 rfl).trans ((Wr.b w117 rfl).trans ((Wr.b w112 rfl).trans w107.1)))))))))) ((Wr.b w157 rfl).trans ((Wr.b w152 rfl).trans ((Wr.b w147 rfl).trans ((Wr.b w142 rfl).trans ((Wr.b w137 rfl).trans ((Wr.b w132 rfl).trans ((Wr.b w127 rfl).trans ((Wr.b w122 rfl).trans w117.1)))))))) ((Wr.b w157 rfl).trans ((Wr.b w152 rfl).trans ((Wr.b w147 rfl).trans ((Wr.b w142 rfl).trans w137.1)))) ((Wr.b w157 rfl).trans w152.1) w157.1 ((Wr.b w157 rfl).trans ((Wr.b w152 rfl).trans ((Wr.b w147 rfl).trans ((Wr.b w142 rfl).trans ((Wr.b w137 rfl).trans ((Wr.b w132 rfl).trans ((Wr.b w127 rfl).trans ((Wr.b w122 rfl).trans ((Wr.b w117 rfl).trans ((Wr.b w112 rfl).trans ((Wr.b w107 rfl).trans k86_126_1))))))))))) ((Wr.b w157 rfl).trans ((Wr.b w152 rfl).trans ((Wr.b w147 rfl).trans ((Wr.b w142 rfl).trans ((Wr.b w137 rfl).trans ((Wr.b w132 rfl).trans ((Wr.b w127 rfl).trans ((Wr.b w122 rfl).trans ((Wr.b w117 rfl).trans ((Wr.b w112 rfl).trans ((Wr.b w107 rfl).trans k86_136_1))))))))))) (by omega) (by omega) (by omega) (by omega) (by omega) (Nat.lt_succ_self _)
                        · refine Tr.aload_n (pc := 92) (i := 0) d_X12_runs_92 rfl rfl ?_
                          refine Tr.getf (pc := 93) d_X12_runs_93 f_12_222 (by decide) (by decide) (ty_120 hS.1.1) ?_
                          refine Tr.tp 161 (fx_120_69 hS.1.1) ?_
                          refine Tr.iload_n (pc := 96) (i := 3) d_X12_runs_96 rfl rfl ?_
                          refine Tr.iconst (pc := 97) d_X12_runs_97 (by decide) ?_
                          refine Tr.iastS (pc := 98) (P := St Tb1 ws_X12_runs_120_w3 as_X12_runs_120_w3 M0) d_X12_runs_98 (ty_161 hS.1.1) (by omega) (by omega) (sa_161 hS (by decide) (by omega) (Tb1.of hS.1.2.2.2.2 (fun _ => rd_wb _ rfl) (rd_wb _ rfl))) (fun M98 hS w98 => ?_)
                          refine Tr.iincV (pc := 99) (n2 := (p86_3 + 1)) (ls2 := [(3, (0, (p86_3 + 1))), (0, (2, 120)), (1, (1, a1))]) d_X12_runs_99 rfl (by decide) ((w32_id (by omega)).trans (by omega)) rfl ?_
                          refine Tr.goto (pc := 102) (tgt := 86) d_X12_runs_102 rfl ?_
                          refine Tr.pick [1, 2, 0] (ls2 := [(0, (2, 120)), (1, (1, a1)), (3, (0, (p86_3 + 1)))]) rfl ?_
                          exact J86 _ _ hS (by omega) ((Wr.b w98 rfl).trans k86_120_59) ((Wr.b w98 rfl).trans k86_120_62) ((Wr.b w98 rfl).trans k86_120_68) ((Wr.b w98 rfl).trans k86_120_75) ((Wr.b w98 rfl).trans k86_120_79) ((Wr.b w98 rfl).trans k86_126_1) ((Wr.b w98 rfl).trans k86_136_1) (by omega) (by omega)
                    refine Tr.pick [1, 2, 0] (ls2 := [(0, (2, 120)), (1, (1, a1)), (3, (0, 0))]) rfl ?_
                    exact J86 _ _ _ hS (by omega) k65_120_59 k65_120_62 k65_120_68 k65_120_75 k65_120_79 k65_126_1 k65_136_1 (by omega) (Nat.lt_succ_self _)
                  · refine Tr.aload_n (pc := 71) (i := 0) d_X12_runs_71 rfl rfl ?_
                    refine Tr.getf (pc := 72) d_X12_runs_72 f_12_189 (by decide) (by decide) (ty_120 hS.1.1) ?_
                    refine Tr.tp 160 (fx_120_58 hS.1.1) ?_
                    refine Tr.iload_n (pc := 75) (i := 3) d_X12_runs_75 rfl rfl ?_
                    refine Tr.iconst (pc := 76) d_X12_runs_76 (by decide) ?_
                    refine Tr.iastS (pc := 77) (P := St Tb1 ws_X12_runs_120_w3 as_X12_runs_120_w3 M0) d_X12_runs_77 (ty_160 hS.1.1) (by omega) (by omega) (sa_160 hS (by decide) (by omega) (Tb1.of hS.1.2.2.2.2 (fun _ => rd_wb _ rfl) (rd_wb _ rfl))) (fun M77 hS w77 => ?_)
                    refine Tr.iincV (pc := 78) (n2 := (p65_3 + 1)) (ls2 := [(3, (0, (p65_3 + 1))), (0, (2, 120)), (1, (1, a1))]) d_X12_runs_78 rfl (by decide) ((w32_id (by omega)).trans (by omega)) rfl ?_
                    refine Tr.goto (pc := 81) (tgt := 65) d_X12_runs_81 rfl ?_
                    refine Tr.pick [1, 2, 0] (ls2 := [(0, (2, 120)), (1, (1, a1)), (3, (0, (p65_3 + 1)))]) rfl ?_
                    exact J65 _ _ hS (by omega) ((Wr.b w77 rfl).trans k65_120_59) ((Wr.b w77 rfl).trans k65_120_62) ((Wr.b w77 rfl).trans k65_120_68) ((Wr.b w77 rfl).trans k65_120_75) ((Wr.b w77 rfl).trans k65_120_79) ((Wr.b w77 rfl).trans k65_126_1) ((Wr.b w77 rfl).trans k65_136_1) (by omega) (by omega)
              refine Tr.pick [1, 2, 0] (ls2 := [(0, (2, 120)), (1, (1, a1)), (3, (0, 0))]) rfl ?_
              exact J65 _ _ _ hS (by omega) k23_120_59 k23_120_62 k23_120_68 k23_120_75 k23_120_79 k23_126_1 k23_136_1 (by omega) (Nat.lt_succ_self _)
            · refine Tr.aload_n (pc := 29) (i := 0) d_X12_runs_29 rfl rfl ?_
              refine Tr.getf (pc := 30) d_X12_runs_30 f_12_177 (by decide) (by decide) (ty_120 hS.1.1) ?_
              refine Tr.tp 156 (fx_120_54 hS.1.1) ?_
              refine Tr.iload_n (pc := 33) (i := 3) d_X12_runs_33 rfl rfl ?_
              refine Tr.iconst (pc := 34) d_X12_runs_34 (by decide) ?_
              refine Tr.zastS (pc := 35) (P := St Tru ws_X12_runs_120_w3 as_X12_runs_120_w3 M0) d_X12_runs_35 (ty_156 hS.1.1) (by omega) (by omega) (by omega) (sa_156 hS (by decide) (by omega) trivial) (fun M35 hS w35 => ?_)
              refine Tr.aload_n (pc := 36) (i := 0) d_X12_runs_36 rfl rfl ?_
              refine Tr.getf (pc := 37) d_X12_runs_37 f_12_180 (by decide) (by decide) (ty_120 hS.1.1) ?_
              refine Tr.tp 157 (fx_120_55 hS.1.1) ?_
              refine Tr.iload_n (pc := 40) (i := 3) d_X12_runs_40 rfl rfl ?_
              refine Tr.iconst (pc := 41) d_X12_runs_41 (by decide) ?_
              refine Tr.iastS (pc := 42) (P := St Tru ws_X12_runs_120_w3 as_X12_runs_120_w3 M0) d_X12_runs_42 (ty_157 hS.1.1) (by omega) (by omega) (sa_157 hS (by decide) (by omega) trivial) (fun M42 hS w42 => ?_)
              refine Tr.aload_n (pc := 43) (i := 0) d_X12_runs_43 rfl rfl ?_
              refine Tr.getf (pc := 44) d_X12_runs_44 f_12_183 (by decide) (by decide) (ty_120 hS.1.1) ?_
              refine Tr.tp 158 (fx_120_56 hS.1.1) ?_
              refine Tr.iload_n (pc := 47) (i := 3) d_X12_runs_47 rfl rfl ?_
              refine Tr.iconst (pc := 48) d_X12_runs_48 (by decide) ?_
              refine Tr.iastS (pc := 49) (P := St Tru ws_X12_runs_120_w3 as_X12_runs_120_w3 M0) d_X12_runs_49 (ty_158 hS.1.1) (by omega) (by omega) (sa_158 hS (by decide) (by omega) trivial) (fun M49 hS w49 => ?_)
              refine Tr.aload_n (pc := 50) (i := 0) d_X12_runs_50 rfl rfl ?_
              refine Tr.getf (pc := 51) d_X12_runs_51 f_12_186 (by decide) (by decide) (ty_120 hS.1.1) ?_
              refine Tr.tp 159 (fx_120_57 hS.1.1) ?_
              refine Tr.iload_n (pc := 54) (i := 3) d_X12_runs_54 rfl rfl ?_
              refine Tr.iconst (pc := 55) d_X12_runs_55 (by decide) ?_
              refine Tr.iastS (pc := 56) (P := St Tru ws_X12_runs_120_w3 as_X12_runs_120_w3 M0) d_X12_runs_56 (ty_159 hS.1.1) (by omega) (by omega) (sa_159 hS (by decide) (by omega) trivial) (fun M56 hS w56 => ?_)
              refine Tr.iincV (pc := 57) (n2 := (p23_3 + 1)) (ls2 := [(3, (0, (p23_3 + 1))), (0, (2, 120)), (1, (1, a1))]) d_X12_runs_57 rfl (by decide) ((w32_id (by omega)).trans (by omega)) rfl ?_
              refine Tr.goto (pc := 60) (tgt := 23) d_X12_runs_60 rfl ?_
              refine Tr.pick [1, 2, 0] (ls2 := [(0, (2, 120)), (1, (1, a1)), (3, (0, (p23_3 + 1)))]) rfl ?_
              exact J23 _ _ hS (by omega) ((Wr.b w56 rfl).trans ((Wr.b w49 rfl).trans ((Wr.b w42 rfl).trans ((Wr.b w35 rfl).trans k23_120_59)))) ((Wr.b w56 rfl).trans ((Wr.b w49 rfl).trans ((Wr.b w42 rfl).trans ((Wr.b w35 rfl).trans k23_120_62)))) ((Wr.b w56 rfl).trans ((Wr.b w49 rfl).trans ((Wr.b w42 rfl).trans ((Wr.b w35 rfl).trans k23_120_68)))) ((Wr.b w56 rfl).trans ((Wr.b w49 rfl).trans ((Wr.b w42 rfl).trans ((Wr.b w35 rfl).trans k23_120_75)))) ((Wr.b w56 rfl).trans ((Wr.b w49 rfl).trans ((Wr.b w42 rfl).trans ((Wr.b w35 rfl).trans k23_120_79)))) ((Wr.b w56 rfl).trans ((Wr.b w49 rfl).trans ((Wr.b w42 rfl).trans ((Wr.b w35 rfl).trans k23_126_1)))) ((Wr.b w56 rfl).trans ((Wr.b w49 rfl).trans ((Wr.b w42 rfl).trans ((Wr.b w35 rfl).trans k23_136_1)))) (by omega) (fun p p0 p1 => by rw [Wr.b w56 rfl]; by_cases c : p = p23_3; (rw [c, w49.1]; omega); (rw [w49.2 _ _ (fun d => c d.2), Wr.b w42 rfl, Wr.b w35 rfl]; exact tp23_0 p p0 (by omega))) (by omega)
        refine Tr.pick [1, 2, 0] (ls2 := [(0, (2, 120)), (1, (1, a1)), (3, (0, 0))]) rfl ?_
        exact J23 _ _ _ hS (by omega) k2_120_59 k2_120_62 k2_120_68 k2_120_75 k2_120_79 k2_126_1 k2_136_1 (by omega) (fun p p0 p1 => absurd p1 (by omega)) (Nat.lt_succ_self _)
      · refine Tr.aload_n (pc := 8) (i := 0) d_X12_runs_8 rfl rfl ?_
        refine Tr.getf (pc := 9) d_X12_runs_9 f_12_174 (by decide) (by decide) (ty_120 hS.1.1) ?_
        refine Tr.tp 155 (fx_120_53 hS.1.1) ?_
        refine Tr.iload_n (pc := 12) (i := 3) d_X12_runs_12 rfl rfl ?_
        refine Tr.iconst (pc := 13) d_X12_runs_13 (by decide) ?_
        refine Tr.iastS (pc := 14) (P := St Tru ws_X12_runs_120_w3 as_X12_runs_120_w3 M0) d_X12_runs_14 (ty_155 hS.1.1) (by omega) (by omega) (sa_155 hS (by decide) (by omega) trivial) (fun M14 hS w14 => ?_)
        refine Tr.iincV (pc := 15) (n2 := (p2_3 + 1)) (ls2 := [(3, (0, (p2_3 + 1))), (0, (2, 120)), (1, (1, a1))]) d_X12_runs_15 rfl (by decide) ((w32_id (by omega)).trans (by omega)) rfl ?_
        refine Tr.goto (pc := 18) (tgt := 2) d_X12_runs_18 rfl ?_
        refine Tr.pick [1, 2, 0] (ls2 := [(0, (2, 120)), (1, (1, a1)), (3, (0, (p2_3 + 1)))]) rfl ?_
        exact J2 _ _ hS (by omega) ((Wr.b w14 rfl).trans k2_120_59) ((Wr.b w14 rfl).trans k2_120_62) ((Wr.b w14 rfl).trans k2_120_68) ((Wr.b w14 rfl).trans k2_120_75) ((Wr.b w14 rfl).trans k2_120_79) ((Wr.b w14 rfl).trans k2_126_1) ((Wr.b w14 rfl).trans k2_136_1) (by omega) (by omega)
  refine Tr.pick [1, 2, 0] (ls2 := [(0, (2, 120)), (1, (1, a1)), (3, (0, 0))]) rfl ?_
  exact J2 _ _ _ hS (by omega) eg120_59 eg120_62 eg120_68 eg120_75 eg120_79 eg126_1 eg136_1 (by omega) (Nat.lt_succ_self _)

def ws_X12_run_120_w1 : List (Int × Int) := [(120, 59), (120, 60), (120, 61), (120, 62), (120, 63), (120, 64), (120, 65), (120, 66), (120, 67), (120, 68), (120, 70), (120, 75), (120, 79), (120, 84), (120, 85), (120, 86), (120, 87), (120, 88), (120, 89), (120, 90), (120, 91), (120, 95), (120, 96)]
def as_X12_run_120_w1 : List Int := [154, 155, 156, 157, 158, 159, 160, 161, 162, 163, 164, 165, 166, 167, 168, 169, 170, 171, 172, 173, 174, 175]
def q_X12_run_120_w1 (a1 : Int) (M0 M' : Mem) (r : Option PV) : Prop := St Tru ws_X12_run_120_w1 as_X12_run_120_w1 M0 M' ∧ ∃ v : Int, r = some (0, v) ∧ (-2) ≤ v ∧ v ≤ 2 ∧ (rd M' 120 59 = -1)
set_option maxRecDepth 100000 in
set_option maxHeartbeats 4000000 in
theorem sp_X12_run_120_w1 {l : Launch} {K : EC} {M0 : Mem} (hI : In Tru M0) (en_120_12 : rd M0 120 12 = 1) (a1 : Int) (ha1 : (-2147483648) ≤ a1 ∧ a1 ≤ 2147483647)  (hq0 : rd M0 120 59 = -1) (hF_Bk1 : Bk1 M0) : Tr l K 8 mX12_run 0 [(0, (2, 120)), (1, (0, a1))] [] M0 (q_X12_run_120_w1 a1 M0) := by
  have hS : St Tru ws_X12_run_120_w1 as_X12_run_120_w1 M0 M0 := St.rf hI
  obtain ⟨g120_59, eg120_59⟩ : ∃ v, rd M0 120 59 = v := ⟨_, rfl⟩
  have bg120_59 : (-1) ≤ g120_59 ∧ g120_59 ≤ 5 := by rw [← eg120_59]; exact ir_120_59 hI.2.1
  refine Tr.iload_n (pc := 0) (i := 1) d_X12_run_0 rfl rfl ?_
  refine Tr.iconst (pc := 1) d_X12_run_1 (by decide) ?_
  refine Tr.icmp_ge (pc := 2) (tgt := 8) d_X12_run_2 rfl (fun c2 => ?_) (fun c2 => ?_)
  · refine Tr.iconst (pc := 8) d_X12_run_8 (by decide) ?_
    refine Tr.istore_n (pc := 9) (i := 2) (ls2 := [(2, (0, 0)), (0, (2, 120)), (1, (0, a1))]) d_X12_run_9 rfl (by decide) rfl ?_
    have J10 : ∀ (n10 : Nat) (M : Mem) (p10_2 : Int), St Tru ws_X12_run_120_w1 as_X12_run_120_w1 M0 M → (0 ≤ p10_2 ∧ p10_2 ≤ 3) → rd M 120 59 = g120_59 → (g120_59 = -1) → (3 - p10_2).toNat < n10 → Tr l K 8 mX12_run 10 [(0, (2, 120)), (1, (0, a1)), (2, (0, p10_2))] [] M (q_X12_run_120_w1 a1 M0) := by
      intro n10
      induction n10 with
      | zero => intro M p10_2 hS bp10_2 k10_120_59 t10_0 hm10; exact absurd hm10 (Nat.not_lt_zero _)
      | succ n10 J10 =>
        intro M p10_2 hS bp10_2 k10_120_59 t10_0 hm10
        refine Tr.iload_n (pc := 10) (i := 2) d_X12_run_10 rfl rfl ?_
        refine Tr.iconst (pc := 11) d_X12_run_11 (by decide) ?_
        refine Tr.icmp_ge (pc := 12) (tgt := 33) d_X12_run_12 rfl (fun c12 => ?_) (fun c12 => ?_)
        · refine Tr.aload_n (pc := 33) (i := 0) d_X12_run_33 rfl rfl ?_
          refine Tr.iconst (pc := 34) d_X12_run_34 (by decide) ?_
          refine Tr.putzS (pc := 35) (P := St Tru ws_X12_run_120_w1 as_X12_run_120_w1 M0) d_X12_run_35 f_12_225 (by decide) (ty_120 hS.1.1) (by omega) (st_120_70 hS (by decide) (by omega) trivial) (fun M35 hS w35 => ?_)
          refine Tr.aload_n (pc := 38) (i := 0) d_X12_run_38 rfl rfl ?_
          refine Tr.iload_n (pc := 39) (i := 1) d_X12_run_39 rfl rfl ?_
          refine Tr.i2l (pc := 40) d_X12_run_40 ?_
          refine Tr.callV (pc := 41) (as := [_]) d_X12_run_41 s_12_637 ok_X12_runs rfl rfl (Nat.le_of_ble_eq_true rfl) (Nat.le_of_ble_eq_true rfl) (by decide) (ty_120 hS.1.1) ?_
          have kb41_120_59 : rd M35 120 59 = g120_59 := ((Wr.b w35 rfl).trans k10_120_59)
          refine Tr.imp (Tr.deep (by decide) (sp_X12_runs_120_w3 hS.1 ((St.kp hS (by decide) (by decide) (by decide)).trans en_120_12) a1 (by omega) (by omega) (Bk1.of hF_Bk1 (fun j => (St.ka hS (by decide) (by decide) (by decide))) (fun j => (St.ka hS (by decide) (by decide) (by decide))) (fun j => (St.ka hS (by decide) (by decide) (by decide))) (fun j => (St.ka hS (by decide) (by decide) (by decide))) (fun j => (St.ka hS (by decide) (by decide) (by decide))) (fun j => (St.ka hS (by decide) (by decide) (by decide))) (fun j => (St.ka hS (by decide) (by decide) (by decide))) (fun j => (St.ka hS (by decide) (by decide) (by decide))) (St.kp hS (by decide) (by decide) (by decide)) (St.kp hS (by decide) (by decide) (by decide)) (St.kp hS (by decide) (by decide) (by decide)) (St.kp hS (by decide) (by decide) (by decide))))) ?_
          rintro M41 _ ⟨h41, r41, rfl, lr41, ur41, z41_0⟩
          have hS := St.tr hS h41 (by decide) (by decide)
          obtain ⟨s41_120_59, es41_120_59⟩ : ∃ v, rd M41 120 59 = v := ⟨_, rfl⟩
          have bs41_120_59 : (-1) ≤ s41_120_59 ∧ s41_120_59 ≤ 5 := by rw [← es41_120_59]; exact ir_120_59 hS.1.2.1
          refine Tr.sc [(0, r41)] rfl ?_
          refine Tr.istore_n (pc := 44) (i := 2) (ls2 := [(2, (0, r41)), (0, (2, 120)), (1, (0, a1))]) d_X12_run_44 rfl (by decide) rfl ?_
          refine Tr.aload_n (pc := 45) (i := 0) d_X12_run_45 rfl rfl ?_
          refine Tr.iconst (pc := 46) d_X12_run_46 (by decide) ?_
          refine Tr.putzS (pc := 47) (P := St Tru ws_X12_run_120_w1 as_X12_run_120_w1 M0) d_X12_run_47 f_12_225 (by decide) (ty_120 hS.1.1) (by omega) (st_120_70 hS (by decide) (by omega) trivial) (fun M47 hS w47 => ?_)
          refine Tr.aload_n (pc := 50) (i := 0) d_X12_run_50 rfl rfl ?_
          refine Tr.iconst (pc := 51) d_X12_run_51 (by decide) ?_
          refine Tr.putzS (pc := 52) (P := St Tru ws_X12_run_120_w1 as_X12_run_120_w1 M0) d_X12_run_52 f_12_270 (by decide) (ty_120 hS.1.1) (by omega) (st_120_85 hS (by decide) (by omega) trivial) (fun M52 hS w52 => ?_)
          refine Tr.aload_n (pc := 55) (i := 0) d_X12_run_55 rfl rfl ?_
          refine Tr.aload_n (pc := 56) (i := 0) d_X12_run_56 rfl rfl ?_
          refine Tr.getf (pc := 57) d_X12_run_57 f_12_201 (by decide) (by decide) (ty_120 hS.1.1) ?_
          refine Tr.gen (P := fun v => 0 ≤ v ∧ v ≤ 2060) (ir_120_62 hS.1.2.1) (fun r57 er57 br57 => ?_)
          refine Tr.putfS (pc := 60) (P := St Tru ws_X12_run_120_w1 as_X12_run_120_w1 M0) d_X12_run_60 f_12_273 (by decide) (by decide) (ty_120 hS.1.1) (st_120_86 hS (by decide) (by omega) trivial) (fun M60 hS w60 => ?_)
          refine Tr.aload_n (pc := 63) (i := 0) d_X12_run_63 rfl rfl ?_
          refine Tr.aload_n (pc := 64) (i := 0) d_X12_run_64 rfl rfl ?_
          refine Tr.getf (pc := 65) d_X12_run_65 f_12_204 (by decide) (by decide) (ty_120 hS.1.1) ?_
          refine Tr.gen (P := fun v => (-9223372036854775808) ≤ v ∧ v ≤ 9223372036854775807) (ir_120_63 hS.1.2.1) (fun r65 er65 br65 => ?_)
          refine Tr.putfS (pc := 68) (P := St Tru ws_X12_run_120_w1 as_X12_run_120_w1 M0) d_X12_run_68 f_12_276 (by decide) (by decide) (ty_120 hS.1.1) (st_120_87 hS (by decide) (by omega) trivial) (fun M68 hS w68 => ?_)
          refine Tr.aload_n (pc := 71) (i := 0) d_X12_run_71 rfl rfl ?_
          refine Tr.aload_n (pc := 72) (i := 0) d_X12_run_72 rfl rfl ?_
          refine Tr.getf (pc := 73) d_X12_run_73 f_12_210 (by decide) (by decide) (ty_120 hS.1.1) ?_
          refine Tr.gen (P := fun v => (-2147483648) ≤ v ∧ v ≤ 2147483647) (ir_120_65 hS.1.2.1) (fun r73 er73 br73 => ?_)
          refine Tr.putfS (pc := 76) (P := St Tru ws_X12_run_120_w1 as_X12_run_120_w1 M0) d_X12_run_76 f_12_279 (by decide) (by decide) (ty_120 hS.1.1) (st_120_88 hS (by decide) (by omega) trivial) (fun M76 hS w76 => ?_)
          refine Tr.aload_n (pc := 79) (i := 0) d_X12_run_79 rfl rfl ?_
          refine Tr.aload_n (pc := 80) (i := 0) d_X12_run_80 rfl rfl ?_
          refine Tr.getf (pc := 81) d_X12_run_81 f_12_213 (by decide) (by decide) (ty_120 hS.1.1) ?_
          refine Tr.gen (P := fun v => (-2147483648) ≤ v ∧ v ≤ 2147483647) (ir_120_66 hS.1.2.1) (fun r81 er81 br81 => ?_)
          refine Tr.putfS (pc := 84) (P := St Tru ws_X12_run_120_w1 as_X12_run_120_w1 M0) d_X12_run_84 f_12_282 (by decide) (by decide) (ty_120 hS.1.1) (st_120_89 hS (by decide) (by omega) trivial) (fun M84 hS w84 => ?_)
          refine Tr.aload_n (pc := 87) (i := 0) d_X12_run_87 rfl rfl ?_
          refine Tr.aload_n (pc := 88) (i := 0) d_X12_run_88 rfl rfl ?_
          refine Tr.getf (pc := 89) d_X12_run_89 f_12_216 (by decide) (by decide) (ty_120 hS.1.1) ?_
          refine Tr.gen (P := fun v => (-2147483648) ≤ v ∧ v ≤ 2147483647) (ir_120_67 hS.1.2.1) (fun r89 er89 br89 => ?_)
          refine Tr.putfS (pc := 92) (P := St Tru ws_X12_run_120_w1 as_X12_run_120_w1 M0) d_X12_run_92 f_12_285 (by decide) (by decide) (ty_120 hS.1.1) (st_120_90 hS (by decide) (by omega) trivial) (fun M92 hS w92 => ?_)
          refine Tr.aload_n (pc := 95) (i := 0) d_X12_run_95 rfl rfl ?_
          refine Tr.aload_n (pc := 96) (i := 0) d_X12_run_96 rfl rfl ?_
          refine Tr.getf (pc := 97) d_X12_run_97 f_12_267 (by decide) (by decide) (ty_120 hS.1.1) ?_
          refine Tr.gen (P := fun v => (-2147483648) ≤ v ∧ v ≤ 2147483647) (ir_120_84 hS.1.2.1) (fun r97 er97 br97 => ?_)
          refine Tr.putfS (pc := 100) (P := St Tru ws_X12_run_120_w1 as_X12_run_120_w1 M0) d_X12_run_100 f_12_288 (by decide) (by decide) (ty_120 hS.1.1) (st_120_91 hS (by decide) (by omega) trivial) (fun M100 hS w100 => ?_)
          refine Tr.aload_n (pc := 103) (i := 0) d_X12_run_103 rfl rfl ?_
          refine Tr.aload_n (pc := 104) (i := 0) d_X12_run_104 rfl rfl ?_
          refine Tr.getf (pc := 105) d_X12_run_105 f_12_240 (by decide) (by decide) (ty_120 hS.1.1) ?_
          refine Tr.gen (P := fun v => 0 ≤ v ∧ v ≤ 2100) (ir_120_75 hS.1.2.1) (fun r105 er105 br105 => ?_)
          refine Tr.putfS (pc := 108) (P := St Tru ws_X12_run_120_w1 as_X12_run_120_w1 M0) d_X12_run_108 f_12_300 (by decide) (by decide) (ty_120 hS.1.1) (st_120_95 hS (by decide) (by omega) trivial) (fun M108 hS w108 => ?_)
          refine Tr.aload_n (pc := 111) (i := 0) d_X12_run_111 rfl rfl ?_
          refine Tr.aload_n (pc := 112) (i := 0) d_X12_run_112 rfl rfl ?_
          refine Tr.getf (pc := 113) d_X12_run_113 f_12_252 (by decide) (by decide) (ty_120 hS.1.1) ?_
          refine Tr.gen (P := fun v => 0 ≤ v ∧ v ≤ 2100) (ir_120_79 hS.1.2.1) (fun r113 er113 br113 => ?_)
          refine Tr.putfS (pc := 116) (P := St Tru ws_X12_run_120_w1 as_X12_run_120_w1 M0) d_X12_run_116 f_12_303 (by decide) (by decide) (ty_120 hS.1.1) (st_120_96 hS (by decide) (by omega) trivial) (fun M116 hS w116 => ?_)
          refine Tr.iconst (pc := 119) d_X12_run_119 (by decide) ?_
          refine Tr.istore_n (pc := 120) (i := 3) (ls2 := [(3, (0, 0)), (2, (0, r41)), (0, (2, 120)), (1, (0, a1))]) d_X12_run_120 rfl (by decide) rfl ?_
          have J121 : ∀ (n121 : Nat) (M : Mem) (p121_3 : Int), St Tru ws_X12_run_120_w1 as_X12_run_120_w1 M0 M → (0 ≤ p121_3 ∧ p121_3 ≤ 6) → rd M 120 59 = s41_120_59 → rd M 120 62 = r57 → rd M 120 63 = r65 → rd M 120 65 = r73 → rd M 120 66 = r81 → rd M 120 67 = r89 → rd M 120 70 = 0 → rd M 120 75 = r105 → rd M 120 79 = r113 → rd M 120 84 = r97 → rd M 120 85 = 1 → rd M 120 86 = r57 → rd M 120 87 = r65 → rd M 120 88 = r73 → rd M 120 89 = r81 → rd M 120 90 = r89 → rd M 120 91 = r97 → rd M 120 95 = r105 → rd M 120 96 = r113 → (s41_120_59 = -1) → (6 - p121_3).toNat < n121 → Tr l K 8 mX12_run 121 [(0, (2, 120)), (2, (0, r41)), (3, (0, p121_3))] [] M (q_X12_run_120_w1 a1 M0) := by
            intro n121
            induction n121 with
            | zero => intro M p121_3 hS bp121_3 k121_120_59 k121_120_62 k121_120_63 k121_120_65 k121_120_66 k121_120_67 k121_120_70 k121_120_75 k121_120_79 k121_120_84 k121_120_85 k121_120_86 k121_120_87 k121_120_88 k121_120_89 k121_120_90 k121_120_91 k121_120_95 k121_120_96 t121_0 hm121; exact absurd hm121 (Nat.not_lt_zero _)
            | succ n121 J121 =>
              intro M p121_3 hS bp121_3 k121_120_59 k121_120_62 k121_120_63 k121_120_65 k121_120_66 k121_120_67 k121_120_70 k121_120_75 k121_120_79 k121_120_84 k121_120_85 k121_120_86 k121_120_87 k121_120_88 k121_120_89 k121_120_90 k121_120_91 k121_120_95 k121_120_96 t121_0 hm121
              refine Tr.iload_n (pc := 121) (i := 3) d_X12_run_121 rfl rfl ?_
              refine Tr.bipush (pc := 122) d_X12_run_122 rfl (by decide) ?_
              refine Tr.icmp_ge (pc := 124) (tgt := 145) d_X12_run_124 rfl (fun c124 => ?_) (fun c124 => ?_)
              · refine Tr.iconst (pc := 145) d_X12_run_145 (by decide) ?_
                refine Tr.istore_n (pc := 146) (i := 3) (ls2 := [(3, (0, 0)), (0, (2, 120)), (2, (0, r41))]) d_X12_run_146 rfl (by decide) rfl ?_
                have J147 : ∀ (n147 : Nat) (M : Mem) (p147_3 : Int), St Tru ws_X12_run_120_w1 as_X12_run_120_w1 M0 M → (0 ≤ p147_3 ∧ p147_3 ≤ 24) → rd M 120 59 = s41_120_59 → rd M 120 62 = r57 → rd M 120 63 = r65 → rd M 120 65 = r73 → rd M 120 66 = r81 → rd M 120 67 = r89 → rd M 120 70 = 0 → rd M 120 75 = r105 → rd M 120 79 = r113 → rd M 120 84 = r97 → rd M 120 85 = 1 → rd M 120 86 = r57 → rd M 120 87 = r65 → rd M 120 88 = r73 → rd M 120 89 = r81 → rd M 120 90 = r89 → rd M 120 91 = r97 → rd M 120 95 = r105 → rd M 120 96 = r113 → (s41_120_59 = -1) → (24 - p147_3).toNat < n147 → Tr l K 8 mX12_run 147 [(0, (2, 120)), (2, (0, r41)), (3, (0, p147_3))] [] M (q_X12_run_120_w1 a1 M0) := by
                  intro n147
                  induction n147 with
                  | zero => intro M p147_3 hS bp147_3 k147_120_59 k147_120_62 k147_120_63 k147_120_65 k147_120_66 k147_120_67 k147_120_70 k147_120_75 k147_120_79 k147_120_84 k147_120_85 k147_120_86 k147_120_87 k147_120_88 k147_120_89 k147_120_90 k147_120_91 k147_120_95 k147_120_96 t147_0 hm147; exact absurd hm147 (Nat.not_lt_zero _)
                  | succ n147 J147 =>
                    intro M p147_3 hS bp147_3 k147_120_59 k147_120_62 k147_120_63 k147_120_65 k147_120_66 k147_120_67 k147_120_70 k147_120_75 k147_120_79 k147_120_84 k147_120_85 k147_120_86 k147_120_87 k147_120_88 k147_120_89 k147_120_90 k147_120_91 k147_120_95 k147_120_96 t147_0 hm147
                    refine Tr.iload_n (pc := 147) (i := 3) d_X12_run_147 rfl rfl ?_
                    refine Tr.bipush (pc := 148) d_X12_run_148 rfl (by decide) ?_
                    refine Tr.icmp_ge (pc := 150) (tgt := 171) d_X12_run_150 rfl (fun c150 => ?_) (fun c150 => ?_)
                    · refine Tr.iconst (pc := 171) d_X12_run_171 (by decide) ?_
                      refine Tr.istore_n (pc := 172) (i := 3) (ls2 := [(3, (0, 0)), (0, (2, 120)), (2, (0, r41))]) d_X12_run_172 rfl (by decide) rfl ?_
                      have J173 : ∀ (n173 : Nat) (M : Mem) (p173_3 : Int), St Tru ws_X12_run_120_w1 as_X12_run_120_w1 M0 M → (0 ≤ p173_3 ∧ p173_3 ≤ 6) → rd M 120 59 = s41_120_59 → rd M 120 62 = r57 → rd M 120 63 = r65 → rd M 120 65 = r73 → rd M 120 66 = r81 → rd M 120 67 = r89 → rd M 120 70 = 0 → rd M 120 75 = r105 → rd M 120 79 = r113 → rd M 120 84 = r97 → rd M 120 85 = 1 → rd M 120 86 = r57 → rd M 120 87 = r65 → rd M 120 88 = r73 → rd M 120 89 = r81 → rd M 120 90 = r89 → rd M 120 91 = r97 → rd M 120 95 = r105 → rd M 120 96 = r113 → (s41_120_59 = -1) → (6 - p173_3).toNat < n173 → Tr l K 8 mX12_run 173 [(0, (2, 120)), (2, (0, r41)), (3, (0, p173_3))] [] M (q_X12_run_120_w1 a1 M0) := by
                        intro n173
                        induction n173 with
                        | zero => intro M p173_3 hS bp173_3 k173_120_59 k173_120_62 k173_120_63 k173_120_65 k173_120_66 k173_120_67 k173_120_70 k173_120_75 k173_120_79 k173_120_84 k173_120_85 k173_120_86 k173_120_87 k173_120_88 k173_120_89 k173_120_90 k173_120_91 k173_120_95 k173_120_96 t173_0 hm173; exact absurd hm173 (Nat.not_lt_zero _)
                        | succ n173 J173 =>
                          intro M p173_3 hS bp173_3 k173_120_59 k173_120_62 k173_120_63 k173_120_65 k173_120_66 k173_120_67 k173_120_70 k173_120_75 k173_120_79 k173_120_84 k173_120_85 k173_120_86 k173_120_87 k173_120_88 k173_120_89 k173_120_90 k173_120_91 k173_120_95 k173_120_96 t173_0 hm173
                          refine Tr.iload_n (pc := 173) (i := 3) d_X12_run_173 rfl rfl ?_
                          refine Tr.bipush (pc := 174) d_X12_run_174 rfl (by decide) ?_
                          refine Tr.icmp_ge (pc := 176) (tgt := 222) d_X12_run_176 rfl (fun c176 => ?_) (fun c176 => ?_)
                          · refine Tr.iload_n (pc := 222) (i := 2) d_X12_run_222 rfl rfl ?_
                            have kr_120_59 : rd M 120 59 = s41_120_59 := k173_120_59
                            exact Tr.iret (pc := 223) d_X12_run_223 rfl ⟨hS, _, rfl, by omega, by omega, by omega⟩
                          · refine Tr.aload_n (pc := 179) (i := 0) d_X12_run_179 rfl rfl ?_
                            refine Tr.getf (pc := 180) d_X12_run_180 f_12_297 (by decide) (by decide) (ty_120 hS.1.1) ?_
                            refine Tr.tp 175 (fx_120_94 hS.1.1) ?_
                            refine Tr.iload_n (pc := 183) (i := 3) d_X12_run_183 rfl rfl ?_
                            refine Tr.aload_n (pc := 184) (i := 0) d_X12_run_184 rfl rfl ?_
                            refine Tr.getf (pc := 185) d_X12_run_185 f_12_177 (by decide) (by decide) (ty_120 hS.1.1) ?_
                            refine Tr.tp 156 (fx_120_54 hS.1.1) ?_
                            refine Tr.iload_n (pc := 188) (i := 3) d_X12_run_188 rfl rfl ?_
                            refine Tr.zald (pc := 189) d_X12_run_189 (ty_156 hS.1.1) (by omega) (by omega) ?_
                            refine Tr.gen (P := fun v => 0 ≤ v ∧ v ≤ 1) (ar_156 hS.1.2.1 _) (fun r189 er189 br189 => ?_)
                            have J215 : ∀ (M : Mem) (q215_2 : Int), St Tru ws_X12_run_120_w1 as_X12_run_120_w1 M0 M → (0 ≤ q215_2 ∧ q215_2 ≤ 1) → rd M 120 59 = s41_120_59 → rd M 120 62 = r57 → rd M 120 63 = r65 → rd M 120 65 = r73 → rd M 120 66 = r81 → rd M 120 67 = r89 → rd M 120 70 = 0 → rd M 120 75 = r105 → rd M 120 79 = r113 → rd M 120 84 = r97 → rd M 120 85 = 1 → rd M 120 86 = r57 → rd M 120 87 = r65 → rd M 120 88 = r73 → rd M 120 89 = r81 → rd M 120 90 = r89 → rd M 120 91 = r97 → rd M 120 95 = r105 → rd M 120 96 = r113 → rd M 156 p173_3 = r189 → (s41_120_59 = -1) → Tr l K 8 mX12_run 215 [(0, (2, 120)), (2, (0, r41)), (3, (0, p173_3))] [(0, q215_2), (0, p173_3), (2, 175)] M (q_X12_run_120_w1 a1 M0) := by
                              intro M q215_2 hS bq215_2 k215_120_59 k215_120_62 k215_120_63 k215_120_65 k215_120_66 k215_120_67 k215_120_70 k215_120_75 k215_120_79 k215_120_84 k215_120_85 k215_120_86 k215_120_87 k215_120_88 k215_120_89 k215_120_90 k215_120_91 k215_120_95 k215_120_96 k215_156_p173_310 t215_0
                              refine Tr.zastS (pc := 215) (P := St Tru ws_X12_run_120_w1 as_X12_run_120_w1 M0) d_X12_run_215 (ty_175 hS.1.1) (by omega) (by omega) (by omega) (sa_175 hS (by decide) (by omega) trivial) (fun M215 hS w215 => ?_)
                              refine Tr.iincV (pc := 216) (n2 := (p173_3 + 1)) (ls2 := [(3, (0, (p173_3 + 1))), (0, (2, 120)), (2, (0, r41))]) d_X12_run_216 rfl (by decide) ((w32_id (by omega)).trans (by omega)) rfl ?_
                              refine Tr.goto (pc := 219) (tgt := 173) d_X12_run_219 rfl ?_
                              refine Tr.pick [1, 2, 0] (ls2 := [(0, (2, 120)), (2, (0, r41)), (3, (0, (p173_3 + 1)))]) rfl ?_
                              exact J173 _ _ hS (by omega) ((Wr.b w215 rfl).trans k215_120_59) ((Wr.b w215 rfl).trans k215_120_62) ((Wr.b w215 rfl).trans k215_120_63) ((Wr.b w215 rfl).trans k215_120_65) ((Wr.b w215 rfl).trans k215_120_66) ((Wr.b w215 rfl).trans k215_120_67) ((Wr.b w215 rfl).trans k215_120_70) ((Wr.b w215 rfl).trans k215_120_75) ((Wr.b w215 rfl).trans k215_120_79) ((Wr.b w215 rfl).trans k215_120_84) ((Wr.b w215 rfl).trans k215_120_85) ((Wr.b w215 rfl).trans k215_120_86) ((Wr.b w215 rfl).trans k215_120_87) ((Wr.b w215 rfl).trans k215_120_88) ((Wr.b w215 rfl).trans k215_120_89) ((Wr.b w215 rfl).trans k215_120_90) ((Wr.b w215 rfl).trans k215_120_91) ((Wr.b w215 rfl).trans k215_120_95) ((Wr.b w215 rfl).trans k215_120_96) (by omega) (by omega)
                            have J214 : ∀ (M : Mem), St Tru ws_X12_run_120_w1 as_X12_run_120_w1 M0 M → rd M 120 59 = s41_120_59 → rd M 120 62 = r57 → rd M 120 63 = r65 → rd M 120 65 = r73 → rd M 120 66 = r81 → rd M 120 67 = r89 → rd M 120 70 = 0 → rd M 120 75 = r105 → rd M 120 79 = r113 → rd M 120 84 = r97 → rd M 120 85 = 1 → rd M 120 86 = r57 → rd M 120 87 = r65 → rd M 120 88 = r73 → rd M 120 89 = r81 → rd M 120 90 = r89 → rd M 120 91 = r97 → rd M 120 95 = r105 → rd M 120 96 = r113 → rd M 156 p173_3 = r189 → (s41_120_59 = -1) → Tr l K 8 mX12_run 214 [(0, (2, 120)), (2, (0, r41)), (3, (0, p173_3))] [(0, p173_3), (2, 175)] M (q_X12_run_120_w1 a1 M0) := by
                              intro M  hS  k214_120_59 k214_120_62 k214_120_63 k214_120_65 k214_120_66 k214_120_67 k214_120_70 k214_120_75 k214_120_79 k214_120_84 k214_120_85 k214_120_86 k214_120_87 k214_120_88 k214_120_89 k214_120_90 k214_120_91 k214_120_95 k214_120_96 k214_156_p173_310 t214_0
                              refine Tr.iconst (pc := 214) d_X12_run_214 (by decide) ?_
                              refine Tr.pick [0, 1, 2] (ls2 := [(0, (2, 120)), (2, (0, r41)), (3, (0, p173_3))]) rfl ?_
                              exact J215 _ _ hS (by omega) k214_120_59 k214_120_62 k214_120_63 k214_120_65 k214_120_66 k214_120_67 k214_120_70 k214_120_75 k214_120_79 k214_120_84 k214_120_85 k214_120_86 k214_120_87 k214_120_88 k214_120_89 k214_120_90 k214_120_91 k214_120_95 k214_120_96 k214_156_p173_310 (by omega)
                            refine Tr.if_ne (pc := 190) (tgt := 214) d_X12_run_190 rfl (fun c190 => ?_) (fun c190 => ?_)
                            · refine Tr.pick [0, 1, 2] (ls2 := [(0, (2, 120)), (2, (0, r41)), (3, (0, p173_3))]) rfl ?_
                              exact J214 _ hS k173_120_59 k173_120_62 k173_120_63 k173_120_65 k173_120_66 k173_120_67 k173_120_70 k173_120_75 k173_120_79 k173_120_84 k173_120_85 k173_120_86 k173_120_87 k173_120_88 k173_120_89 k173_120_90 k173_120_91 k173_120_95 k173_120_96 er189 (by omega)
                            · refine Tr.aload_n (pc := 193) (i := 0) d_X12_run_193 rfl rfl ?_
                              refine Tr.getf (pc := 194) d_X12_run_194 f_12_183 (by decide) (by decide) (ty_120 hS.1.1) ?_
                              refine Tr.tp 158 (fx_120_56 hS.1.1) ?_
                              refine Tr.iload_n (pc := 197) (i := 3) d_X12_run_197 rfl rfl ?_
                              refine Tr.iald (pc := 198) d_X12_run_198 (ty_158 hS.1.1) (by omega) (by omega) ?_
                              refine Tr.gen (P := fun v => (-2147483648) ≤ v ∧ v ≤ 2147483647) (ar_158 hS.1.2.1 _) (fun r198 er198 br198 => ?_)
                              refine Tr.if_ne (pc := 199) (tgt := 214) d_X12_run_199 rfl (fun c199 => ?_) (fun c199 => ?_)
                              · refine Tr.pick [0, 1, 2] (ls2 := [(0, (2, 120)), (2, (0, r41)), (3, (0, p173_3))]) rfl ?_
                                exact J214 _ hS k173_120_59 k173_120_62 k173_120_63 k173_120_65 k173_120_66 k173_120_67 k173_120_70 k173_120_75 k173_120_79 k173_120_84 k173_120_85 k173_120_86 k173_120_87 k173_120_88 k173_120_89 k173_120_90 k173_120_91 k173_120_95 k173_120_96 er189 (by omega)
                              · refine Tr.iload_n (pc := 202) (i := 3) d_X12_run_202 rfl rfl ?_
                                refine Tr.aload_n (pc := 203) (i := 0) d_X12_run_203 rfl rfl ?_
                                refine Tr.getf (pc := 204) d_X12_run_204 f_12_195 (by decide) (by decide) (ty_120 hS.1.1) ?_
                                refine Tr.gen (P := fun v => (-2147483648) ≤ v ∧ v ≤ 2147483647) (ir_120_60 hS.1.2.1) (fun r204 er204 br204 => ?_)
                                refine Tr.icmp_eq (pc := 207) (tgt := 214) d_X12_run_207 rfl (fun c207 => ?_) (fun c207 => ?_)
                                · refine Tr.pick [0, 1, 2] (ls2 := [(0, (2, 120)), (2, (0, r41)), (3, (0, p173_3))]) rfl ?_
                                  exact J214 _ hS k173_120_59 k173_120_62 k173_120_63 k173_120_65 k173_120_66 k173_120_67 k173_120_70 k173_120_75 k173_120_79 k173_120_84 k173_120_85 k173_120_86 k173_120_87 k173_120_88 k173_120_89 k173_120_90 k173_120_91 k173_120_95 k173_120_96 er189 (by omega)
                                · refine Tr.iconst (pc := 210) d_X12_run_210 (by decide) ?_
                                  refine Tr.goto (pc := 211) (tgt := 215) d_X12_run_211 rfl ?_
                                  refine Tr.pick [0, 1, 2] (ls2 := [(0, (2, 120)), (2, (0, r41)), (3, (0, p173_3))]) rfl ?_
                                  exact J215 _ _ hS (by omega) k173_120_59 k173_120_62 k173_120_63 k173_120_65 k173_120_66 k173_120_67 k173_120_70 k173_120_75 k173_120_79 k173_120_84 k173_120_85 k173_120_86 k173_120_87 k173_120_88 k173_120_89 k173_120_90 k173_120_91 k173_120_95 k173_120_96 er189 (by omega)
                      refine Tr.pick [1, 2, 0] (ls2 := [(0, (2, 120)), (2, (0, r41)), (3, (0, 0))]) rfl ?_
                      exact J173 _ _ _ hS (by omega) k147_120_59 k147_120_62 k147_120_63 k147_120_65 k147_120_66 k147_120_67 k147_120_70 k147_120_75 k147_120_79 k147_120_84 k147_120_85 k147_120_86 k147_120_87 k147_120_88 k147_120_89 k147_120_90 k147_120_91 k147_120_95 k147_120_96 (by omega) (Nat.lt_succ_self _)
                    · refine Tr.aload_n (pc := 153) (i := 0) d_X12_run_153 rfl rfl ?_
                      refine Tr.getf (pc := 154) d_X12_run_154 f_12_294 (by decide) (by decide) (ty_120 hS.1.1) ?_
                      refine Tr.tp 174 (fx_120_93 hS.1.1) ?_
                      refine Tr.iload_n (pc := 157) (i := 3) d_X12_run_157 rfl rfl ?_
                      refine Tr.aload_n (pc := 158) (i := 0) d_X12_run_158 rfl rfl ?_
                      refine Tr.getf (pc := 159) d_X12_run_159 f_12_222 (by decide) (by decide) (ty_120 hS.1.1) ?_
                      refine Tr.tp 161 (fx_120_69 hS.1.1) ?_
                      refine Tr.iload_n (pc := 162) (i := 3) d_X12_run_162 rfl rfl ?_
                      refine Tr.iald (pc := 163) d_X12_run_163 (ty_161 hS.1.1) (by omega) (by omega) ?_
                      refine Tr.gen (P := fun v => (-2147483648) ≤ v ∧ v ≤ 2147483647) (ar_161 hS.1.2.1 _) (fun r163 er163 br163 => ?_)
                      refine Tr.iastS (pc := 164) (P := St Tru ws_X12_run_120_w1 as_X12_run_120_w1 M0) d_X12_run_164 (ty_174 hS.1.1) (by omega) (by omega) (sa_174 hS (by decide) (by omega) trivial) (fun M164 hS w164 => ?_)
                      refine Tr.iincV (pc := 165) (n2 := (p147_3 + 1)) (ls2 := [(3, (0, (p147_3 + 1))), (0, (2, 120)), (2, (0, r41))]) d_X12_run_165 rfl (by decide) ((w32_id (by omega)).trans (by omega)) rfl ?_
                      refine Tr.goto (pc := 168) (tgt := 147) d_X12_run_168 rfl ?_
                      refine Tr.pick [1, 2, 0] (ls2 := [(0, (2, 120)), (2, (0, r41)), (3, (0, (p147_3 + 1)))]) rfl ?_
                      exact J147 _ _ hS (by omega) ((Wr.b w164 rfl).trans k147_120_59) ((Wr.b w164 rfl).trans k147_120_62) ((Wr.b w164 rfl).trans k147_120_63) ((Wr.b w164 rfl).trans k147_120_65) ((Wr.b w164 rfl).trans k147_120_66) ((Wr.b w164 rfl).trans k147_120_67) ((Wr.b w164 rfl).trans k147_120_70) ((Wr.b w164 rfl).trans k147_120_75) ((Wr.b w164 rfl).trans k147_120_79) ((Wr.b w164 rfl).trans k147_120_84) ((Wr.b w164 rfl).trans k147_120_85) ((Wr.b w164 rfl).trans k147_120_86) ((Wr.b w164 rfl).trans k147_120_87) ((Wr.b w164 rfl).trans k147_120_88) ((Wr.b w164 rfl).trans k147_120_89) ((Wr.b w164 rfl).trans k147_120_90) ((Wr.b w164 rfl).trans k147_120_91) ((Wr.b w164 rfl).trans k147_120_95) ((Wr.b w164 rfl).trans k147_120_96) (by omega) (by omega)
                refine Tr.pick [1, 2, 0] (ls2 := [(0, (2, 120)), (2, (0, r41)), (3, (0, 0))]) rfl ?_
                exact J147 _ _ _ hS (by omega) k121_120_59 k121_120_62 k121_120_63 k121_120_65 k121_120_66 k121_120_67 k121_120_70 k121_120_75 k121_120_79 k121_120_84 k121_120_85 k121_120_86 k121_120_87 k121_120_88 k121_120_89 k121_120_90 k121_120_91 k121_120_95 k121_120_96 (by omega) (Nat.lt_succ_self _)
              · refine Tr.aload_n (pc := 127) (i := 0) d_X12_run_127 rfl rfl ?_
                refine Tr.getf (pc := 128) d_X12_run_128 f_12_291 (by decide) (by decide) (ty_120 hS.1.1) ?_
                refine Tr.tp 173 (fx_120_92 hS.1.1) ?_
                refine Tr.iload_n (pc := 131) (i := 3) d_X12_run_131 rfl rfl ?_
                refine Tr.aload_n (pc := 132) (i := 0) d_X12_run_132 rfl rfl ?_
                refine Tr.getf (pc := 133) d_X12_run_133 f_12_174 (by decide) (by decide) (ty_120 hS.1.1) ?_
                refine Tr.tp 155 (fx_120_53 hS.1.1) ?_
                refine Tr.iload_n (pc := 136) (i := 3) d_X12_run_136 rfl rfl ?_
                refine Tr.iald (pc := 137) d_X12_run_137 (ty_155 hS.1.1) (by omega) (by omega) ?_
                refine Tr.gen (P := fun v => (-2147483648) ≤ v ∧ v ≤ 2147483647) (ar_155 hS.1.2.1 _) (fun r137 er137 br137 => ?_)
                refine Tr.iastS (pc := 138) (P := St Tru ws_X12_run_120_w1 as_X12_run_120_w1 M0) d_X12_run_138 (ty_173 hS.1.1) (by omega) (by omega) (sa_173 hS (by decide) (by omega) trivial) (fun M138 hS w138 => ?_)
                refine Tr.iincV (pc := 139) (n2 := (p121_3 + 1)) (ls2 := [(3, (0, (p121_3 + 1))), (0, (2, 120)), (2, (0, r41))]) d_X12_run_139 rfl (by decide) ((w32_id (by omega)).trans (by omega)) rfl ?_
                refine Tr.goto (pc := 142) (tgt := 121) d_X12_run_142 rfl ?_
                refine Tr.pick [1, 2, 0] (ls2 := [(0, (2, 120)), (2, (0, r41)), (3, (0, (p121_3 + 1)))]) rfl ?_
                exact J121 _ _ hS (by omega) ((Wr.b w138 rfl).trans k121_120_59) ((Wr.b w138 rfl).trans k121_120_62) ((Wr.b w138 rfl).trans k121_120_63) ((Wr.b w138 rfl).trans k121_120_65) ((Wr.b w138 rfl).trans k121_120_66) ((Wr.b w138 rfl).trans k121_120_67) ((Wr.b w138 rfl).trans k121_120_70) ((Wr.b w138 rfl).trans k121_120_75) ((Wr.b w138 rfl).trans k121_120_79) ((Wr.b w138 rfl).trans k121_120_84) ((Wr.b w138 rfl).trans k121_120_85) ((Wr.b w138 rfl).trans k121_120_86) ((Wr.b w138 rfl).trans k121_120_87) ((Wr.b w138 rfl).trans k121_120_88) ((Wr.b w138 rfl).trans k121_120_89) ((Wr.b w138 rfl).trans k121_120_90) ((Wr.b w138 rfl).trans k121_120_91) ((Wr.b w138 rfl).trans k121_120_95) ((Wr.b w138 rfl).trans k121_120_96) (by omega) (by omega)
          refine Tr.pick [2, 1, 0] (ls2 := [(0, (2, 120)), (2, (0, r41)), (3, (0, 0))]) rfl ?_
          exact J121 _ _ _ hS (by omega) ((Wr.b w116 rfl).trans ((Wr.b w108 rfl).trans ((Wr.b w100 rfl).trans ((Wr.b w92 rfl).trans ((Wr.b w84 rfl).trans ((Wr.b w76 rfl).trans ((Wr.b w68 rfl).trans ((Wr.b w60 rfl).trans ((Wr.b w52 rfl).trans ((Wr.b w47 rfl).trans es41_120_59)))))))))) ((Wr.b w116 rfl).trans ((Wr.b w108 rfl).trans ((Wr.b w100 rfl).trans ((Wr.b w92 rfl).trans ((Wr.b w84 rfl).trans ((Wr.b w76 rfl).trans ((Wr.b w68 rfl).trans ((Wr.b w60 rfl).trans er57)))))))) ((Wr.b w116 rfl).trans ((Wr.b w108 rfl).trans ((Wr.b w100 rfl).trans ((Wr.b w92 rfl).trans ((Wr.b w84 rfl).trans ((Wr.b w76 rfl).trans ((Wr.b w68 rfl).trans er65))))))) ((Wr.b w116 rfl).trans ((Wr.b w108 rfl).trans ((Wr.b w100 rfl).trans ((Wr.b w92 rfl).trans ((Wr.b w84 rfl).trans ((Wr.b w76 rfl).trans er73)))))) ((Wr.b w116 rfl).trans ((Wr.b w108 rfl).trans ((Wr.b w100 rfl).trans ((Wr.b w92 rfl).trans ((Wr.b w84 rfl).trans er81))))) ((Wr.b w116 rfl).trans ((Wr.b w108 rfl).trans ((Wr.b w100 rfl).trans ((Wr.b w92 rfl).trans er89)))) ((Wr.b w116 rfl).trans ((Wr.b w108 rfl).trans ((Wr.b w100 rfl).trans ((Wr.b w92 rfl).trans ((Wr.b w84 rfl).trans ((Wr.b w76 rfl).trans ((Wr.b w68 rfl).trans ((Wr.b w60 rfl).trans ((Wr.b w52 rfl).trans w47.1))))))))) ((Wr.b w116 rfl).trans ((Wr.b w108 rfl).trans er105)) ((Wr.b w116 rfl).trans er113) ((Wr.b w116 rfl).trans ((Wr.b w108 rfl).trans ((Wr.b w100 rfl).trans er97))) ((Wr.b w116 rfl).trans ((Wr.b w108 rfl).trans ((Wr.b w100 rfl).trans ((Wr.b w92 rfl).trans ((Wr.b w84 rfl).trans ((Wr.b w76 rfl).trans ((Wr.b w68 rfl).trans ((Wr.b w60 rfl).trans w52.1)))))))) ((Wr.b w116 rfl).trans ((Wr.b w108 rfl).trans ((Wr.b w100 rfl).trans ((Wr.b w92 rfl).trans ((Wr.b w84 rfl).trans ((Wr.b w76 rfl).trans ((Wr.b w68 rfl).trans w60.1))))))) ((Wr.b w116 rfl).trans ((Wr.b w108 rfl).trans ((Wr.b w100 rfl).trans ((Wr.b w92 rfl).trans ((Wr.b w84 rfl).trans ((Wr.b w76 rfl).trans w68.1)))))) ((Wr.b w116 rfl).trans ((Wr.b w108 rfl).trans ((Wr.b w100 rfl).trans ((Wr.b w92 rfl).trans ((Wr.b w84 rfl).trans w76.1))))) ((Wr.b w116 rfl).trans ((Wr.b w108 rfl).trans ((Wr.b w100 rfl).trans ((Wr.b w92 rfl).trans w84.1)))) ((Wr.b w116 rfl).trans ((Wr.b w108 rfl).trans ((Wr.b w100 rfl).trans w92.1))) ((Wr.b w116 rfl).trans ((Wr.b w108 rfl).trans w100.1)) ((Wr.b w116 rfl).trans w108.1) w116.1 (by omega) (Nat.lt_succ_self _)
        · refine Tr.aload_n (pc := 15) (i := 0) d_X12_run_15 rfl rfl ?_
          refine Tr.getf (pc := 16) d_X12_run_16 f_12_171 (by decide) (by decide) (ty_120 hS.1.1) ?_
          refine Tr.tp 154 (fx_120_52 hS.1.1) ?_
          refine Tr.iload_n (pc := 19) (i := 2) d_X12_run_19 rfl rfl ?_
          refine Tr.aload_n (pc := 20) (i := 0) d_X12_run_20 rfl rfl ?_
          refine Tr.getf (pc := 21) d_X12_run_21 f_12_168 (by decide) (by decide) (ty_120 hS.1.1) ?_
          refine Tr.tp 153 (fx_120_51 hS.1.1) ?_
          refine Tr.iload_n (pc := 24) (i := 2) d_X12_run_24 rfl rfl ?_
          refine Tr.iald (pc := 25) d_X12_run_25 (ty_153 hS.1.1) (by omega) (by omega) ?_
          refine Tr.gen (P := fun v => (-2147483648) ≤ v ∧ v ≤ 2147483647) (ar_153 hS.1.2.1 _) (fun r25 er25 br25 => ?_)
          refine Tr.iastS (pc := 26) (P := St Tru ws_X12_run_120_w1 as_X12_run_120_w1 M0) d_X12_run_26 (ty_154 hS.1.1) (by omega) (by omega) (sa_154 hS (by decide) (by omega) trivial) (fun M26 hS w26 => ?_)
          refine Tr.iincV (pc := 27) (n2 := (p10_2 + 1)) (ls2 := [(2, (0, (p10_2 + 1))), (0, (2, 120)), (1, (0, a1))]) d_X12_run_27 rfl (by decide) ((w32_id (by omega)).trans (by omega)) rfl ?_
          refine Tr.goto (pc := 30) (tgt := 10) d_X12_run_30 rfl ?_
          refine Tr.pick [1, 2, 0] (ls2 := [(0, (2, 120)), (1, (0, a1)), (2, (0, (p10_2 + 1)))]) rfl ?_
          exact J10 _ _ hS (by omega) ((Wr.b w26 rfl).trans k10_120_59) (by omega) (by omega)
    refine Tr.pick [1, 2, 0] (ls2 := [(0, (2, 120)), (1, (0, a1)), (2, (0, 0))]) rfl ?_
    exact J10 _ _ _ hS (by omega) eg120_59 (by omega) (Nat.lt_succ_self _)
  · refine Tr.bipush (pc := 5) d_X12_run_5 rfl (by decide) ?_
    have kr_120_59 : rd M0 120 59 = g120_59 := eg120_59
    exact Tr.iret (pc := 7) d_X12_run_7 rfl ⟨hS, _, rfl, by omega, by omega, by omega⟩

def ws_X12_blame_120_w1 : List (Int × Int) := [(120, 8), (120, 9)]
def as_X12_blame_120_w1 : List Int := []
def q_X12_blame_120_w1 (a1 : Int) (a2 : Int) (M0 M' : Mem) (r : Option PV) : Prop := St Pm0 ws_X12_blame_120_w1 as_X12_blame_120_w1 M0 M' ∧ r = none ∧ ((rd M0 120 8 = 0 ∧ rd M' 120 8 = a1) ∨ (1 ≤ rd M0 120 8 ∧ rd M' 120 8 = rd M0 120 8))
set_option maxRecDepth 100000 in
set_option maxHeartbeats 4000000 in
theorem sp_X12_blame_120_w1 {l : Launch} {K : EC} {M0 : Mem} (hI : In Pm0 M0)  (a1 : Int) (ha1 : 1 ≤ a1 ∧ a1 ≤ 5) (a2 : Int) (ha2 : 0 ≤ a2 ∧ a2 ≤ 900)  : Tr l K 0 mX12_blame 0 [(0, (2, 120)), (1, (0, a1)), (2, (0, a2))] [] M0 (q_X12_blame_120_w1 a1 a2 M0) := by
  have hS : St Pm0 ws_X12_blame_120_w1 as_X12_blame_120_w1 M0 M0 := St.rf hI
  obtain ⟨g120_8, eg120_8⟩ : ∃ v, rd M0 120 8 = v := ⟨_, rfl⟩
  have bg120_8 : 0 ≤ g120_8 ∧ g120_8 ≤ 5 := by rw [← eg120_8]; exact ir_120_8 hI.2.1
  refine Tr.aload_n (pc := 0) (i := 0) d_X12_blame_0 rfl rfl ?_
  refine Tr.getf (pc := 1) d_X12_blame_1 f_12_36 (by decide) (by decide) (ty_120 hS.1.1) ?_
  refine Tr.tp g120_8 eg120_8 ?_
  refine Tr.if_le (pc := 4) (tgt := 8) d_X12_blame_4 rfl (fun c4 => ?_) (fun c4 => ?_)
  · refine Tr.aload_n (pc := 8) (i := 0) d_X12_blame_8 rfl rfl ?_
    refine Tr.iload_n (pc := 9) (i := 1) d_X12_blame_9 rfl rfl ?_
    refine Tr.putfS (pc := 10) (P := St Pm0 ws_X12_blame_120_w1 as_X12_blame_120_w1 M0) d_X12_blame_10 f_12_36 (by decide) (by decide) (ty_120 hS.1.1) (st_120_8 hS (by decide) (by omega) (Pm0_fk hS.1.2.2.2.2 hS.1.2.1 (by omega))) (fun M10 hS w10 => ?_)
    refine Tr.aload_n (pc := 13) (i := 0) d_X12_blame_13 rfl rfl ?_
    refine Tr.iload_n (pc := 14) (i := 2) d_X12_blame_14 rfl rfl ?_
    refine Tr.putfS (pc := 15) (P := St Pm0 ws_X12_blame_120_w1 as_X12_blame_120_w1 M0) d_X12_blame_15 f_12_39 (by decide) (by decide) (ty_120 hS.1.1) (st_120_9 hS (by decide) (by omega) (Pm0.of hS.1.2.2.2.2 (fun _ => rd_wb _ rfl) (fun _ => rd_wb _ rfl) (fun _ => rd_wb _ rfl) (fun _ => rd_wb _ rfl) (fun _ => rd_wb _ rfl) (fun _ => rd_wb _ rfl) (fun _ => rd_wb _ rfl) (fun _ => rd_wb _ rfl) (fun _ => rd_wb _ rfl) (fun _ => rd_wb _ rfl) (rd_wb _ rfl) (rd_wb _ rfl) (rd_wb _ rfl) (rd_wb _ rfl) (rd_wb _ rfl) (rd_wb _ rfl) (rd_wb _ rfl) (rd_wb _ rfl) (rd_wb _ rfl) (rd_wb _ rfl) (rd_wb _ rfl))) (fun M15 hS w15 => ?_)
    have kr_120_8 : rd M15 120 8 = a1 := ((Wr.b w15 rfl).trans w10.1)
    exact Tr.vret (pc := 18) d_X12_blame_18 rfl ⟨hS, rfl, by omega⟩
  · have kr_120_8 : rd M0 120 8 = g120_8 := eg120_8
    exact Tr.vret (pc := 7) d_X12_blame_7 rfl ⟨hS, rfl, by omega⟩
end
