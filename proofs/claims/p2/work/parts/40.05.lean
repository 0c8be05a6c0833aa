def ws_X12_fit_120_w1 : List (Int × Int) := [(120, 59), (120, 60), (120, 61), (120, 62), (120, 63), (120, 64), (120, 65), (120, 66), (120, 67), (120, 68), (120, 75), (120, 79), (120, 84), (120, 109)]
def as_X12_fit_120_w1 : List Int := [154, 155, 156, 157, 158, 159, 160, 161, 162, 163, 164, 165, 166, 167, 168, 169, 170, 171, 172, 182, 183, 184]
def q_X12_fit_120_w1 (a1 : Int) (M0 M' : Mem) (r : Option PV) : Prop := St Tru ws_X12_fit_120_w1 as_X12_fit_120_w1 M0 M' ∧ ∃ v : Int, r = some (0, v) ∧ (-2147483648) ≤ v ∧ v ≤ 2147483647 ∧ (rd M' 120 59 = -1)
set_option maxRecDepth 100000 in
set_option maxHeartbeats 4000000 in
theorem sp_X12_fit_120_w1 {l : Launch} {K : EC} {M0 : Mem} (hI : In Tru M0) (en_120_12 : rd M0 120 12 = 1) (a1 : Int) (ha1 : (-2147483648) ≤ a1 ∧ a1 ≤ 2147483647)  (hq0 : rd M0 120 59 = -1) (hF_Bk1 : Bk1 M0) : Tr l K 8 mX12_fit 0 [(0, (2, 120)), (1, (0, a1))] [] M0 (q_X12_fit_120_w1 a1 M0) := by
  have hS : St Tru ws_X12_fit_120_w1 as_X12_fit_120_w1 M0 M0 := St.rf hI
  obtain ⟨g120_59, eg120_59⟩ : ∃ v, rd M0 120 59 = v := ⟨_, rfl⟩
  have bg120_59 : (-1) ≤ g120_59 ∧ g120_59 ≤ 5 := by rw [← eg120_59]; exact ir_120_59 hI.2.1
  refine Tr.aload_n (pc := 0) (i := 0) d_X12_fit_0 rfl rfl ?_
  refine Tr.iload_n (pc := 1) (i := 1) d_X12_fit_1 rfl rfl ?_
  refine Tr.callV (pc := 2) (as := [_]) d_X12_fit_2 s_12_555 ok_X12_isPart rfl rfl (Nat.le_of_ble_eq_true rfl) (Nat.le_of_ble_eq_true rfl) (by decide) (ty_120 hS.1.1) ?_
  refine Tr.imp (Tr.deep (by decide) (sp_X12_isPart_120_w1 hS.1 ((St.kp hS (by decide) (by decide) (by decide)).trans en_120_12) a1 (by omega))) ?_
  rintro M2 _ ⟨h2, r2, rfl, lr2, ur2, z2_0⟩
  have hS := St.tr hS h2 (by decide) (by decide)
  obtain ⟨w2_126_1, ew2_126_1⟩ : ∃ v, rd M2 126 1 = v := ⟨_, rfl⟩
  have bw2_126_1 : 0 ≤ w2_126_1 ∧ w2_126_1 ≤ 6 := by rw [← ew2_126_1]; exact ir_126_1 hS.1.2.1
  have ka2_126_1 : rd M2 126 1 = w2_126_1 := ew2_126_1
  refine Tr.sc [(0, r2)] rfl ?_
  refine Tr.if_eq (pc := 5) (tgt := 15) d_X12_fit_5 rfl (fun c5 => ?_) (fun c5 => ?_)
  · refine Tr.iconst (pc := 15) d_X12_fit_15 (by decide) ?_
    have kr_120_59 : rd M2 120 59 = g120_59 := ((St.kp h2 (by decide) (by decide) (by decide)).trans eg120_59)
    exact Tr.iret (pc := 16) d_X12_fit_16 rfl ⟨hS, _, rfl, by omega, by omega, by omega⟩
  · refine Tr.aload_n (pc := 8) (i := 0) d_X12_fit_8 rfl rfl ?_
    refine Tr.getf (pc := 9) d_X12_fit_9 f_12_333 (by decide) (by decide) (ty_120 hS.1.1) ?_
    refine Tr.gen (P := fun v => 0 ≤ v ∧ v ≤ 12) (ir_120_106 hS.1.2.1) (fun r9 er9 br9 => ?_)
    refine Tr.if_ne (pc := 12) (tgt := 17) d_X12_fit_12 rfl (fun c12 => ?_) (fun c12 => ?_)
    · refine Tr.iconst (pc := 17) d_X12_fit_17 (by decide) ?_
      refine Tr.istore_n (pc := 18) (i := 2) (ls2 := [(2, (0, 0)), (0, (2, 120)), (1, (0, a1))]) d_X12_fit_18 rfl (by decide) rfl ?_
      have J19 : ∀ (n19 : Nat) (M : Mem) (p19_2 u19_120_59 : Int), St Tru ws_X12_fit_120_w1 as_X12_fit_120_w1 M0 M → (0 ≤ p19_2 ∧ p19_2 ≤ 12) → ((-1) ≤ u19_120_59 ∧ u19_120_59 ≤ 5) → rd M 120 106 = r9 → rd M 120 59 = u19_120_59 → rd M 126 1 = w2_126_1 → (u19_120_59 = -1) → (12 - p19_2).toNat < n19 → Tr l K 8 mX12_fit 19 [(0, (2, 120)), (1, (0, a1)), (2, (0, p19_2))] [] M (q_X12_fit_120_w1 a1 M0) := by
        intro n19
        induction n19 with
        | zero => intro M p19_2 u19_120_59 hS bp19_2 bu19_120_59 k19_120_106 k19_120_59 k19_126_1 t19_0 hm19; exact absurd hm19 (Nat.not_lt_zero _)
        | succ n19 J19 =>
          intro M p19_2 u19_120_59 hS bp19_2 bu19_120_59 k19_120_106 k19_120_59 k19_126_1 t19_0 hm19
          refine Tr.iload_n (pc := 19) (i := 2) d_X12_fit_19 rfl rfl ?_
          refine Tr.aload_n (pc := 20) (i := 0) d_X12_fit_20 rfl rfl ?_
          refine Tr.getf (pc := 21) d_X12_fit_21 f_12_333 (by decide) (by decide) (ty_120 hS.1.1) ?_
          refine Tr.tp r9 k19_120_106 ?_
          refine Tr.icmp_ge (pc := 24) (tgt := 196) d_X12_fit_24 rfl (fun c24 => ?_) (fun c24 => ?_)
          · refine Tr.lconst (pc := 196) (v := 0) d_X12_fit_196 rfl (by decide) ?_
            refine Tr.lstore_n (pc := 197) (i := 2) (ls2 := [(2, (1, 0)), (0, (2, 120)), (1, (0, a1))]) d_X12_fit_197 rfl (by decide) rfl ?_
            refine Tr.aload_n (pc := 198) (i := 0) d_X12_fit_198 rfl rfl ?_
            refine Tr.getf (pc := 199) d_X12_fit_199 f_12_345 (by decide) (by decide) (ty_120 hS.1.1) ?_
            refine Tr.tp 182 (fx_120_110 hS.1.1) ?_
            refine Tr.iconst (pc := 202) d_X12_fit_202 (by decide) ?_
            refine Tr.iconst (pc := 203) d_X12_fit_203 (by decide) ?_
            refine Tr.iastS (pc := 204) (P := St Tru ws_X12_fit_120_w1 as_X12_fit_120_w1 M0) d_X12_fit_204 (ty_182 hS.1.1) (by omega) (by omega) (sa_182 hS (by decide) (by omega) trivial) (fun M204 hS w204 => ?_)
            refine Tr.iconst (pc := 205) d_X12_fit_205 (by decide) ?_
            refine Tr.istore (pc := 206) (i := 4) (ls2 := [(4, (0, 0)), (2, (1, 0)), (0, (2, 120)), (1, (0, a1))]) d_X12_fit_206 (by decide) rfl ?_
            have J208 : ∀ (n208 : Nat) (M : Mem) (p208_2 p208_4 : Int), St Tru ws_X12_fit_120_w1 as_X12_fit_120_w1 M0 M → ((-9223372036854775808) ≤ p208_2 ∧ p208_2 ≤ 9223372036854775807) → (0 ≤ p208_4 ∧ p208_4 ≤ 4097) → rd M 120 106 = r9 → rd M 120 59 = u19_120_59 → rd M 126 1 = w2_126_1 → (u19_120_59 = -1) → (4097 - p208_4).toNat < n208 → Tr l K 8 mX12_fit 208 [(0, (2, 120)), (2, (1, p208_2)), (4, (0, p208_4))] [] M (q_X12_fit_120_w1 a1 M0) := by
              intro n208
              induction n208 with
              | zero => intro M p208_2 p208_4 hS bp208_2 bp208_4 k208_120_106 k208_120_59 k208_126_1 t208_0 hm208; exact absurd hm208 (Nat.not_lt_zero _)
              | succ n208 J208 =>
                intro M p208_2 p208_4 hS bp208_2 bp208_4 k208_120_106 k208_120_59 k208_126_1 t208_0 hm208
                refine Tr.iload (pc := 208) (i := 4) d_X12_fit_208 rfl ?_
                refine Tr.sipush (pc := 210) d_X12_fit_210 rfl (by decide) ?_
                refine Tr.icmp_ge (pc := 213) (tgt := 431) d_X12_fit_213 rfl (fun c213 => ?_) (fun c213 => ?_)
                · refine Tr.aload_n (pc := 431) (i := 0) d_X12_fit_431 rfl rfl ?_
                  refine Tr.iconst (pc := 432) d_X12_fit_432 (by decide) ?_
                  refine Tr.putzS (pc := 433) (P := St Tru ws_X12_fit_120_w1 as_X12_fit_120_w1 M0) d_X12_fit_433 f_12_342 (by decide) (ty_120 hS.1.1) (by omega) (st_120_109 hS (by decide) (by omega) trivial) (fun M433 hS w433 => ?_)
                  refine Tr.lload_n (pc := 436) (i := 2) d_X12_fit_436 rfl rfl ?_
                  refine Tr.l2i (pc := 437) d_X12_fit_437 ?_
                  refine Tr.gen (P := fun v => (-2147483648) ≤ v ∧ v ≤ 2147483647) (w32_b _) (fun r437 er437 br437 => ?_)
                  have kr_120_59 : rd M433 120 59 = u19_120_59 := ((Wr.b w433 rfl).trans k208_120_59)
                  exact Tr.iret (pc := 438) d_X12_fit_438 rfl ⟨hS, _, rfl, by omega, by omega, by omega⟩
                · refine Tr.lconst (pc := 216) (v := 0) d_X12_fit_216 rfl (by decide) ?_
                  refine Tr.lstore (pc := 217) (i := 5) (ls2 := [(5, (1, 0)), (0, (2, 120)), (2, (1, p208_2)), (4, (0, p208_4))]) d_X12_fit_217 (by decide) rfl ?_
                  refine Tr.iconst (pc := 219) d_X12_fit_219 (by decide) ?_
                  refine Tr.istore (pc := 220) (i := 7) (ls2 := [(7, (0, 0)), (5, (1, 0)), (0, (2, 120)), (2, (1, p208_2)), (4, (0, p208_4))]) d_X12_fit_220 (by decide) rfl ?_
                  have J222 : ∀ (n222 : Nat) (M : Mem) (p222_5 p222_7 : Int), St Tru ws_X12_fit_120_w1 as_X12_fit_120_w1 M0 M → ((-9223372036854775808) ≤ p222_5 ∧ p222_5 ≤ 9223372036854775807) → (0 ≤ p222_7 ∧ p222_7 ≤ 12) → (0 ≤ p208_4 ∧ p208_4 ≤ 4096) → rd M 120 106 = r9 → rd M 120 59 = u19_120_59 → rd M 126 1 = w2_126_1 → (u19_120_59 = -1) → (12 - p222_7).toNat < n222 → Tr l K 8 mX12_fit 222 [(0, (2, 120)), (2, (1, p208_2)), (4, (0, p208_4)), (5, (1, p222_5)), (7, (0, p222_7))] [] M (q_X12_fit_120_w1 a1 M0) := by
                    intro n222
                    induction n222 with
                    | zero => intro M p222_5 p222_7 hS bp222_5 bp222_7 z222p208_4 k222_120_106 k222_120_59 k222_126_1 t222_0 hm222; exact absurd hm222 (Nat.not_lt_zero _)
                    | succ n222 J222 =>
                      intro M p222_5 p222_7 hS bp222_5 bp222_7 z222p208_4 k222_120_106 k222_120_59 k222_126_1 t222_0 hm222
                      refine Tr.iload (pc := 222) (i := 7) d_X12_fit_222 rfl ?_
                      refine Tr.aload_n (pc := 224) (i := 0) d_X12_fit_224 rfl rfl ?_
                      refine Tr.getf (pc := 225) d_X12_fit_225 f_12_333 (by decide) (by decide) (ty_120 hS.1.1) ?_
                      refine Tr.tp r9 k222_120_106 ?_
                      refine Tr.icmp_ge (pc := 228) (tgt := 335) d_X12_fit_228 rfl (fun c228 => ?_) (fun c228 => ?_)
                      · refine Tr.aload_n (pc := 335) (i := 0) d_X12_fit_335 rfl rfl ?_
                        refine Tr.getf (pc := 336) d_X12_fit_336 f_12_345 (by decide) (by decide) (ty_120 hS.1.1) ?_
                        refine Tr.tp 182 (fx_120_110 hS.1.1) ?_
                        refine Tr.iconst (pc := 339) d_X12_fit_339 (by decide) ?_
                        refine Tr.iald (pc := 340) d_X12_fit_340 (ty_182 hS.1.1) (by omega) (by omega) ?_
                        refine Tr.gen (P := fun v => (-2147483648) ≤ v ∧ v ≤ 2147483647) (ar_182 hS.1.2.1 _) (fun r340 er340 br340 => ?_)
                        have J361 : ∀ (M : Mem), St Tru ws_X12_fit_120_w1 as_X12_fit_120_w1 M0 M → rd M 120 106 = r9 → rd M 120 59 = u19_120_59 → rd M 126 1 = w2_126_1 → (u19_120_59 = -1) → Tr l K 8 mX12_fit 361 [(0, (2, 120)), (2, (1, p208_2)), (4, (0, p208_4)), (5, (1, p222_5))] [] M (q_X12_fit_120_w1 a1 M0) := by
                          intro M  hS  k361_120_106 k361_120_59 k361_126_1 t361_0
                          refine Tr.aload_n (pc := 361) (i := 0) d_X12_fit_361 rfl rfl ?_
                          refine Tr.getf (pc := 362) d_X12_fit_362 f_12_345 (by decide) (by decide) (ty_120 hS.1.1) ?_
                          refine Tr.tp 182 (fx_120_110 hS.1.1) ?_
                          refine Tr.iconst (pc := 365) d_X12_fit_365 (by decide) ?_
                          refine Tr.iald (pc := 366) d_X12_fit_366 (ty_182 hS.1.1) (by omega) (by omega) ?_
                          refine Tr.gen (P := fun v => (-2147483648) ≤ v ∧ v ≤ 2147483647) (ar_182 hS.1.2.1 _) (fun r366 er366 br366 => ?_)
                          have J425 : ∀ (M : Mem) (p425_2 : Int), St Tru ws_X12_fit_120_w1 as_X12_fit_120_w1 M0 M → ((-9223372036854775808) ≤ p425_2 ∧ p425_2 ≤ 9223372036854775807) → rd M 120 106 = r9 → rd M 120 59 = u19_120_59 → rd M 126 1 = w2_126_1 → (u19_120_59 = -1) → Tr l K 8 mX12_fit 425 [(0, (2, 120)), (2, (1, p425_2)), (4, (0, p208_4))] [] M (q_X12_fit_120_w1 a1 M0) := by
                            intro M p425_2 hS bp425_2 k425_120_106 k425_120_59 k425_126_1 t425_0
                            refine Tr.iincV (pc := 425) (n2 := (p208_4 + 1)) (ls2 := [(4, (0, (p208_4 + 1))), (0, (2, 120)), (2, (1, p425_2))]) d_X12_fit_425 rfl (by decide) ((w32_id (by omega)).trans (by omega)) rfl ?_
                            refine Tr.goto (pc := 428) (tgt := 208) d_X12_fit_428 rfl ?_
                            refine Tr.pick [1, 2, 0] (ls2 := [(0, (2, 120)), (2, (1, p425_2)), (4, (0, (p208_4 + 1)))]) rfl ?_
                            exact J208 _ _ _ hS (by omega) (by omega) k425_120_106 k425_120_59 k425_126_1 (by omega) (by omega)
                          have J380 : ∀ (M : Mem), St Tru ws_X12_fit_120_w1 as_X12_fit_120_w1 M0 M → rd M 120 106 = r9 → rd M 120 59 = u19_120_59 → rd M 126 1 = w2_126_1 → rd M 182 3 = r366 → (u19_120_59 = -1) → Tr l K 8 mX12_fit 380 [(0, (2, 120)), (4, (0, p208_4)), (5, (1, p222_5))] [] M (q_X12_fit_120_w1 a1 M0) := by
                            intro M  hS  k380_120_106 k380_120_59 k380_126_1 k380_182_3 t380_0
                            refine Tr.lload (pc := 380) (i := 5) d_X12_fit_380 rfl ?_
                            refine Tr.lstore_n (pc := 382) (i := 2) (ls2 := [(2, (1, p222_5)), (0, (2, 120)), (4, (0, p208_4)), (5, (1, p222_5))]) d_X12_fit_382 rfl (by decide) rfl ?_
                            refine Tr.aload_n (pc := 383) (i := 0) d_X12_fit_383 rfl rfl ?_
                            refine Tr.getf (pc := 384) d_X12_fit_384 f_12_345 (by decide) (by decide) (ty_120 hS.1.1) ?_
                            refine Tr.tp 182 (fx_120_110 hS.1.1) ?_
                            refine Tr.iconst (pc := 387) d_X12_fit_387 (by decide) ?_
                            refine Tr.iload (pc := 388) (i := 4) d_X12_fit_388 rfl ?_
                            refine Tr.bipush (pc := 390) d_X12_fit_390 rfl (by decide) ?_
                            refine Tr.ishr (pc := 392) d_X12_fit_392 ?_
                            refine Tr.gen (P := fun v => (-2147483648) ≤ v ∧ v ≤ 2147483647) (i32_b _) (fun r392 er392 br392 => ?_)
                            refine Tr.iastS (pc := 393) (P := St Tru ws_X12_fit_120_w1 as_X12_fit_120_w1 M0) d_X12_fit_393 (ty_182 hS.1.1) (by omega) (by omega) (sa_182 hS (by decide) (by omega) trivial) (fun M393 hS w393 => ?_)
                            refine Tr.aload_n (pc := 394) (i := 0) d_X12_fit_394 rfl rfl ?_
                            refine Tr.getf (pc := 395) d_X12_fit_395 f_12_345 (by decide) (by decide) (ty_120 hS.1.1) ?_
                            refine Tr.tp 182 (fx_120_110 hS.1.1) ?_
                            refine Tr.iconst (pc := 398) d_X12_fit_398 (by decide) ?_
                            refine Tr.iload (pc := 399) (i := 4) d_X12_fit_399 rfl ?_
                            refine Tr.iconst (pc := 401) d_X12_fit_401 (by decide) ?_
                            refine Tr.ishr (pc := 402) d_X12_fit_402 ?_
                            refine Tr.gen (P := fun v => (-2147483648) ≤ v ∧ v ≤ 2147483647) (i32_b _) (fun r402 er402 br402 => ?_)
                            refine Tr.bipush (pc := 403) d_X12_fit_403 rfl (by decide) ?_
                            refine Tr.iand (pc := 405) d_X12_fit_405 ?_
                            refine Tr.gen (P := fun v => 0 ≤ v ∧ v ≤ 15) (f_iand_m 4 (by decide +kernel) (by decide) (by decide +kernel)) (fun r405 er405 br405 => ?_)
                            refine Tr.iastS (pc := 406) (P := St Tru ws_X12_fit_120_w1 as_X12_fit_120_w1 M0) d_X12_fit_406 (ty_182 hS.1.1) (by omega) (by omega) (sa_182 hS (by decide) (by omega) trivial) (fun M406 hS w406 => ?_)
                            refine Tr.aload_n (pc := 407) (i := 0) d_X12_fit_407 rfl rfl ?_
                            refine Tr.getf (pc := 408) d_X12_fit_408 f_12_345 (by decide) (by decide) (ty_120 hS.1.1) ?_
                            refine Tr.tp 182 (fx_120_110 hS.1.1) ?_
                            refine Tr.iconst (pc := 411) d_X12_fit_411 (by decide) ?_
                            refine Tr.iload (pc := 412) (i := 4) d_X12_fit_412 rfl ?_
                            refine Tr.bipush (pc := 414) d_X12_fit_414 rfl (by decide) ?_
                            refine Tr.iand (pc := 416) d_X12_fit_416 ?_
                            refine Tr.gen (P := fun v => 0 ≤ v ∧ v ≤ 15) (f_iand_m 4 (by decide +kernel) (by decide) (by decide +kernel)) (fun r416 er416 br416 => ?_)
                            refine Tr.iastS (pc := 417) (P := St Tru ws_X12_fit_120_w1 as_X12_fit_120_w1 M0) d_X12_fit_417 (ty_182 hS.1.1) (by omega) (by omega) (sa_182 hS (by decide) (by omega) trivial) (fun M417 hS w417 => ?_)
                            refine Tr.aload_n (pc := 418) (i := 0) d_X12_fit_418 rfl rfl ?_
                            refine Tr.getf (pc := 419) d_X12_fit_419 f_12_345 (by decide) (by decide) (ty_120 hS.1.1) ?_
                            refine Tr.tp 182 (fx_120_110 hS.1.1) ?_
                            refine Tr.iconst (pc := 422) d_X12_fit_422 (by decide) ?_
                            refine Tr.iconst (pc := 423) d_X12_fit_423 (by decide) ?_
                            refine Tr.iastS (pc := 424) (P := St Tru ws_X12_fit_120_w1 as_X12_fit_120_w1 M0) d_X12_fit_424 (ty_182 hS.1.1) (by omega) (by omega) (sa_182 hS (by decide) (by omega) trivial) (fun M424 hS w424 => ?_)
                            refine Tr.pick [1, 0, 2] (ls2 := [(0, (2, 120)), (2, (1, p222_5)), (4, (0, p208_4))]) rfl ?_
                            exact J425 _ _ hS (by omega) ((Wr.b w424 rfl).trans ((Wr.b w417 rfl).trans ((Wr.b w406 rfl).trans ((Wr.b w393 rfl).trans k380_120_106)))) ((Wr.b w424 rfl).trans ((Wr.b w417 rfl).trans ((Wr.b w406 rfl).trans ((Wr.b w393 rfl).trans k380_120_59)))) ((Wr.b w424 rfl).trans ((Wr.b w417 rfl).trans ((Wr.b w406 rfl).trans ((Wr.b w393 rfl).trans k380_126_1)))) (by omega)
                          refine Tr.if_le (pc := 367) (tgt := 380) d_X12_fit_367 rfl (fun c367 => ?_) (fun c367 => ?_)
                          · refine Tr.pick [0, 2, 3] (ls2 := [(0, (2, 120)), (4, (0, p208_4)), (5, (1, p222_5))]) rfl ?_
                            exact J380 _ hS k361_120_106 k361_120_59 k361_126_1 er366 (by omega)
                          · refine Tr.lload (pc := 370) (i := 5) d_X12_fit_370 rfl ?_
                            refine Tr.lload_n (pc := 372) (i := 2) d_X12_fit_372 rfl rfl ?_
                            refine Tr.lcmp (pc := 373) d_X12_fit_373 ?_
                            refine Tr.gen (P := fun v => (v = 1 ∧ p208_2 < p222_5) ∨ (v = 0 ∧ p222_5 = p208_2) ∨ (v = -1 ∧ p222_5 < p208_2)) (f_lcmp_c _ _) (fun r373 er373 br373 => ?_)
                            refine Tr.if_lt (pc := 374) (tgt := 380) d_X12_fit_374 rfl (fun c374 => ?_) (fun c374 => ?_)
                            · refine Tr.pick [0, 2, 3] (ls2 := [(0, (2, 120)), (4, (0, p208_4)), (5, (1, p222_5))]) rfl ?_
                              exact J380 _ hS k361_120_106 k361_120_59 k361_126_1 er366 (by omega)
                            · refine Tr.goto (pc := 377) (tgt := 425) d_X12_fit_377 rfl ?_
                              refine Tr.pick [0, 1, 2] (ls2 := [(0, (2, 120)), (2, (1, p208_2)), (4, (0, p208_4))]) rfl ?_
                              exact J425 _ _ hS (by omega) k361_120_106 k361_120_59 k361_126_1 (by omega)
                        refine Tr.if_le (pc := 341) (tgt := 361) d_X12_fit_341 rfl (fun c341 => ?_) (fun c341 => ?_)
                        · refine Tr.pick [0, 1, 2, 3] (ls2 := [(0, (2, 120)), (2, (1, p208_2)), (4, (0, p208_4)), (5, (1, p222_5))]) rfl ?_
                          exact J361 _ hS k222_120_106 k222_120_59 k222_126_1 (by omega)
                        · refine Tr.lload (pc := 344) (i := 5) d_X12_fit_344 rfl ?_
                          refine Tr.lload_n (pc := 346) (i := 2) d_X12_fit_346 rfl rfl ?_
                          refine Tr.lcmp (pc := 347) d_X12_fit_347 ?_
                          refine Tr.gen (P := fun v => (v = 1 ∧ p208_2 < p222_5) ∨ (v = 0 ∧ p222_5 = p208_2) ∨ (v = -1 ∧ p222_5 < p208_2)) (f_lcmp_c _ _) (fun r347 er347 br347 => ?_)
                          refine Tr.if_ne (pc := 348) (tgt := 361) d_X12_fit_348 rfl (fun c348 => ?_) (fun c348 => ?_)
                          · refine Tr.pick [0, 1, 2, 3] (ls2 := [(0, (2, 120)), (2, (1, p208_2)), (4, (0, p208_4)), (5, (1, p222_5))]) rfl ?_
                            exact J361 _ hS k222_120_106 k222_120_59 k222_126_1 (by omega)
                          · refine Tr.aload_n (pc := 351) (i := 0) d_X12_fit_351 rfl rfl ?_
                            refine Tr.getf (pc := 352) d_X12_fit_352 f_12_345 (by decide) (by decide) (ty_120 hS.1.1) ?_
                            refine Tr.tp 182 (fx_120_110 hS.1.1) ?_
                            refine Tr.iconst (pc := 355) d_X12_fit_355 (by decide) ?_
                            refine Tr.dup2 (pc := 356) d_X12_fit_356 ne01 ne21 ?_
                            refine Tr.iald (pc := 357) d_X12_fit_357 (ty_182 hS.1.1) (by omega) (by omega) ?_
                            refine Tr.tp r340 er340 ?_
                            refine Tr.iconst (pc := 358) d_X12_fit_358 (by decide) ?_
                            refine Tr.iadd (pc := 359) d_X12_fit_359 ?_
                            refine Tr.gen (P := fun v => (-2147483648) ≤ v ∧ v ≤ 2147483647) (w32_b _) (fun r359 er359 br359 => ?_)
                            refine Tr.iastS (pc := 360) (P := St Tru ws_X12_fit_120_w1 as_X12_fit_120_w1 M0) d_X12_fit_360 (ty_182 hS.1.1) (by omega) (by omega) (sa_182 hS (by decide) (by omega) trivial) (fun M360 hS w360 => ?_)
                            refine Tr.pick [0, 1, 2, 3] (ls2 := [(0, (2, 120)), (2, (1, p208_2)), (4, (0, p208_4)), (5, (1, p222_5))]) rfl ?_
                            exact J361 _ hS ((Wr.b w360 rfl).trans k222_120_106) ((Wr.b w360 rfl).trans k222_120_59) ((Wr.b w360 rfl).trans k222_126_1) (by omega)
                      · refine Tr.aload_n (pc := 231) (i := 0) d_X12_fit_231 rfl rfl ?_
                        refine Tr.getf (pc := 232) d_X12_fit_232 f_12_348 (by decide) (by decide) (ty_120 hS.1.1) ?_
                        refine Tr.tp 183 (fx_120_111 hS.1.1) ?_
                        refine Tr.iload (pc := 235) (i := 7) d_X12_fit_235 rfl ?_
                        refine Tr.lald (pc := 237) d_X12_fit_237 (ty_183 hS.1.1) (by omega) (by omega) ?_
                        refine Tr.gen (P := fun v => (-9223372036854775808) ≤ v ∧ v ≤ 9223372036854775807) (ar_183 hS.1.2.1 _) (fun r237 er237 br237 => ?_)
                        refine Tr.aload_n (pc := 238) (i := 0) d_X12_fit_238 rfl rfl ?_
                        refine Tr.getf (pc := 239) d_X12_fit_239 f_12_351 (by decide) (by decide) (ty_120 hS.1.1) ?_
                        refine Tr.tp 184 (fx_120_112 hS.1.1) ?_
                        refine Tr.iconst (pc := 242) d_X12_fit_242 (by decide) ?_
                        refine Tr.iload (pc := 243) (i := 7) d_X12_fit_243 rfl ?_
                        refine Tr.imul (pc := 245) d_X12_fit_245 ?_
                        refine Tr.tp (3 * p222_7) ((w32_id (by omega)).trans (by omega)) ?_
                        refine Tr.iald (pc := 246) d_X12_fit_246 (ty_184 hS.1.1) (by omega) (by omega) ?_
                        refine Tr.gen (P := fun v => (-2147483648) ≤ v ∧ v ≤ 2147483647) (ar_184 hS.1.2.1 _) (fun r246 er246 br246 => ?_)
                        refine Tr.i2l (pc := 247) d_X12_fit_247 ?_
                        refine Tr.iload (pc := 248) (i := 4) d_X12_fit_248 rfl ?_
                        refine Tr.bipush (pc := 250) d_X12_fit_250 rfl (by decide) ?_
                        refine Tr.ishr (pc := 252) d_X12_fit_252 ?_
                        refine Tr.gen (P := fun v => (-2147483648) ≤ v ∧ v ≤ 2147483647) (i32_b _) (fun r252 er252 br252 => ?_)
                        refine Tr.i2l (pc := 253) d_X12_fit_253 ?_
                        refine Tr.lmul (pc := 254) d_X12_fit_254 ?_
                        refine Tr.gen (P := fun v => (-9223372036854775808) ≤ v ∧ v ≤ 9223372036854775807) (w64_b _) (fun r254 er254 br254 => ?_)
                        refine Tr.ladd (pc := 255) d_X12_fit_255 ?_
                        refine Tr.gen (P := fun v => (-9223372036854775808) ≤ v ∧ v ≤ 9223372036854775807) (w64_b _) (fun r255 er255 br255 => ?_)
                        refine Tr.aload_n (pc := 256) (i := 0) d_X12_fit_256 rfl rfl ?_
                        refine Tr.getf (pc := 257) d_X12_fit_257 f_12_351 (by decide) (by decide) (ty_120 hS.1.1) ?_
                        refine Tr.tp 184 (fx_120_112 hS.1.1) ?_
                        refine Tr.iconst (pc := 260) d_X12_fit_260 (by decide) ?_
                        refine Tr.iload (pc := 261) (i := 7) d_X12_fit_261 rfl ?_
                        refine Tr.imul (pc := 263) d_X12_fit_263 ?_
                        refine Tr.tp (3 * p222_7) ((w32_id (by omega)).trans (by omega)) ?_
                        refine Tr.iconst (pc := 264) d_X12_fit_264 (by decide) ?_
                        refine Tr.iadd (pc := 265) d_X12_fit_265 ?_
                        refine Tr.tp (3 * p222_7 + 1) ((w32_id (by omega)).trans (by omega)) ?_
                        refine Tr.iald (pc := 266) d_X12_fit_266 (ty_184 hS.1.1) (by omega) (by omega) ?_
                        refine Tr.gen (P := fun v => (-2147483648) ≤ v ∧ v ≤ 2147483647) (ar_184 hS.1.2.1 _) (fun r266 er266 br266 => ?_)
                        refine Tr.i2l (pc := 267) d_X12_fit_267 ?_
                        refine Tr.iload (pc := 268) (i := 4) d_X12_fit_268 rfl ?_
                        refine Tr.iconst (pc := 270) d_X12_fit_270 (by decide) ?_
                        refine Tr.ishr (pc := 271) d_X12_fit_271 ?_
                        refine Tr.gen (P := fun v => (-2147483648) ≤ v ∧ v ≤ 2147483647) (i32_b _) (fun r271 er271 br271 => ?_)
                        refine Tr.bipush (pc := 272) d_X12_fit_272 rfl (by decide) ?_
                        refine Tr.iand (pc := 274) d_X12_fit_274 ?_
                        refine Tr.gen (P := fun v => 0 ≤ v ∧ v ≤ 15) (f_iand_m 4 (by decide +kernel) (by decide) (by decide +kernel)) (fun r274 er274 br274 => ?_)
                        refine Tr.i2l (pc := 275) d_X12_fit_275 ?_
                        refine Tr.lmul (pc := 276) d_X12_fit_276 ?_
                        refine Tr.gen (P := fun v => (-9223372036854775808) ≤ v ∧ v ≤ 9223372036854775807) (w64_b _) (fun r276 er276 br276 => ?_)
                        refine Tr.ladd (pc := 277) d_X12_fit_277 ?_
                        refine Tr.gen (P := fun v => (-9223372036854775808) ≤ v ∧ v ≤ 9223372036854775807) (w64_b _) (fun r277 er277 br277 => ?_)
                        refine Tr.aload_n (pc := 278) (i := 0) d_X12_fit_278 rfl rfl ?_
                        refine Tr.getf (pc := 279) d_X12_fit_279 f_12_351 (by decide) (by decide) (ty_120 hS.1.1) ?_
                        refine Tr.tp 184 (fx_120_112 hS.1.1) ?_
                        refine Tr.iconst (pc := 282) d_X12_fit_282 (by decide) ?_
                        refine Tr.iload (pc := 283) (i := 7) d_X12_fit_283 rfl ?_
                        refine Tr.imul (pc := 285) d_X12_fit_285 ?_
                        refine Tr.tp (3 * p222_7) ((w32_id (by omega)).trans (by omega)) ?_
                        refine Tr.iconst (pc := 286) d_X12_fit_286 (by decide) ?_
                        refine Tr.iadd (pc := 287) d_X12_fit_287 ?_
                        refine Tr.tp (3 * p222_7 + 2) ((w32_id (by omega)).trans (by omega)) ?_
                        refine Tr.iald (pc := 288) d_X12_fit_288 (ty_184 hS.1.1) (by omega) (by omega) ?_
                        refine Tr.gen (P := fun v => (-2147483648) ≤ v ∧ v ≤ 2147483647) (ar_184 hS.1.2.1 _) (fun r288 er288 br288 => ?_)
                        refine Tr.i2l (pc := 289) d_X12_fit_289 ?_
                        refine Tr.iload (pc := 290) (i := 4) d_X12_fit_290 rfl ?_
                        refine Tr.bipush (pc := 292) d_X12_fit_292 rfl (by decide) ?_
                        refine Tr.iand (pc := 294) d_X12_fit_294 ?_
                        refine Tr.gen (P := fun v => 0 ≤ v ∧ v ≤ 15) (f_iand_m 4 (by decide +kernel) (by decide) (by decide +kernel)) (fun r294 er294 br294 => ?_)
                        refine Tr.i2l (pc := 295) d_X12_fit_295 ?_
                        refine Tr.lmul (pc := 296) d_X12_fit_296 ?_
                        refine Tr.gen (P := fun v => (-9223372036854775808) ≤ v ∧ v ≤ 9223372036854775807) (w64_b _) (fun r296 er296 br296 => ?_)
                        refine Tr.ladd (pc := 297) d_X12_fit_297 ?_
                        refine Tr.gen (P := fun v => (-9223372036854775808) ≤ v ∧ v ≤ 9223372036854775807) (w64_b _) (fun r297 er297 br297 => ?_)
                        refine Tr.aload_n (pc := 298) (i := 0) d_X12_fit_298 rfl rfl ?_
                        refine Tr.getf (pc := 299) d_X12_fit_299 f_12_339 (by decide) (by decide) (ty_120 hS.1.1) ?_
                        refine Tr.tp 181 (fx_120_108 hS.1.1) ?_
                        refine Tr.iload (pc := 302) (i := 7) d_X12_fit_302 rfl ?_
                        refine Tr.iald (pc := 304) d_X12_fit_304 (ty_181 hS.1.1) (by omega) (by omega) ?_
                        refine Tr.gen (P := fun v => (-2147483648) ≤ v ∧ v ≤ 2147483647) (ar_181 hS.1.2.1 _) (fun r304 er304 br304 => ?_)
                        refine Tr.i2l (pc := 305) d_X12_fit_305 ?_
                        refine Tr.lsub (pc := 306) d_X12_fit_306 ?_
                        refine Tr.gen (P := fun v => (-9223372036854775808) ≤ v ∧ v ≤ 9223372036854775807) (w64_b _) (fun r306 er306 br306 => ?_)
                        refine Tr.lstore (pc := 307) (i := 8) (ls2 := [(8, (1, r306)), (0, (2, 120)), (2, (1, p208_2)), (4, (0, p208_4)), (5, (1, p222_5)), (7, (0, p222_7))]) d_X12_fit_307 (by decide) rfl ?_
                        refine Tr.lload (pc := 309) (i := 5) d_X12_fit_309 rfl ?_
                        refine Tr.lload (pc := 311) (i := 8) d_X12_fit_311 rfl ?_
                        refine Tr.lconst (pc := 313) (v := 0) d_X12_fit_313 rfl (by decide) ?_
                        refine Tr.lcmp (pc := 314) d_X12_fit_314 ?_
                        refine Tr.gen (P := fun v => (v = 1 ∧ 0 < r306) ∨ (v = 0 ∧ r306 = 0) ∨ (v = -1 ∧ r306 < 0)) (f_lcmp_c _ _) (fun r314 er314 br314 => ?_)
                        have J326 : ∀ (M : Mem) (q326_1 : Int), St Tru ws_X12_fit_120_w1 as_X12_fit_120_w1 M0 M → ((-9223372036854775808) ≤ q326_1 ∧ q326_1 ≤ 9223372036854775807) → rd M 120 106 = r9 → rd M 120 59 = u19_120_59 → rd M 126 1 = w2_126_1 → rd M 181 p222_7 = r304 → rd M 183 p222_7 = r237 → rd M 184 (3 * p222_7) = r246 → rd M 184 (3 * p222_7 + 1) = r266 → rd M 184 (3 * p222_7 + 2) = r288 → (u19_120_59 = -1) → Tr l K 8 mX12_fit 326 [(0, (2, 120)), (2, (1, p208_2)), (4, (0, p208_4)), (7, (0, p222_7))] [(1, q326_1), (1, p222_5)] M (q_X12_fit_120_w1 a1 M0) := by
                          intro M q326_1 hS bq326_1 k326_120_106 k326_120_59 k326_126_1 k326_181_p222_710 k326_183_p222_710 k326_184_p222_730 k326_184_p222_731 k326_184_p222_732 t326_0
                          refine Tr.ladd (pc := 326) d_X12_fit_326 ?_
                          refine Tr.gen (P := fun v => (-9223372036854775808) ≤ v ∧ v ≤ 9223372036854775807) (w64_b _) (fun r326 er326 br326 => ?_)
                          refine Tr.lstore (pc := 327) (i := 5) (ls2 := [(5, (1, r326)), (0, (2, 120)), (2, (1, p208_2)), (4, (0, p208_4)), (7, (0, p222_7))]) d_X12_fit_327 (by decide) rfl ?_
                          refine Tr.iincV (pc := 329) (n2 := (p222_7 + 1)) (ls2 := [(7, (0, (p222_7 + 1))), (5, (1, r326)), (0, (2, 120)), (2, (1, p208_2)), (4, (0, p208_4))]) d_X12_fit_329 rfl (by decide) ((w32_id (by omega)).trans (by omega)) rfl ?_
                          refine Tr.goto (pc := 332) (tgt := 222) d_X12_fit_332 rfl ?_
                          refine Tr.pick [2, 3, 4, 1, 0] (ls2 := [(0, (2, 120)), (2, (1, p208_2)), (4, (0, p208_4)), (5, (1, r326)), (7, (0, (p222_7 + 1)))]) rfl ?_
                          exact J222 _ _ _ hS (by omega) (by omega) (by omega) k326_120_106 k326_120_59 k326_126_1 (by omega) (by omega)
                        refine Tr.if_ge (pc := 315) (tgt := 324) d_X12_fit_315 rfl (fun c315 => ?_) (fun c315 => ?_)
                        · refine Tr.lload (pc := 324) (i := 8) d_X12_fit_324 rfl ?_
                          refine Tr.pick [1, 2, 3, 5] (ls2 := [(0, (2, 120)), (2, (1, p208_2)), (4, (0, p208_4)), (7, (0, p222_7))]) rfl ?_
                          exact J326 _ _ hS (by omega) k222_120_106 k222_120_59 k222_126_1 er304 er237 er246 er266 er288 (by omega)
                        · refine Tr.lload (pc := 318) (i := 8) d_X12_fit_318 rfl ?_
                          refine Tr.lneg (pc := 320) d_X12_fit_320 ?_
                          refine Tr.gen (P := fun v => (-9223372036854775808) ≤ v ∧ v ≤ 9223372036854775807) (w64_b _) (fun r320 er320 br320 => ?_)
                          refine Tr.goto (pc := 321) (tgt := 326) d_X12_fit_321 rfl ?_
                          refine Tr.pick [1, 2, 3, 5] (ls2 := [(0, (2, 120)), (2, (1, p208_2)), (4, (0, p208_4)), (7, (0, p222_7))]) rfl ?_
                          exact J326 _ _ hS (by omega) k222_120_106 k222_120_59 k222_126_1 er304 er237 er246 er266 er288 (by omega)
                  refine Tr.pick [2, 3, 4, 1, 0] (ls2 := [(0, (2, 120)), (2, (1, p208_2)), (4, (0, p208_4)), (5, (1, 0)), (7, (0, 0))]) rfl ?_
                  exact J222 _ _ _ _ hS (by omega) (by omega) (by omega) k208_120_106 k208_120_59 k208_126_1 (by omega) (Nat.lt_succ_self _)
            refine Tr.pick [2, 1, 0] (ls2 := [(0, (2, 120)), (2, (1, 0)), (4, (0, 0))]) rfl ?_
            exact J208 _ _ _ _ hS (by omega) (by omega) ((Wr.b w204 rfl).trans k19_120_106) ((Wr.b w204 rfl).trans k19_120_59) ((Wr.b w204 rfl).trans k19_126_1) (by omega) (Nat.lt_succ_self _)
          · refine Tr.iconst (pc := 27) d_X12_fit_27 (by decide) ?_
            refine Tr.istore_n (pc := 28) (i := 3) (ls2 := [(3, (0, 0)), (0, (2, 120)), (1, (0, a1)), (2, (0, p19_2))]) d_X12_fit_28 rfl (by decide) rfl ?_
            have J29 : ∀ (n29 : Nat) (M : Mem) (p29_3 : Int), St Tru ws_X12_fit_120_w1 as_X12_fit_120_w1 M0 M → (0 ≤ p29_3 ∧ p29_3 ≤ 3) → rd M 120 106 = r9 → rd M 120 59 = u19_120_59 → rd M 126 1 = w2_126_1 → (u19_120_59 = -1) → (3 - p29_3).toNat < n29 → Tr l K 8 mX12_fit 29 [(0, (2, 120)), (1, (0, a1)), (2, (0, p19_2)), (3, (0, p29_3))] [] M (q_X12_fit_120_w1 a1 M0) := by
              intro n29
              induction n29 with
              | zero => intro M p29_3 hS bp29_3 k29_120_106 k29_120_59 k29_126_1 t29_0 hm29; exact absurd hm29 (Nat.not_lt_zero _)
              | succ n29 J29 =>
                intro M p29_3 hS bp29_3 k29_120_106 k29_120_59 k29_126_1 t29_0 hm29
                refine Tr.iload_n (pc := 29) (i := 3) d_X12_fit_29 rfl rfl ?_
                refine Tr.iconst (pc := 30) d_X12_fit_30 (by decide) ?_
                refine Tr.icmp_ge (pc := 31) (tgt := 56) d_X12_fit_31 rfl (fun c31 => ?_) (fun c31 => ?_)
                · refine Tr.aload_n (pc := 56) (i := 0) d_X12_fit_56 rfl rfl ?_
                  refine Tr.ldc2 (pc := 57) d_X12_fit_57 kl_12_686 (by decide) ?_
                  refine Tr.callV (pc := 60) (as := [_]) d_X12_fit_60 s_12_637 ok_X12_runs rfl rfl (Nat.le_of_ble_eq_true rfl) (Nat.le_of_ble_eq_true rfl) (by decide) (ty_120 hS.1.1) ?_
                  have kb60_120_59 : rd M 120 59 = u19_120_59 := k29_120_59
                  refine Tr.imp (Tr.deep (by decide) (sp_X12_runs_120_w2 hS.1 ((St.kp hS (by decide) (by decide) (by decide)).trans en_120_12) (-1) (by omega) (by omega) (Bk1.of hF_Bk1 (fun j => (St.ka hS (by decide) (by decide) (by decide))) (fun j => (St.ka hS (by decide) (by decide) (by decide))) (fun j => (St.ka hS (by decide) (by decide) (by decide))) (fun j => (St.ka hS (by decide) (by decide) (by decide))) (fun j => (St.ka hS (by decide) (by decide) (by decide))) (fun j => (St.ka hS (by decide) (by decide) (by decide))) (fun j => (St.ka hS (by decide) (by decide) (by decide))) (fun j => (St.ka hS (by decide) (by decide) (by decide))) (St.kp hS (by decide) (by decide) (by decide)) (St.kp hS (by decide) (by decide) (by decide)) (St.kp hS (by decide) (by decide) (by decide)) (St.kp hS (by decide) (by decide) (by decide))))) ?_
                  rintro M60 _ ⟨h60, r60, rfl, lr60, ur60, z60_0⟩
                  have hS := St.tr hS h60 (by decide) (by decide)
                  obtain ⟨s60_120_59, es60_120_59⟩ : ∃ v, rd M60 120 59 = v := ⟨_, rfl⟩
                  have bs60_120_59 : (-1) ≤ s60_120_59 ∧ s60_120_59 ≤ 5 := by rw [← es60_120_59]; exact ir_120_59 hS.1.2.1
                  refine Tr.sc [(0, r60)] rfl ?_
                  refine Tr.istore_n (pc := 63) (i := 3) (ls2 := [(3, (0, r60)), (0, (2, 120)), (1, (0, a1)), (2, (0, p19_2))]) d_X12_fit_63 rfl (by decide) rfl ?_
                  refine Tr.aload_n (pc := 64) (i := 0) d_X12_fit_64 rfl rfl ?_
                  refine Tr.getf (pc := 65) d_X12_fit_65 f_12_351 (by decide) (by decide) (ty_120 hS.1.1) ?_
                  refine Tr.tp 184 (fx_120_112 hS.1.1) ?_
                  refine Tr.iconst (pc := 68) d_X12_fit_68 (by decide) ?_
                  refine Tr.iload_n (pc := 69) (i := 2) d_X12_fit_69 rfl rfl ?_
                  refine Tr.imul (pc := 70) d_X12_fit_70 ?_
                  refine Tr.tp (3 * p19_2) ((w32_id (by omega)).trans (by omega)) ?_
                  refine Tr.aload_n (pc := 71) (i := 0) d_X12_fit_71 rfl rfl ?_
                  refine Tr.getf (pc := 72) d_X12_fit_72 f_12_222 (by decide) (by decide) (ty_120 hS.1.1) ?_
                  refine Tr.tp 161 (fx_120_69 hS.1.1) ?_
                  refine Tr.iconst (pc := 75) d_X12_fit_75 (by decide) ?_
                  refine Tr.iload_n (pc := 76) (i := 1) d_X12_fit_76 rfl rfl ?_
                  refine Tr.imul (pc := 77) d_X12_fit_77 ?_
                  refine Tr.tp (4 * a1) ((w32_id (by omega)).trans (by omega)) ?_
                  refine Tr.iconst (pc := 78) d_X12_fit_78 (by decide) ?_
                  refine Tr.iadd (pc := 79) d_X12_fit_79 ?_
                  refine Tr.tp (4 * a1) ((w32_id (by omega)).trans (by omega)) ?_
                  refine Tr.iald (pc := 80) d_X12_fit_80 (ty_161 hS.1.1) (by omega) (by omega) ?_
                  refine Tr.gen (P := fun v => (-2147483648) ≤ v ∧ v ≤ 2147483647) (ar_161 hS.1.2.1 _) (fun r80 er80 br80 => ?_)
                  refine Tr.iastS (pc := 81) (P := St Tru ws_X12_fit_120_w1 as_X12_fit_120_w1 M0) d_X12_fit_81 (ty_184 hS.1.1) (by omega) (by omega) (sa_184 hS (by decide) (by omega) trivial) (fun M81 hS w81 => ?_)
                  refine Tr.aload_n (pc := 82) (i := 0) d_X12_fit_82 rfl rfl ?_
                  refine Tr.getf (pc := 83) d_X12_fit_83 f_12_351 (by decide) (by decide) (ty_120 hS.1.1) ?_
                  refine Tr.tp 184 (fx_120_112 hS.1.1) ?_
                  refine Tr.iconst (pc := 86) d_X12_fit_86 (by decide) ?_
                  refine Tr.iload_n (pc := 87) (i := 2) d_X12_fit_87 rfl rfl ?_
                  refine Tr.imul (pc := 88) d_X12_fit_88 ?_
                  refine Tr.tp (3 * p19_2) ((w32_id (by omega)).trans (by omega)) ?_
                  refine Tr.iconst (pc := 89) d_X12_fit_89 (by decide) ?_
                  refine Tr.iadd (pc := 90) d_X12_fit_90 ?_
                  refine Tr.tp (3 * p19_2 + 1) ((w32_id (by omega)).trans (by omega)) ?_
                  refine Tr.aload_n (pc := 91) (i := 0) d_X12_fit_91 rfl rfl ?_
                  refine Tr.getf (pc := 92) d_X12_fit_92 f_12_222 (by decide) (by decide) (ty_120 hS.1.1) ?_
                  refine Tr.tp 161 (fx_120_69 hS.1.1) ?_
                  refine Tr.iconst (pc := 95) d_X12_fit_95 (by decide) ?_
                  refine Tr.iload_n (pc := 96) (i := 1) d_X12_fit_96 rfl rfl ?_
                  refine Tr.imul (pc := 97) d_X12_fit_97 ?_
                  refine Tr.tp (4 * a1) ((w32_id (by omega)).trans (by omega)) ?_
                  refine Tr.iconst (pc := 98) d_X12_fit_98 (by decide) ?_
                  refine Tr.iadd (pc := 99) d_X12_fit_99 ?_
                  refine Tr.tp (4 * a1 + 2) ((w32_id (by omega)).trans (by omega)) ?_
                  refine Tr.iald (pc := 100) d_X12_fit_100 (ty_161 hS.1.1) (by omega) (by omega) ?_
                  refine Tr.gen (P := fun v => (-2147483648) ≤ v ∧ v ≤ 2147483647) (ar_161 hS.1.2.1 _) (fun r100 er100 br100 => ?_)
                  refine Tr.iastS (pc := 101) (P := St Tru ws_X12_fit_120_w1 as_X12_fit_120_w1 M0) d_X12_fit_101 (ty_184 hS.1.1) (by omega) (by omega) (sa_184 hS (by decide) (by omega) trivial) (fun M101 hS w101 => ?_)
                  refine Tr.aload_n (pc := 102) (i := 0) d_X12_fit_102 rfl rfl ?_
                  refine Tr.getf (pc := 103) d_X12_fit_103 f_12_351 (by decide) (by decide) (ty_120 hS.1.1) ?_
                  refine Tr.tp 184 (fx_120_112 hS.1.1) ?_
                  refine Tr.iconst (pc := 106) d_X12_fit_106 (by decide) ?_
                  refine Tr.iload_n (pc := 107) (i := 2) d_X12_fit_107 rfl rfl ?_
                  refine Tr.imul (pc := 108) d_X12_fit_108 ?_
                  refine Tr.tp (3 * p19_2) ((w32_id (by omega)).trans (by omega)) ?_
                  refine Tr.iconst (pc := 109) d_X12_fit_109 (by decide) ?_
                  refine Tr.iadd (pc := 110) d_X12_fit_110 ?_
                  refine Tr.tp (3 * p19_2 + 2) ((w32_id (by omega)).trans (by omega)) ?_
                  refine Tr.aload_n (pc := 111) (i := 0) d_X12_fit_111 rfl rfl ?_
                  refine Tr.getf (pc := 112) d_X12_fit_112 f_12_222 (by decide) (by decide) (ty_120 hS.1.1) ?_
                  refine Tr.tp 161 (fx_120_69 hS.1.1) ?_
                  refine Tr.iconst (pc := 115) d_X12_fit_115 (by decide) ?_
                  refine Tr.iload_n (pc := 116) (i := 1) d_X12_fit_116 rfl rfl ?_
                  refine Tr.imul (pc := 117) d_X12_fit_117 ?_
                  refine Tr.tp (4 * a1) ((w32_id (by omega)).trans (by omega)) ?_
                  refine Tr.iconst (pc := 118) d_X12_fit_118 (by decide) ?_
                  refine Tr.iadd (pc := 119) d_X12_fit_119 ?_
                  refine Tr.tp (4 * a1 + 3) ((w32_id (by omega)).trans (by omega)) ?_
                  refine Tr.iald (pc := 120) d_X12_fit_120 (ty_161 hS.1.1) (by omega) (by omega) ?_
                  refine Tr.gen (P := fun v => (-2147483648) ≤ v ∧ v ≤ 2147483647) (ar_161 hS.1.2.1 _) (fun r120 er120 br120 => ?_)
                  refine Tr.iastS (pc := 121) (P := St Tru ws_X12_fit_120_w1 as_X12_fit_120_w1 M0) d_X12_fit_121 (ty_184 hS.1.1) (by omega) (by omega) (sa_184 hS (by decide) (by omega) trivial) (fun M121 hS w121 => ?_)
                  refine Tr.aload_n (pc := 122) (i := 0) d_X12_fit_122 rfl rfl ?_
                  refine Tr.getf (pc := 123) d_X12_fit_123 f_12_348 (by decide) (by decide) (ty_120 hS.1.1) ?_
                  refine Tr.tp 183 (fx_120_111 hS.1.1) ?_
                  refine Tr.iload_n (pc := 126) (i := 2) d_X12_fit_126 rfl rfl ?_
                  refine Tr.aload_n (pc := 127) (i := 0) d_X12_fit_127 rfl rfl ?_
                  refine Tr.getf (pc := 128) d_X12_fit_128 f_12_204 (by decide) (by decide) (ty_120 hS.1.1) ?_
                  refine Tr.gen (P := fun v => (-9223372036854775808) ≤ v ∧ v ≤ 9223372036854775807) (ir_120_63 hS.1.2.1) (fun r128 er128 br128 => ?_)
                  refine Tr.aload_n (pc := 131) (i := 0) d_X12_fit_131 rfl rfl ?_
                  refine Tr.getf (pc := 132) d_X12_fit_132 f_12_351 (by decide) (by decide) (ty_120 hS.1.1) ?_
                  refine Tr.tp 184 (fx_120_112 hS.1.1) ?_
                  refine Tr.iconst (pc := 135) d_X12_fit_135 (by decide) ?_
                  refine Tr.iload_n (pc := 136) (i := 2) d_X12_fit_136 rfl rfl ?_
                  refine Tr.imul (pc := 137) d_X12_fit_137 ?_
                  refine Tr.tp (3 * p19_2) ((w32_id (by omega)).trans (by omega)) ?_
                  refine Tr.iald (pc := 138) d_X12_fit_138 (ty_184 hS.1.1) (by omega) (by omega) ?_
                  refine Tr.gen (P := fun v => (-2147483648) ≤ v ∧ v ≤ 2147483647) (ar_184 hS.1.2.1 _) (fun r138 er138 br138 => ?_)
                  refine Tr.i2l (pc := 139) d_X12_fit_139 ?_
                  refine Tr.aload_n (pc := 140) (i := 0) d_X12_fit_140 rfl rfl ?_
                  refine Tr.iload_n (pc := 141) (i := 1) d_X12_fit_141 rfl rfl ?_
                  refine Tr.iconst (pc := 142) d_X12_fit_142 (by decide) ?_
                  refine Tr.callV (pc := 143) (as := [_, _]) d_X12_fit_143 s_12_565 ok_X12_rate rfl rfl (Nat.le_of_ble_eq_true rfl) (Nat.le_of_ble_eq_true rfl) (by decide) (ty_120 hS.1.1) ?_
                  refine Tr.imp (Tr.deep (by decide) (sp_X12_rate_120_w1 hS.1 ((St.kp hS (by decide) (by decide) (by decide)).trans en_120_12) a1 (by omega) 0 (by omega) (Bk1.of hF_Bk1 (fun j => (St.ka hS (by decide) (by decide) (by decide))) (fun j => (St.ka hS (by decide) (by decide) (by decide))) (fun j => (St.ka hS (by decide) (by decide) (by decide))) (fun j => (St.ka hS (by decide) (by decide) (by decide))) (fun j => (St.ka hS (by decide) (by decide) (by decide))) (fun j => (St.ka hS (by decide) (by decide) (by decide))) (fun j => (St.ka hS (by decide) (by decide) (by decide))) (fun j => (St.ka hS (by decide) (by decide) (by decide))) (St.kp hS (by decide) (by decide) (by decide)) (St.kp hS (by decide) (by decide) (by decide)) (St.kp hS (by decide) (by decide) (by decide)) (St.kp hS (by decide) (by decide) (by decide))))) ?_
                  rintro M143 _ ⟨h143, r143, rfl, lr143, ur143, z143_0⟩
                  have hS := St.tr hS h143 (by decide) (by decide)
                  have ka143_126_1 : rd M143 126 1 = w2_126_1 := ((St.kp h143 (by decide) (by decide) (by decide)).trans ((Wr.b w121 rfl).trans ((Wr.b w101 rfl).trans ((Wr.b w81 rfl).trans ((St.kp h60 (by decide) (by decide) (by decide)).trans k29_126_1)))))
                  refine Tr.sc [(0, r143), (1, r138), (1, r128), (0, p19_2), (2, 183)] rfl ?_
                  refine Tr.i2l (pc := 146) d_X12_fit_146 ?_
                  refine Tr.lmul (pc := 147) d_X12_fit_147 ?_
                  refine Tr.gen (P := fun v => (-9223372036854775808) ≤ v ∧ v ≤ 9223372036854775807) (w64_b _) (fun r147 er147 br147 => ?_)
                  refine Tr.lsub (pc := 148) d_X12_fit_148 ?_
                  refine Tr.gen (P := fun v => (-9223372036854775808) ≤ v ∧ v ≤ 9223372036854775807) (w64_b _) (fun r148 er148 br148 => ?_)
                  refine Tr.aload_n (pc := 149) (i := 0) d_X12_fit_149 rfl rfl ?_
                  refine Tr.getf (pc := 150) d_X12_fit_150 f_12_351 (by decide) (by decide) (ty_120 hS.1.1) ?_
                  refine Tr.tp 184 (fx_120_112 hS.1.1) ?_
                  refine Tr.iconst (pc := 153) d_X12_fit_153 (by decide) ?_
                  refine Tr.iload_n (pc := 154) (i := 2) d_X12_fit_154 rfl rfl ?_
                  refine Tr.imul (pc := 155) d_X12_fit_155 ?_
                  refine Tr.tp (3 * p19_2) ((w32_id (by omega)).trans (by omega)) ?_
                  refine Tr.iconst (pc := 156) d_X12_fit_156 (by decide) ?_
                  refine Tr.iadd (pc := 157) d_X12_fit_157 ?_
                  refine Tr.tp (3 * p19_2 + 1) ((w32_id (by omega)).trans (by omega)) ?_
                  refine Tr.iald (pc := 158) d_X12_fit_158 (ty_184 hS.1.1) (by omega) (by omega) ?_
                  refine Tr.gen (P := fun v => (-2147483648) ≤ v ∧ v ≤ 2147483647) (ar_184 hS.1.2.1 _) (fun r158 er158 br158 => ?_)
                  refine Tr.i2l (pc := 159) d_X12_fit_159 ?_
                  refine Tr.aload_n (pc := 160) (i := 0) d_X12_fit_160 rfl rfl ?_
                  refine Tr.iload_n (pc := 161) (i := 1) d_X12_fit_161 rfl rfl ?_
                  refine Tr.iconst (pc := 162) d_X12_fit_162 (by decide) ?_
                  refine Tr.callV (pc := 163) (as := [_, _]) d_X12_fit_163 s_12_565 ok_X12_rate rfl rfl (Nat.le_of_ble_eq_true rfl) (Nat.le_of_ble_eq_true rfl) (by decide) (ty_120 hS.1.1) ?_
                  refine Tr.imp (Tr.deep (by decide) (sp_X12_rate_120_w1 hS.1 ((St.kp hS (by decide) (by decide) (by decide)).trans en_120_12) a1 (by omega) 3 (by omega) (Bk1.of hF_Bk1 (fun j => (St.ka hS (by decide) (by decide) (by decide))) (fun j => (St.ka hS (by decide) (by decide) (by decide))) (fun j => (St.ka hS (by decide) (by decide) (by decide))) (fun j => (St.ka hS (by decide) (by decide) (by decide))) (fun j => (St.ka hS (by decide) (by decide) (by decide))) (fun j => (St.ka hS (by decide) (by decide) (by decide))) (fun j => (St.ka hS (by decide) (by decide) (by decide))) (fun j => (St.ka hS (by decide) (by decide) (by decide))) (St.kp hS (by decide) (by decide) (by decide)) (St.kp hS (by decide) (by decide) (by decide)) (St.kp hS (by decide) (by decide) (by decide)) (St.kp hS (by decide) (by decide) (by decide))))) ?_
                  rintro M163 _ ⟨h163, r163, rfl, lr163, ur163, z163_0⟩
                  have hS := St.tr hS h163 (by decide) (by decide)
                  have ka163_126_1 : rd M163 126 1 = w2_126_1 := ((St.kp h163 (by decide) (by decide) (by decide)).trans ((St.kp h143 (by decide) (by decide) (by decide)).trans ((Wr.b w121 rfl).trans ((Wr.b w101 rfl).trans ((Wr.b w81 rfl).trans ((St.kp h60 (by decide) (by decide) (by decide)).trans k29_126_1))))))
                  refine Tr.sc [(0, r163), (1, r158), (1, r148), (0, p19_2), (2, 183)] rfl ?_
                  refine Tr.i2l (pc := 166) d_X12_fit_166 ?_
                  refine Tr.lmul (pc := 167) d_X12_fit_167 ?_
                  refine Tr.gen (P := fun v => (-9223372036854775808) ≤ v ∧ v ≤ 9223372036854775807) (w64_b _) (fun r167 er167 br167 => ?_)
                  refine Tr.lsub (pc := 168) d_X12_fit_168 ?_
                  refine Tr.gen (P := fun v => (-9223372036854775808) ≤ v ∧ v ≤ 9223372036854775807) (w64_b _) (fun r168 er168 br168 => ?_)
                  refine Tr.aload_n (pc := 169) (i := 0) d_X12_fit_169 rfl rfl ?_
                  refine Tr.getf (pc := 170) d_X12_fit_170 f_12_351 (by decide) (by decide) (ty_120 hS.1.1) ?_
                  refine Tr.tp 184 (fx_120_112 hS.1.1) ?_
                  refine Tr.iconst (pc := 173) d_X12_fit_173 (by decide) ?_
                  refine Tr.iload_n (pc := 174) (i := 2) d_X12_fit_174 rfl rfl ?_
                  refine Tr.imul (pc := 175) d_X12_fit_175 ?_
                  refine Tr.tp (3 * p19_2) ((w32_id (by omega)).trans (by omega)) ?_
                  refine Tr.iconst (pc := 176) d_X12_fit_176 (by decide) ?_
                  refine Tr.iadd (pc := 177) d_X12_fit_177 ?_
                  refine Tr.tp (3 * p19_2 + 2) ((w32_id (by omega)).trans (by omega)) ?_
                  refine Tr.iald (pc := 178) d_X12_fit_178 (ty_184 hS.1.1) (by omega) (by omega) ?_
                  refine Tr.tp r120 ((St.ka h163 (by decide) (by decide) (by decide)).trans ((St.ka h143 (by decide) (by decide) (by decide)).trans w121.1)) ?_
                  refine Tr.i2l (pc := 179) d_X12_fit_179 ?_
                  refine Tr.aload_n (pc := 180) (i := 0) d_X12_fit_180 rfl rfl ?_
                  refine Tr.iload_n (pc := 181) (i := 1) d_X12_fit_181 rfl rfl ?_
                  refine Tr.iconst (pc := 182) d_X12_fit_182 (by decide) ?_
                  refine Tr.callV (pc := 183) (as := [_, _]) d_X12_fit_183 s_12_565 ok_X12_rate rfl rfl (Nat.le_of_ble_eq_true rfl) (Nat.le_of_ble_eq_true rfl) (by decide) (ty_120 hS.1.1) ?_
                  refine Tr.imp (Tr.deep (by decide) (sp_X12_rate_120_w1 hS.1 ((St.kp hS (by decide) (by decide) (by decide)).trans en_120_12) a1 (by omega) 4 (by omega) (Bk1.of hF_Bk1 (fun j => (St.ka hS (by decide) (by decide) (by decide))) (fun j => (St.ka hS (by decide) (by decide) (by decide))) (fun j => (St.ka hS (by decide) (by decide) (by decide))) (fun j => (St.ka hS (by decide) (by decide) (by decide))) (fun j => (St.ka hS (by decide) (by decide) (by decide))) (fun j => (St.ka hS (by decide) (by decide) (by decide))) (fun j => (St.ka hS (by decide) (by decide) (by decide))) (fun j => (St.ka hS (by decide) (by decide) (by decide))) (St.kp hS (by decide) (by decide) (by decide)) (St.kp hS (by decide) (by decide) (by decide)) (St.kp hS (by decide) (by decide) (by decide)) (St.kp hS (by decide) (by decide) (by decide))))) ?_
                  rintro M183 _ ⟨h183, r183, rfl, lr183, ur183, z183_0⟩
                  have hS := St.tr hS h183 (by decide) (by decide)
                  have ka183_126_1 : rd M183 126 1 = w2_126_1 := ((St.kp h183 (by decide) (by decide) (by decide)).trans ((St.kp h163 (by decide) (by decide) (by decide)).trans ((St.kp h143 (by decide) (by decide) (by decide)).trans ((Wr.b w121 rfl).trans ((Wr.b w101 rfl).trans ((Wr.b w81 rfl).trans ((St.kp h60 (by decide) (by decide) (by decide)).trans k29_126_1)))))))
                  refine Tr.sc [(0, r183), (1, r120), (1, r168), (0, p19_2), (2, 183)] rfl ?_
                  refine Tr.i2l (pc := 186) d_X12_fit_186 ?_
                  refine Tr.lmul (pc := 187) d_X12_fit_187 ?_
                  refine Tr.gen (P := fun v => (-9223372036854775808) ≤ v ∧ v ≤ 9223372036854775807) (w64_b _) (fun r187 er187 br187 => ?_)
                  refine Tr.lsub (pc := 188) d_X12_fit_188 ?_
                  refine Tr.gen (P := fun v => (-9223372036854775808) ≤ v ∧ v ≤ 9223372036854775807) (w64_b _) (fun r188 er188 br188 => ?_)
                  refine Tr.lastS (pc := 189) (P := St Tru ws_X12_fit_120_w1 as_X12_fit_120_w1 M0) d_X12_fit_189 (ty_183 hS.1.1) (by omega) (by omega) (sa_183 hS (by decide) (by omega) trivial) (fun M189 hS w189 => ?_)
                  refine Tr.iincV (pc := 190) (n2 := (p19_2 + 1)) (ls2 := [(2, (0, (p19_2 + 1))), (3, (0, r60)), (0, (2, 120)), (1, (0, a1))]) d_X12_fit_190 rfl (by decide) ((w32_id (by omega)).trans (by omega)) rfl ?_
                  refine Tr.goto (pc := 193) (tgt := 19) d_X12_fit_193 rfl ?_
                  refine Tr.pick [2, 3, 0] (ls2 := [(0, (2, 120)), (1, (0, a1)), (2, (0, (p19_2 + 1)))]) rfl ?_
                  exact J19 _ _ _ hS (by omega) (by omega) ((Wr.b w189 rfl).trans ((St.kp h183 (by decide) (by decide) (by decide)).trans ((St.kp h163 (by decide) (by decide) (by decide)).trans ((St.kp h143 (by decide) (by decide) (by decide)).trans ((Wr.b w121 rfl).trans ((Wr.b w101 rfl).trans ((Wr.b w81 rfl).trans ((St.kp h60 (by decide) (by decide) (by decide)).trans k29_120_106)))))))) ((Wr.b w189 rfl).trans ((St.kp h183 (by decide) (by decide) (by decide)).trans ((St.kp h163 (by decide) (by decide) (by decide)).trans ((St.kp h143 (by decide) (by decide) (by decide)).trans ((Wr.b w121 rfl).trans ((Wr.b w101 rfl).trans ((Wr.b w81 rfl).trans es60_120_59))))))) ((Wr.b w189 rfl).trans ((St.kp h183 (by decide) (by decide) (by decide)).trans ((St.kp h163 (by decide) (by decide) (by decide)).trans ((St.kp h143 (by decide) (by decide) (by decide)).trans ((Wr.b w121 rfl).trans ((Wr.b w101 rfl).trans ((Wr.b w81 rfl).trans ((St.kp h60 (by decide) (by decide) (by decide)).trans k29_126_1)))))))) (by omega) (by omega)
                · refine Tr.aload_n (pc := 34) (i := 0) d_X12_fit_34 rfl rfl ?_
                  refine Tr.getf (pc := 35) d_X12_fit_35 f_12_171 (by decide) (by decide) (ty_120 hS.1.1) ?_
                  refine Tr.tp 154 (fx_120_52 hS.1.1) ?_
                  refine Tr.iload_n (pc := 38) (i := 3) d_X12_fit_38 rfl rfl ?_
                  refine Tr.aload_n (pc := 39) (i := 0) d_X12_fit_39 rfl rfl ?_
                  refine Tr.getf (pc := 40) d_X12_fit_40 f_12_336 (by decide) (by decide) (ty_120 hS.1.1) ?_
                  refine Tr.tp 180 (fx_120_107 hS.1.1) ?_
                  refine Tr.iconst (pc := 43) d_X12_fit_43 (by decide) ?_
                  refine Tr.iload_n (pc := 44) (i := 2) d_X12_fit_44 rfl rfl ?_
                  refine Tr.imul (pc := 45) d_X12_fit_45 ?_
                  refine Tr.tp (3 * p19_2) ((w32_id (by omega)).trans (by omega)) ?_
                  refine Tr.iload_n (pc := 46) (i := 3) d_X12_fit_46 rfl rfl ?_
                  refine Tr.iadd (pc := 47) d_X12_fit_47 ?_
                  refine Tr.tp (3 * p19_2 + p29_3) ((w32_id (by omega)).trans (by omega)) ?_
                  refine Tr.iald (pc := 48) d_X12_fit_48 (ty_180 hS.1.1) (by omega) (by omega) ?_
                  refine Tr.gen (P := fun v => (-2147483648) ≤ v ∧ v ≤ 2147483647) (ar_180 hS.1.2.1 _) (fun r48 er48 br48 => ?_)
                  refine Tr.iastS (pc := 49) (P := St Tru ws_X12_fit_120_w1 as_X12_fit_120_w1 M0) d_X12_fit_49 (ty_154 hS.1.1) (by omega) (by omega) (sa_154 hS (by decide) (by omega) trivial) (fun M49 hS w49 => ?_)
                  refine Tr.iincV (pc := 50) (n2 := (p29_3 + 1)) (ls2 := [(3, (0, (p29_3 + 1))), (0, (2, 120)), (1, (0, a1)), (2, (0, p19_2))]) d_X12_fit_50 rfl (by decide) ((w32_id (by omega)).trans (by omega)) rfl ?_
                  refine Tr.goto (pc := 53) (tgt := 29) d_X12_fit_53 rfl ?_
                  refine Tr.pick [1, 2, 3, 0] (ls2 := [(0, (2, 120)), (1, (0, a1)), (2, (0, p19_2)), (3, (0, (p29_3 + 1)))]) rfl ?_
                  exact J29 _ _ hS (by omega) ((Wr.b w49 rfl).trans k29_120_106) ((Wr.b w49 rfl).trans k29_120_59) ((Wr.b w49 rfl).trans k29_126_1) (by omega) (by omega)
            refine Tr.pick [1, 2, 3, 0] (ls2 := [(0, (2, 120)), (1, (0, a1)), (2, (0, p19_2)), (3, (0, 0))]) rfl ?_
            exact J29 _ _ _ hS (by omega) k19_120_106 k19_120_59 k19_126_1 (by omega) (Nat.lt_succ_self _)
      refine Tr.pick [1, 2, 0] (ls2 := [(0, (2, 120)), (1, (0, a1)), (2, (0, 0))]) rfl ?_
      exact J19 _ _ _ _ hS (by omega) (by omega) er9 ((St.kp h2 (by decide) (by decide) (by decide)).trans eg120_59) ew2_126_1 (by omega) (Nat.lt_succ_self _)
    · refine Tr.iconst (pc := 15) d_X12_fit_15 (by decide) ?_
      have kr_120_59 : rd M2 120 59 = g120_59 := ((St.kp h2 (by decide) (by decide) (by decide)).trans eg120_59)
      exact Tr.iret (pc := 16) d_X12_fit_16 rfl ⟨hS, _, rfl, by omega, by omega, by omega⟩

def ws_X12_lasts_120_w1 : List (Int × Int) := []
def as_X12_lasts_120_w1 : List Int := []
def q_X12_lasts_120_w1 (M0 M' : Mem) (r : Option PV) : Prop := St Tru ws_X12_lasts_120_w1 as_X12_lasts_120_w1 M0 M' ∧ ∃ v : Int, r = some (0, v) ∧ (-2147483648) ≤ v ∧ v ≤ 2147483647
set_option maxRecDepth 100000 in
set_option maxHeartbeats 4000000 in
theorem sp_X12_lasts_120_w1 {l : Launch} {K : EC} {M0 : Mem} (hI : In Tru M0) (en_120_12 : rd M0 120 12 = 1) (a1 : Int) (ha1 : (-2147483648) ≤ a1 ∧ a1 ≤ 2147483647) (a2 : Int) (ha2 : (-2147483648) ≤ a2 ∧ a2 ≤ 2147483647) (a3 : Int) (ha3 : (-2147483648) ≤ a3 ∧ a3 ≤ 2147483647)  (hF_Bk1 : Bk1 M0) : Tr l K 2 mX12_lasts 0 [(0, (2, 120)), (1, (0, a1)), (2, (0, a2)), (3, (0, a3))] [] M0 (q_X12_lasts_120_w1 M0) := by
  have hS : St Tru ws_X12_lasts_120_w1 as_X12_lasts_120_w1 M0 M0 := St.rf hI
  refine Tr.aload_n (pc := 0) (i := 0) d_X12_lasts_0 rfl rfl ?_
  refine Tr.getz (pc := 1) d_X12_lasts_1 f_12_270 (by decide) (ty_120 hS.1.1) ?_
  refine Tr.gen (P := fun v => 0 ≤ v ∧ v ≤ 1) (ir_120_85 hS.1.2.1) (fun r1 er1 br1 => ?_)
  refine Tr.if_eq (pc := 4) (tgt := 40) d_X12_lasts_4 rfl (fun c4 => ?_) (fun c4 => ?_)
  · refine Tr.iconst (pc := 40) d_X12_lasts_40 (by decide) ?_
    exact Tr.iret (pc := 41) d_X12_lasts_41 rfl ⟨hS, _, rfl, by omega, by omega⟩
  · refine Tr.iload_n (pc := 7) (i := 1) d_X12_lasts_7 rfl rfl ?_
    refine Tr.iconst (pc := 8) d_X12_lasts_8 (by decide) ?_
    refine Tr.ldcw (pc := 9) d_X12_lasts_9 k_12_696 (by decide) ?_
    refine Tr.callS (pc := 12) (as := [_, _, _]) d_X12_lasts_12 s_12_467 ok_X12_is rfl rfl (Nat.le_of_ble_eq_true rfl) (Nat.le_of_ble_eq_true rfl) ?_
    refine Tr.imp (Tr.deep (by decide) (sp_X12_is hS.1 a1 (by omega) 0 (by omega) 1000000000 (by omega))) ?_
    rintro M12 _ ⟨h12, r12, rfl, lr12, ur12, wr12⟩
    have hS := St.tr hS h12 (by decide) (by decide)
    refine Tr.sc [(0, r12)] rfl ?_
    refine Tr.if_eq (pc := 15) (tgt := 40) d_X12_lasts_15 rfl (fun c15 => ?_) (fun c15 => ?_)
    · refine Tr.iconst (pc := 40) d_X12_lasts_40 (by decide) ?_
      exact Tr.iret (pc := 41) d_X12_lasts_41 rfl ⟨hS, _, rfl, by omega, by omega⟩
    · refine Tr.iload_n (pc := 18) (i := 2) d_X12_lasts_18 rfl rfl ?_
      refine Tr.iconst (pc := 19) d_X12_lasts_19 (by decide) ?_
      refine Tr.sipush (pc := 20) d_X12_lasts_20 rfl (by decide) ?_
      refine Tr.callS (pc := 23) (as := [_, _, _]) d_X12_lasts_23 s_12_467 ok_X12_is rfl rfl (Nat.le_of_ble_eq_true rfl) (Nat.le_of_ble_eq_true rfl) ?_
      refine Tr.imp (Tr.deep (by decide) (sp_X12_is hS.1 a2 (by omega) 0 (by omega) 1000 (by omega))) ?_
      rintro M23 _ ⟨h23, r23, rfl, lr23, ur23, wr23⟩
      have hS := St.tr hS h23 (by decide) (by decide)
      refine Tr.sc [(0, r23)] rfl ?_
      refine Tr.if_eq (pc := 26) (tgt := 40) d_X12_lasts_26 rfl (fun c26 => ?_) (fun c26 => ?_)
      · refine Tr.iconst (pc := 40) d_X12_lasts_40 (by decide) ?_
        exact Tr.iret (pc := 41) d_X12_lasts_41 rfl ⟨hS, _, rfl, by omega, by omega⟩
      · refine Tr.iload_n (pc := 29) (i := 3) d_X12_lasts_29 rfl rfl ?_
        refine Tr.iconst (pc := 30) d_X12_lasts_30 (by decide) ?_
        refine Tr.ldcw (pc := 31) d_X12_lasts_31 k_12_697 (by decide) ?_
        refine Tr.callS (pc := 34) (as := [_, _, _]) d_X12_lasts_34 s_12_467 ok_X12_is rfl rfl (Nat.le_of_ble_eq_true rfl) (Nat.le_of_ble_eq_true rfl) ?_
        refine Tr.imp (Tr.deep (by decide) (sp_X12_is hS.1 a3 (by omega) 0 (by omega) 100000 (by omega))) ?_
        rintro M34 _ ⟨h34, r34, rfl, lr34, ur34, wr34⟩
        have hS := St.tr hS h34 (by decide) (by decide)
        refine Tr.sc [(0, r34)] rfl ?_
        refine Tr.if_ne (pc := 37) (tgt := 42) d_X12_lasts_37 rfl (fun c37 => ?_) (fun c37 => ?_)
        · refine Tr.iload_n (pc := 42) (i := 2) d_X12_lasts_42 rfl rfl ?_
          refine Tr.i2l (pc := 43) d_X12_lasts_43 ?_
          refine Tr.aload_n (pc := 44) (i := 0) d_X12_lasts_44 rfl rfl ?_
          refine Tr.getf (pc := 45) d_X12_lasts_45 f_12_276 (by decide) (by decide) (ty_120 hS.1.1) ?_
          refine Tr.gen (P := fun v => (-9223372036854775808) ≤ v ∧ v ≤ 9223372036854775807) (ir_120_87 hS.1.2.1) (fun r45 er45 br45 => ?_)
          refine Tr.lmul (pc := 48) d_X12_lasts_48 ?_
          refine Tr.gen (P := fun v => (-9223372036854775808) ≤ v ∧ v ≤ 9223372036854775807) (w64_b _) (fun r48 er48 br48 => ?_)
          refine Tr.lstore (pc := 49) (i := 4) (ls2 := [(4, (1, r48)), (0, (2, 120)), (1, (0, a1)), (2, (0, a2)), (3, (0, a3))]) d_X12_lasts_49 (by decide) rfl ?_
          refine Tr.iconst (pc := 51) d_X12_lasts_51 (by decide) ?_
          refine Tr.istore (pc := 52) (i := 6) (ls2 := [(6, (0, 0)), (4, (1, r48)), (0, (2, 120)), (1, (0, a1)), (2, (0, a2)), (3, (0, a3))]) d_X12_lasts_52 (by decide) rfl ?_
          have J54 : ∀ (n54 : Nat) (M : Mem) (p54_4 p54_6 : Int), St Tru ws_X12_lasts_120_w1 as_X12_lasts_120_w1 M0 M → ((-9223372036854775808) ≤ p54_4 ∧ p54_4 ≤ 9223372036854775807) → (0 ≤ p54_6 ∧ p54_6 ≤ 6) → rd M 120 85 = r1 → rd M 120 87 = r45 → (6 - p54_6).toNat < n54 → Tr l K 2 mX12_lasts 54 [(0, (2, 120)), (1, (0, a1)), (3, (0, a3)), (4, (1, p54_4)), (6, (0, p54_6))] [] M (q_X12_lasts_120_w1 M0) := by
            intro n54
            induction n54 with
            | zero => intro M p54_4 p54_6 hS bp54_4 bp54_6 k54_120_85 k54_120_87 hm54; exact absurd hm54 (Nat.not_lt_zero _)
            | succ n54 J54 =>
              intro M p54_4 p54_6 hS bp54_4 bp54_6 k54_120_85 k54_120_87 hm54
              refine Tr.iload (pc := 54) (i := 6) d_X12_lasts_54 rfl ?_
              refine Tr.aload_n (pc := 56) (i := 0) d_X12_lasts_56 rfl rfl ?_
              refine Tr.getf (pc := 57) d_X12_lasts_57 f_12_63 (by decide) (by decide) (ty_120 hS.1.1) ?_
              refine Tr.tp 126 (fx_120_17 hS.1.1) ?_
              refine Tr.aload_n (pc := 60) (i := 0) d_X12_lasts_60 rfl rfl ?_
              refine Tr.getf (pc := 61) d_X12_lasts_61 f_12_48 (by decide) (by decide) (ty_120 hS.1.1) ?_
              refine Tr.tp 1 ((St.kp hS (by decide) (by decide) (by decide)).trans en_120_12) ?_
              refine Tr.iald (pc := 64) d_X12_lasts_64 (ty_126 hS.1.1) (by omega) (by omega) ?_
              refine Tr.gen (P := fun v => 0 ≤ v ∧ v ≤ 6) (ir_126_1 hS.1.2.1) (fun r64 er64 br64 => ?_)
              refine Tr.icmp_ge (pc := 65) (tgt := 89) d_X12_lasts_65 rfl (fun c65 => ?_) (fun c65 => ?_)
              · refine Tr.lload (pc := 89) (i := 4) d_X12_lasts_89 rfl ?_
                refine Tr.lconst (pc := 91) (v := 0) d_X12_lasts_91 rfl (by decide) ?_
                refine Tr.lcmp (pc := 92) d_X12_lasts_92 ?_
                refine Tr.gen (P := fun v => (v = 1 ∧ 0 < p54_4) ∨ (v = 0 ∧ p54_4 = 0) ∨ (v = -1 ∧ p54_4 < 0)) (f_lcmp_c _ _) (fun r92 er92 br92 => ?_)
                refine Tr.if_ne (pc := 93) (tgt := 100) d_X12_lasts_93 rfl (fun c93 => ?_) (fun c93 => ?_)
                · refine Tr.iload_n (pc := 100) (i := 1) d_X12_lasts_100 rfl rfl ?_
                  refine Tr.i2l (pc := 101) d_X12_lasts_101 ?_
                  refine Tr.lload (pc := 102) (i := 4) d_X12_lasts_102 rfl ?_
                  refine Tr.ldiv (pc := 104) d_X12_lasts_104 (by omega) ?_
                  refine Tr.gen (P := fun v => (-9223372036854775808) ≤ v ∧ v ≤ 9223372036854775807) (w64_b _) (fun r104 er104 br104 => ?_)
                  refine Tr.l2i (pc := 105) d_X12_lasts_105 ?_
                  refine Tr.gen (P := fun v => (-2147483648) ≤ v ∧ v ≤ 2147483647) (w32_b _) (fun r105 er105 br105 => ?_)
                  exact Tr.iret (pc := 106) d_X12_lasts_106 rfl ⟨hS, _, rfl, by omega, by omega⟩
                · refine Tr.iconst (pc := 96) d_X12_lasts_96 (by decide) ?_
                  refine Tr.goto (pc := 97) (tgt := 106) d_X12_lasts_97 rfl ?_
                  exact Tr.iret (pc := 106) d_X12_lasts_106 rfl ⟨hS, _, rfl, by omega, by omega⟩
              · refine Tr.lload (pc := 68) (i := 4) d_X12_lasts_68 rfl ?_
                refine Tr.iload_n (pc := 70) (i := 3) d_X12_lasts_70 rfl rfl ?_
                refine Tr.i2l (pc := 71) d_X12_lasts_71 ?_
                refine Tr.aload_n (pc := 72) (i := 0) d_X12_lasts_72 rfl rfl ?_
                refine Tr.iload (pc := 73) (i := 6) d_X12_lasts_73 rfl ?_
                refine Tr.callV (pc := 75) (as := [_]) d_X12_lasts_75 s_12_568 ok_X12_sleeps rfl rfl (Nat.le_of_ble_eq_true rfl) (Nat.le_of_ble_eq_true rfl) (by decide) (ty_120 hS.1.1) ?_
                refine Tr.imp (Tr.deep (by decide) (sp_X12_sleeps_120_w1 hS.1 ((St.kp hS (by decide) (by decide) (by decide)).trans en_120_12) p54_6 (by omega) (Bk1.of hF_Bk1 (fun j => (St.ka hS (by decide) (by decide) (by decide))) (fun j => (St.ka hS (by decide) (by decide) (by decide))) (fun j => (St.ka hS (by decide) (by decide) (by decide))) (fun j => (St.ka hS (by decide) (by decide) (by decide))) (fun j => (St.ka hS (by decide) (by decide) (by decide))) (fun j => (St.ka hS (by decide) (by decide) (by decide))) (fun j => (St.ka hS (by decide) (by decide) (by decide))) (fun j => (St.ka hS (by decide) (by decide) (by decide))) (St.kp hS (by decide) (by decide) (by decide)) (St.kp hS (by decide) (by decide) (by decide)) (St.kp hS (by decide) (by decide) (by decide)) (St.kp hS (by decide) (by decide) (by decide))))) ?_
                rintro M75 _ ⟨h75, r75, rfl, lr75, ur75⟩
                have hS := St.tr hS h75 (by decide) (by decide)
                refine Tr.sc [(0, r75), (1, a3), (1, p54_4)] rfl ?_
                refine Tr.i2l (pc := 78) d_X12_lasts_78 ?_
                refine Tr.lmul (pc := 79) d_X12_lasts_79 ?_
                refine Tr.gen (P := fun v => (-9223372036854775808) ≤ v ∧ v ≤ 9223372036854775807) (w64_b _) (fun r79 er79 br79 => ?_)
                refine Tr.ladd (pc := 80) d_X12_lasts_80 ?_
                refine Tr.gen (P := fun v => (-9223372036854775808) ≤ v ∧ v ≤ 9223372036854775807) (w64_b _) (fun r80 er80 br80 => ?_)
                refine Tr.lstore (pc := 81) (i := 4) (ls2 := [(4, (1, r80)), (0, (2, 120)), (1, (0, a1)), (3, (0, a3)), (6, (0, p54_6))]) d_X12_lasts_81 (by decide) rfl ?_
                refine Tr.iincV (pc := 83) (n2 := (p54_6 + 1)) (ls2 := [(6, (0, (p54_6 + 1))), (4, (1, r80)), (0, (2, 120)), (1, (0, a1)), (3, (0, a3))]) d_X12_lasts_83 rfl (by decide) ((w32_id (by omega)).trans (by omega)) rfl ?_
                refine Tr.goto (pc := 86) (tgt := 54) d_X12_lasts_86 rfl ?_
                refine Tr.pick [2, 3, 4, 1, 0] (ls2 := [(0, (2, 120)), (1, (0, a1)), (3, (0, a3)), (4, (1, r80)), (6, (0, (p54_6 + 1)))]) rfl ?_
                exact J54 _ _ _ hS (by omega) (by omega) ((St.kp h75 (by decide) (by decide) (by decide)).trans k54_120_85) ((St.kp h75 (by decide) (by decide) (by decide)).trans k54_120_87) (by omega)
          refine Tr.pick [2, 3, 5, 1, 0] (ls2 := [(0, (2, 120)), (1, (0, a1)), (3, (0, a3)), (4, (1, r48)), (6, (0, 0))]) rfl ?_
          exact J54 _ _ _ _ hS (by omega) (by omega) ((St.kp h34 (by decide) (by decide) (by decide)).trans ((St.kp h23 (by decide) (by decide) (by decide)).trans ((St.kp h12 (by decide) (by decide) (by decide)).trans er1))) er45 (Nat.lt_succ_self _)
        · refine Tr.iconst (pc := 40) d_X12_lasts_40 (by decide) ?_
          exact Tr.iret (pc := 41) d_X12_lasts_41 rfl ⟨hS, _, rfl, by omega, by omega⟩

def ws_X12_span_120_w1 : List (Int × Int) := []
def as_X12_span_120_w1 : List Int := []
def q_X12_span_120_w1 (M0 M' : Mem) (r : Option PV) : Prop := St Tru ws_X12_span_120_w1 as_X12_span_120_w1 M0 M' ∧ ∃ v : Int, r = some (0, v) ∧ (-2147483648) ≤ v ∧ v ≤ 2147483647
set_option maxRecDepth 100000 in
set_option maxHeartbeats 4000000 in
theorem sp_X12_span_120_w1 {l : Launch} {K : EC} {M0 : Mem} (hI : In Tru M0) (en_120_12 : rd M0 120 12 = 1) (a1 : Int) (ha1 : 0 ≤ a1 ∧ a1 ≤ 2)  : Tr l K 0 mX12_span 0 [(0, (2, 120)), (1, (0, a1))] [] M0 (q_X12_span_120_w1 M0) := by
  have hS : St Tru ws_X12_span_120_w1 as_X12_span_120_w1 M0 M0 := St.rf hI
  refine Tr.iload_n (pc := 0) (i := 1) d_X12_span_0 rfl rfl ?_
  refine Tr.aload_n (pc := 1) (i := 0) d_X12_span_1 rfl rfl ?_
  refine Tr.getf (pc := 2) d_X12_span_2 f_12_66 (by decide) (by decide) (ty_120 hS.1.1) ?_
  refine Tr.tp 127 (fx_120_18 hS.1.1) ?_
  refine Tr.aload_n (pc := 5) (i := 0) d_X12_span_5 rfl rfl ?_
  refine Tr.getf (pc := 6) d_X12_span_6 f_12_48 (by decide) (by decide) (ty_120 hS.1.1) ?_
  refine Tr.tp 1 ((St.kp hS (by decide) (by decide) (by decide)).trans en_120_12) ?_
  refine Tr.iald (pc := 9) d_X12_span_9 (ty_127 hS.1.1) (by omega) (by omega) ?_
  refine Tr.gen (P := fun v => 0 ≤ v ∧ v ≤ 3) (ir_127_1 hS.1.2.1) (fun r9 er9 br9 => ?_)
  refine Tr.icmp_ge (pc := 10) (tgt := 45) d_X12_span_10 rfl (fun c10 => ?_) (fun c10 => ?_)
  · refine Tr.iconst (pc := 45) d_X12_span_45 (by decide) ?_
    exact Tr.iret (pc := 46) d_X12_span_46 rfl ⟨hS, _, rfl, by omega, by omega⟩
  · refine Tr.aload_n (pc := 13) (i := 0) d_X12_span_13 rfl rfl ?_
    refine Tr.getf (pc := 14) d_X12_span_14 f_12_88 (by decide) (by decide) (ty_120 hS.1.1) ?_
    refine Tr.tp 134 (fx_120_25 hS.1.1) ?_
    refine Tr.iconst (pc := 17) d_X12_span_17 (by decide) ?_
    refine Tr.aload_n (pc := 18) (i := 0) d_X12_span_18 rfl rfl ?_
    refine Tr.getf (pc := 19) d_X12_span_19 f_12_48 (by decide) (by decide) (ty_120 hS.1.1) ?_
    refine Tr.tp 1 ((St.kp hS (by decide) (by decide) (by decide)).trans en_120_12) ?_
    refine Tr.imul (pc := 22) d_X12_span_22 ?_
    refine Tr.tp 3 (by decide) ?_
    refine Tr.iload_n (pc := 23) (i := 1) d_X12_span_23 rfl rfl ?_
    refine Tr.iadd (pc := 24) d_X12_span_24 ?_
    refine Tr.tp (a1 + 3) ((w32_id (by omega)).trans (by omega)) ?_
    refine Tr.iald (pc := 25) d_X12_span_25 (ty_134 hS.1.1) (by omega) (by omega) ?_
    refine Tr.gen (P := fun v => (-2147483648) ≤ v ∧ v ≤ 2147483647) (ar_134 hS.1.2.1 _) (fun r25 er25 br25 => ?_)
    refine Tr.aload_n (pc := 26) (i := 0) d_X12_span_26 rfl rfl ?_
    refine Tr.getf (pc := 27) d_X12_span_27 f_12_85 (by decide) (by decide) (ty_120 hS.1.1) ?_
    refine Tr.tp 133 (fx_120_24 hS.1.1) ?_
    refine Tr.iconst (pc := 30) d_X12_span_30 (by decide) ?_
    refine Tr.aload_n (pc := 31) (i := 0) d_X12_span_31 rfl rfl ?_
    refine Tr.getf (pc := 32) d_X12_span_32 f_12_48 (by decide) (by decide) (ty_120 hS.1.1) ?_
    refine Tr.tp 1 ((St.kp hS (by decide) (by decide) (by decide)).trans en_120_12) ?_
    refine Tr.imul (pc := 35) d_X12_span_35 ?_
    refine Tr.tp 3 (by decide) ?_
    refine Tr.iload_n (pc := 36) (i := 1) d_X12_span_36 rfl rfl ?_
    refine Tr.iadd (pc := 37) d_X12_span_37 ?_
    refine Tr.tp (a1 + 3) ((w32_id (by omega)).trans (by omega)) ?_
    refine Tr.iald (pc := 38) d_X12_span_38 (ty_133 hS.1.1) (by omega) (by omega) ?_
    refine Tr.gen (P := fun v => (-2147483648) ≤ v ∧ v ≤ 2147483647) (ar_133 hS.1.2.1 _) (fun r38 er38 br38 => ?_)
    refine Tr.isub (pc := 39) d_X12_span_39 ?_
    refine Tr.gen (P := fun v => (-2147483648) ≤ v ∧ v ≤ 2147483647) (w32_b _) (fun r39 er39 br39 => ?_)
    refine Tr.iconst (pc := 40) d_X12_span_40 (by decide) ?_
    refine Tr.iadd (pc := 41) d_X12_span_41 ?_
    refine Tr.gen (P := fun v => (-2147483648) ≤ v ∧ v ≤ 2147483647) (w32_b _) (fun r41 er41 br41 => ?_)
    refine Tr.goto (pc := 42) (tgt := 46) d_X12_span_42 rfl ?_
    exact Tr.iret (pc := 46) d_X12_span_46 rfl ⟨hS, _, rfl, by omega, by omega⟩

def ws_X12_lowOf_120_w1 : List (Int × Int) := []
def as_X12_lowOf_120_w1 : List Int := []
def q_X12_lowOf_120_w1 (M0 M' : Mem) (r : Option PV) : Prop := St Tru ws_X12_lowOf_120_w1 as_X12_lowOf_120_w1 M0 M' ∧ ∃ v : Int, r = some (0, v) ∧ (-2147483648) ≤ v ∧ v ≤ 2147483647
set_option maxRecDepth 100000 in
set_option maxHeartbeats 4000000 in
theorem sp_X12_lowOf_120_w1 {l : Launch} {K : EC} {M0 : Mem} (hI : In Tru M0) (en_120_12 : rd M0 120 12 = 1) (a1 : Int) (ha1 : 0 ≤ a1 ∧ a1 ≤ 2)  : Tr l K 0 mX12_lowOf 0 [(0, (2, 120)), (1, (0, a1))] [] M0 (q_X12_lowOf_120_w1 M0) := by
  have hS : St Tru ws_X12_lowOf_120_w1 as_X12_lowOf_120_w1 M0 M0 := St.rf hI
  refine Tr.iload_n (pc := 0) (i := 1) d_X12_lowOf_0 rfl rfl ?_
  refine Tr.aload_n (pc := 1) (i := 0) d_X12_lowOf_1 rfl rfl ?_
  refine Tr.getf (pc := 2) d_X12_lowOf_2 f_12_66 (by decide) (by decide) (ty_120 hS.1.1) ?_
  refine Tr.tp 127 (fx_120_18 hS.1.1) ?_
  refine Tr.aload_n (pc := 5) (i := 0) d_X12_lowOf_5 rfl rfl ?_
  refine Tr.getf (pc := 6) d_X12_lowOf_6 f_12_48 (by decide) (by decide) (ty_120 hS.1.1) ?_
  refine Tr.tp 1 ((St.kp hS (by decide) (by decide) (by decide)).trans en_120_12) ?_
  refine Tr.iald (pc := 9) d_X12_lowOf_9 (ty_127 hS.1.1) (by omega) (by omega) ?_
  refine Tr.gen (P := fun v => 0 ≤ v ∧ v ≤ 3) (ir_127_1 hS.1.2.1) (fun r9 er9 br9 => ?_)
  refine Tr.icmp_ge (pc := 10) (tgt := 29) d_X12_lowOf_10 rfl (fun c10 => ?_) (fun c10 => ?_)
  · refine Tr.iconst (pc := 29) d_X12_lowOf_29 (by decide) ?_
    exact Tr.iret (pc := 30) d_X12_lowOf_30 rfl ⟨hS, _, rfl, by omega, by omega⟩
  · refine Tr.aload_n (pc := 13) (i := 0) d_X12_lowOf_13 rfl rfl ?_
    refine Tr.getf (pc := 14) d_X12_lowOf_14 f_12_85 (by decide) (by decide) (ty_120 hS.1.1) ?_
    refine Tr.tp 133 (fx_120_24 hS.1.1) ?_
    refine Tr.iconst (pc := 17) d_X12_lowOf_17 (by decide) ?_
    refine Tr.aload_n (pc := 18) (i := 0) d_X12_lowOf_18 rfl rfl ?_
    refine Tr.getf (pc := 19) d_X12_lowOf_19 f_12_48 (by decide) (by decide) (ty_120 hS.1.1) ?_
    refine Tr.tp 1 ((St.kp hS (by decide) (by decide) (by decide)).trans en_120_12) ?_
    refine Tr.imul (pc := 22) d_X12_lowOf_22 ?_
    refine Tr.tp 3 (by decide) ?_
    refine Tr.iload_n (pc := 23) (i := 1) d_X12_lowOf_23 rfl rfl ?_
    refine Tr.iadd (pc := 24) d_X12_lowOf_24 ?_
    refine Tr.tp (a1 + 3) ((w32_id (by omega)).trans (by omega)) ?_
    refine Tr.iald (pc := 25) d_X12_lowOf_25 (ty_133 hS.1.1) (by omega) (by omega) ?_
    refine Tr.gen (P := fun v => (-2147483648) ≤ v ∧ v ≤ 2147483647) (ar_133 hS.1.2.1 _) (fun r25 er25 br25 => ?_)
    refine Tr.goto (pc := 26) (tgt := 30) d_X12_lowOf_26 rfl ?_
    exact Tr.iret (pc := 30) d_X12_lowOf_30 rfl ⟨hS, _, rfl, by omega, by omega⟩

def ws_X12_over_120_w1 : List (Int × Int) := [(120, 59), (120, 60), (120, 61), (120, 62), (120, 63), (120, 64), (120, 65), (120, 66), (120, 67), (120, 68), (120, 75), (120, 79), (120, 84), (120, 104)]
def as_X12_over_120_w1 : List Int := [154, 155, 156, 157, 158, 159, 160, 161, 162, 163, 164, 165, 166, 167, 168, 169, 170, 171, 172, 179]
def q_X12_over_120_w1 (a1 : Int) (M0 M' : Mem) (r : Option PV) : Prop := St Tru ws_X12_over_120_w1 as_X12_over_120_w1 M0 M' ∧ ∃ v : Int, r = some (0, v) ∧ (-2147483648) ≤ v ∧ v ≤ 2147483647 ∧ (rd M' 120 59 = -1)
set_option maxRecDepth 100000 in
set_option maxHeartbeats 4000000 in
theorem sp_X12_over_120_w1 {l : Launch} {K : EC} {M0 : Mem} (hI : In Tru M0) (en_120_12 : rd M0 120 12 = 1) (a1 : Int) (ha1 : 0 ≤ a1 ∧ a1 ≤ 1)  (hq0 : rd M0 120 59 = -1) (hF_Bk1 : Bk1 M0) : Tr l K 8 mX12_over 0 [(0, (2, 120)), (1, (0, a1))] [] M0 (q_X12_over_120_w1 a1 M0) := by
  have hS : St Tru ws_X12_over_120_w1 as_X12_over_120_w1 M0 M0 := St.rf hI
  obtain ⟨g120_59, eg120_59⟩ : ∃ v, rd M0 120 59 = v := ⟨_, rfl⟩
  have bg120_59 : (-1) ≤ g120_59 ∧ g120_59 ≤ 5 := by rw [← eg120_59]; exact ir_120_59 hI.2.1
  refine Tr.aload_n (pc := 0) (i := 0) d_X12_over_0 rfl rfl ?_
  refine Tr.iconst (pc := 1) d_X12_over_1 (by decide) ?_
  refine Tr.callV (pc := 2) (as := [_]) d_X12_over_2 s_12_680 ok_X12_span rfl rfl (Nat.le_of_ble_eq_true rfl) (Nat.le_of_ble_eq_true rfl) (by decide) (ty_120 hS.1.1) ?_
  refine Tr.imp (Tr.deep (by decide) (sp_X12_span_120_w1 hS.1 ((St.kp hS (by decide) (by decide) (by decide)).trans en_120_12) 0 (by omega))) ?_
  rintro M2 _ ⟨h2, r2, rfl, lr2, ur2⟩
  have hS := St.tr hS h2 (by decide) (by decide)
  refine Tr.sc [(0, r2)] rfl ?_
  refine Tr.aload_n (pc := 5) (i := 0) d_X12_over_5 rfl rfl ?_
  refine Tr.iconst (pc := 6) d_X12_over_6 (by decide) ?_
  refine Tr.callV (pc := 7) (as := [_]) d_X12_over_7 s_12_680 ok_X12_span rfl rfl (Nat.le_of_ble_eq_true rfl) (Nat.le_of_ble_eq_true rfl) (by decide) (ty_120 hS.1.1) ?_
  refine Tr.imp (Tr.deep (by decide) (sp_X12_span_120_w1 hS.1 ((St.kp hS (by decide) (by decide) (by decide)).trans en_120_12) 1 (by omega))) ?_
  rintro M7 _ ⟨h7, r7, rfl, lr7, ur7⟩
  have hS := St.tr hS h7 (by decide) (by decide)
  refine Tr.sc [(0, r7), (0, r2)] rfl ?_
  refine Tr.imul (pc := 10) d_X12_over_10 ?_
  refine Tr.gen (P := fun v => (-2147483648) ≤ v ∧ v ≤ 2147483647) (w32_b _) (fun r10 er10 br10 => ?_)
  refine Tr.aload_n (pc := 11) (i := 0) d_X12_over_11 rfl rfl ?_
  refine Tr.iconst (pc := 12) d_X12_over_12 (by decide) ?_
  refine Tr.callV (pc := 13) (as := [_]) d_X12_over_13 s_12_680 ok_X12_span rfl rfl (Nat.le_of_ble_eq_true rfl) (Nat.le_of_ble_eq_true rfl) (by decide) (ty_120 hS.1.1) ?_
  refine Tr.imp (Tr.deep (by decide) (sp_X12_span_120_w1 hS.1 ((St.kp hS (by decide) (by decide) (by decide)).trans en_120_12) 2 (by omega))) ?_
  rintro M13 _ ⟨h13, r13, rfl, lr13, ur13⟩
  have hS := St.tr hS h13 (by decide) (by decide)
  refine Tr.sc [(0, r13), (0, r10)] rfl ?_
  refine Tr.imul (pc := 16) d_X12_over_16 ?_
  refine Tr.gen (P := fun v => (-2147483648) ≤ v ∧ v ≤ 2147483647) (w32_b _) (fun r16 er16 br16 => ?_)
  refine Tr.sipush (pc := 17) d_X12_over_17 rfl (by decide) ?_
  refine Tr.icmp_le (pc := 20) (tgt := 25) d_X12_over_20 rfl (fun c20 => ?_) (fun c20 => ?_)
  · refine Tr.lconst (pc := 25) (v := 0) d_X12_over_25 rfl (by decide) ?_
    refine Tr.lstore_n (pc := 26) (i := 2) (ls2 := [(2, (1, 0)), (0, (2, 120)), (1, (0, a1))]) d_X12_over_26 rfl (by decide) rfl ?_
    refine Tr.iconst (pc := 27) d_X12_over_27 (by decide) ?_
    refine Tr.istore (pc := 28) (i := 4) (ls2 := [(4, (0, 0)), (2, (1, 0)), (0, (2, 120)), (1, (0, a1))]) d_X12_over_28 (by decide) rfl ?_
    refine Tr.iconst (pc := 30) d_X12_over_30 (by decide) ?_
    refine Tr.istore (pc := 31) (i := 5) (ls2 := [(5, (0, 0)), (4, (0, 0)), (2, (1, 0)), (0, (2, 120)), (1, (0, a1))]) d_X12_over_31 (by decide) rfl ?_
    have J33 : ∀ (n33 : Nat) (M : Mem) (p33_2 p33_4 p33_5 u33_120_59 : Int), St Tru ws_X12_over_120_w1 as_X12_over_120_w1 M0 M → ((-9223372036854775808) ≤ p33_2 ∧ p33_2 ≤ 9223372036854775807) → (0 ≤ p33_4 ∧ p33_4 ≤ 1) → (0 ≤ p33_5 ∧ p33_5 ≤ 2147483647) → ((-1) ≤ u33_120_59 ∧ u33_120_59 ≤ 5) → rd M 120 59 = u33_120_59 → (u33_120_59 = -1) → (2147483647 - p33_5).toNat < n33 → Tr l K 8 mX12_over 33 [(0, (2, 120)), (1, (0, a1)), (2, (1, p33_2)), (4, (0, p33_4)), (5, (0, p33_5))] [] M (q_X12_over_120_w1 a1 M0) := by
      intro n33
      induction n33 with
      | zero => intro M p33_2 p33_4 p33_5 u33_120_59 hS bp33_2 bp33_4 bp33_5 bu33_120_59 k33_120_59 t33_0 hm33; exact absurd hm33 (Nat.not_lt_zero _)
      | succ n33 J33 =>
        intro M p33_2 p33_4 p33_5 u33_120_59 hS bp33_2 bp33_4 bp33_5 bu33_120_59 k33_120_59 t33_0 hm33
        refine Tr.iload (pc := 33) (i := 5) d_X12_over_33 rfl ?_
        refine Tr.aload_n (pc := 35) (i := 0) d_X12_over_35 rfl rfl ?_
        refine Tr.iconst (pc := 36) d_X12_over_36 (by decide) ?_
        refine Tr.callV (pc := 37) (as := [_]) d_X12_over_37 s_12_680 ok_X12_span rfl rfl (Nat.le_of_ble_eq_true rfl) (Nat.le_of_ble_eq_true rfl) (by decide) (ty_120 hS.1.1) ?_
        refine Tr.imp (Tr.deep (by decide) (sp_X12_span_120_w1 hS.1 ((St.kp hS (by decide) (by decide) (by decide)).trans en_120_12) 0 (by omega))) ?_
        rintro M37 _ ⟨h37, r37, rfl, lr37, ur37⟩
        have hS := St.tr hS h37 (by decide) (by decide)
        refine Tr.sc [(0, r37), (0, p33_5)] rfl ?_
        refine Tr.icmp_ge (pc := 40) (tgt := 208) d_X12_over_40 rfl (fun c40 => ?_) (fun c40 => ?_)
        · refine Tr.aload_n (pc := 208) (i := 0) d_X12_over_208 rfl rfl ?_
          refine Tr.iconst (pc := 209) d_X12_over_209 (by decide) ?_
          refine Tr.putzS (pc := 210) (P := St Tru ws_X12_over_120_w1 as_X12_over_120_w1 M0) d_X12_over_210 f_12_327 (by decide) (ty_120 hS.1.1) (by omega) (st_120_104 hS (by decide) (by omega) trivial) (fun M210 hS w210 => ?_)
          refine Tr.lload_n (pc := 213) (i := 2) d_X12_over_213 rfl rfl ?_
          refine Tr.l2i (pc := 214) d_X12_over_214 ?_
          refine Tr.gen (P := fun v => (-2147483648) ≤ v ∧ v ≤ 2147483647) (w32_b _) (fun r214 er214 br214 => ?_)
          have kr_120_59 : rd M210 120 59 = u33_120_59 := ((Wr.b w210 rfl).trans ((St.kp h37 (by decide) (by decide) (by decide)).trans k33_120_59))
          exact Tr.iret (pc := 215) d_X12_over_215 rfl ⟨hS, _, rfl, by omega, by omega, by omega⟩
        · refine Tr.iconst (pc := 43) d_X12_over_43 (by decide) ?_
          refine Tr.istore (pc := 44) (i := 6) (ls2 := [(6, (0, 0)), (0, (2, 120)), (1, (0, a1)), (2, (1, p33_2)), (4, (0, p33_4)), (5, (0, p33_5))]) d_X12_over_44 (by decide) rfl ?_
          have J46 : ∀ (n46 : Nat) (M : Mem) (p46_2 p46_4 p46_6 u46_120_59 : Int), St Tru ws_X12_over_120_w1 as_X12_over_120_w1 M0 M → ((-9223372036854775808) ≤ p46_2 ∧ p46_2 ≤ 9223372036854775807) → (0 ≤ p46_4 ∧ p46_4 ≤ 1) → (0 ≤ p46_6 ∧ p46_6 ≤ 2147483647) → ((-1) ≤ u46_120_59 ∧ u46_120_59 ≤ 5) → rd M 120 59 = u46_120_59 → (u46_120_59 = -1) → (2147483647 - p46_6).toNat < n46 → Tr l K 8 mX12_over 46 [(0, (2, 120)), (1, (0, a1)), (2, (1, p46_2)), (4, (0, p46_4)), (5, (0, p33_5)), (6, (0, p46_6))] [] M (q_X12_over_120_w1 a1 M0) := by
            intro n46
            induction n46 with
            | zero => intro M p46_2 p46_4 p46_6 u46_120_59 hS bp46_2 bp46_4 bp46_6 bu46_120_59 k46_120_59 t46_0 hm46; exact absurd hm46 (Nat.not_lt_zero _)
            | succ n46 J46 =>
              intro M p46_2 p46_4 p46_6 u46_120_59 hS bp46_2 bp46_4 bp46_6 bu46_120_59 k46_120_59 t46_0 hm46
              refine Tr.iload (pc := 46) (i := 6) d_X12_over_46 rfl ?_
              refine Tr.aload_n (pc := 48) (i := 0) d_X12_over_48 rfl rfl ?_
              refine Tr.iconst (pc := 49) d_X12_over_49 (by decide) ?_
              refine Tr.callV (pc := 50) (as := [_]) d_X12_over_50 s_12_680 ok_X12_span rfl rfl (Nat.le_of_ble_eq_true rfl) (Nat.le_of_ble_eq_true rfl) (by decide) (ty_120 hS.1.1) ?_
              refine Tr.imp (Tr.deep (by decide) (sp_X12_span_120_w1 hS.1 ((St.kp hS (by decide) (by decide) (by decide)).trans en_120_12) 1 (by omega))) ?_
              rintro M50 _ ⟨h50, r50, rfl, lr50, ur50⟩
              have hS := St.tr hS h50 (by decide) (by decide)
              refine Tr.sc [(0, r50), (0, p46_6)] rfl ?_
              refine Tr.icmp_ge (pc := 53) (tgt := 202) d_X12_over_53 rfl (fun c53 => ?_) (fun c53 => ?_)
              · refine Tr.iincV (pc := 202) (n2 := (p33_5 + 1)) (ls2 := [(5, (0, (p33_5 + 1))), (0, (2, 120)), (1, (0, a1)), (2, (1, p46_2)), (4, (0, p46_4)), (6, (0, p46_6))]) d_X12_over_202 rfl (by decide) ((w32_id (by omega)).trans (by omega)) rfl ?_
                refine Tr.goto (pc := 205) (tgt := 33) d_X12_over_205 rfl ?_
                refine Tr.pick [1, 2, 3, 4, 0] (ls2 := [(0, (2, 120)), (1, (0, a1)), (2, (1, p46_2)), (4, (0, p46_4)), (5, (0, (p33_5 + 1)))]) rfl ?_
                exact J33 _ _ _ _ _ hS (by omega) (by omega) (by omega) (by omega) ((St.kp h50 (by decide) (by decide) (by decide)).trans k46_120_59) (by omega) (by omega)
              · refine Tr.iconst (pc := 56) d_X12_over_56 (by decide) ?_
                refine Tr.istore (pc := 57) (i := 7) (ls2 := [(7, (0, 0)), (0, (2, 120)), (1, (0, a1)), (2, (1, p46_2)), (4, (0, p46_4)), (5, (0, p33_5)), (6, (0, p46_6))]) d_X12_over_57 (by decide) rfl ?_
                have J59 : ∀ (n59 : Nat) (M : Mem) (p59_2 p59_4 p59_7 u59_120_59 : Int), St Tru ws_X12_over_120_w1 as_X12_over_120_w1 M0 M → ((-9223372036854775808) ≤ p59_2 ∧ p59_2 ≤ 9223372036854775807) → (0 ≤ p59_4 ∧ p59_4 ≤ 1) → (0 ≤ p59_7 ∧ p59_7 ≤ 2147483647) → ((-1) ≤ u59_120_59 ∧ u59_120_59 ≤ 5) → rd M 120 59 = u59_120_59 → (u59_120_59 = -1) → (2147483647 - p59_7).toNat < n59 → Tr l K 8 mX12_over 59 [(0, (2, 120)), (1, (0, a1)), (2, (1, p59_2)), (4, (0, p59_4)), (5, (0, p33_5)), (6, (0, p46_6)), (7, (0, p59_7))] [] M (q_X12_over_120_w1 a1 M0) := by
                  intro n59
                  induction n59 with
                  | zero => intro M p59_2 p59_4 p59_7 u59_120_59 hS bp59_2 bp59_4 bp59_7 bu59_120_59 k59_120_59 t59_0 hm59; exact absurd hm59 (Nat.not_lt_zero _)
                  | succ n59 J59 =>
                    intro M p59_2 p59_4 p59_7 u59_120_59 hS bp59_2 bp59_4 bp59_7 bu59_120_59 k59_120_59 t59_0 hm59
                    refine Tr.iload (pc := 59) (i := 7) d_X12_over_59 rfl ?_
                    refine Tr.aload_n (pc := 61) (i := 0) d_X12_over_61 rfl rfl ?_
                    refine Tr.iconst (pc := 62) d_X12_over_62 (by decide) ?_
                    refine Tr.callV (pc := 63) (as := [_]) d_X12_over_63 s_12_680 ok_X12_span rfl rfl (Nat.le_of_ble_eq_true rfl) (Nat.le_of_ble_eq_true rfl) (by decide) (ty_120 hS.1.1) ?_
                    refine Tr.imp (Tr.deep (by decide) (sp_X12_span_120_w1 hS.1 ((St.kp hS (by decide) (by decide) (by decide)).trans en_120_12) 2 (by omega))) ?_
                    rintro M63 _ ⟨h63, r63, rfl, lr63, ur63⟩
                    have hS := St.tr hS h63 (by decide) (by decide)
                    refine Tr.sc [(0, r63), (0, p59_7)] rfl ?_
                    refine Tr.icmp_ge (pc := 66) (tgt := 196) d_X12_over_66 rfl (fun c66 => ?_) (fun c66 => ?_)
                    · refine Tr.iincV (pc := 196) (n2 := (p46_6 + 1)) (ls2 := [(6, (0, (p46_6 + 1))), (0, (2, 120)), (1, (0, a1)), (2, (1, p59_2)), (4, (0, p59_4)), (5, (0, p33_5)), (7, (0, p59_7))]) d_X12_over_196 rfl (by decide) ((w32_id (by omega)).trans (by omega)) rfl ?_
                      refine Tr.goto (pc := 199) (tgt := 46) d_X12_over_199 rfl ?_
                      refine Tr.pick [1, 2, 3, 4, 5, 0] (ls2 := [(0, (2, 120)), (1, (0, a1)), (2, (1, p59_2)), (4, (0, p59_4)), (5, (0, p33_5)), (6, (0, (p46_6 + 1)))]) rfl ?_
                      exact J46 _ _ _ _ _ hS (by omega) (by omega) (by omega) (by omega) ((St.kp h63 (by decide) (by decide) (by decide)).trans k59_120_59) (by omega) (by omega)
                    · refine Tr.aload_n (pc := 69) (i := 0) d_X12_over_69 rfl rfl ?_
                      refine Tr.getf (pc := 70) d_X12_over_70 f_12_171 (by decide) (by decide) (ty_120 hS.1.1) ?_
                      refine Tr.tp 154 (fx_120_52 hS.1.1) ?_
                      refine Tr.iconst (pc := 73) d_X12_over_73 (by decide) ?_
                      refine Tr.aload_n (pc := 74) (i := 0) d_X12_over_74 rfl rfl ?_
                      refine Tr.iconst (pc := 75) d_X12_over_75 (by decide) ?_
                      refine Tr.callV (pc := 76) (as := [_]) d_X12_over_76 s_12_683 ok_X12_lowOf rfl rfl (Nat.le_of_ble_eq_true rfl) (Nat.le_of_ble_eq_true rfl) (by decide) (ty_120 hS.1.1) ?_
                      refine Tr.imp (Tr.deep (by decide) (sp_X12_lowOf_120_w1 hS.1 ((St.kp hS (by decide) (by decide) (by decide)).trans en_120_12) 0 (by omega))) ?_
                      rintro M76 _ ⟨h76, r76, rfl, lr76, ur76⟩
                      have hS := St.tr hS h76 (by decide) (by decide)
                      refine Tr.sc [(0, r76), (0, 0), (2, 154)] rfl ?_
                      refine Tr.iload (pc := 79) (i := 5) d_X12_over_79 rfl ?_
                      refine Tr.iadd (pc := 81) d_X12_over_81 ?_
                      refine Tr.gen (P := fun v => (-2147483648) ≤ v ∧ v ≤ 2147483647) (w32_b _) (fun r81 er81 br81 => ?_)
                      refine Tr.iastS (pc := 82) (P := St Tru ws_X12_over_120_w1 as_X12_over_120_w1 M0) d_X12_over_82 (ty_154 hS.1.1) (by omega) (by omega) (sa_154 hS (by decide) (by omega) trivial) (fun M82 hS w82 => ?_)
                      refine Tr.aload_n (pc := 83) (i := 0) d_X12_over_83 rfl rfl ?_
                      refine Tr.getf (pc := 84) d_X12_over_84 f_12_171 (by decide) (by decide) (ty_120 hS.1.1) ?_
                      refine Tr.tp 154 (fx_120_52 hS.1.1) ?_
                      refine Tr.iconst (pc := 87) d_X12_over_87 (by decide) ?_
                      refine Tr.aload_n (pc := 88) (i := 0) d_X12_over_88 rfl rfl ?_
                      refine Tr.iconst (pc := 89) d_X12_over_89 (by decide) ?_
                      refine Tr.callV (pc := 90) (as := [_]) d_X12_over_90 s_12_683 ok_X12_lowOf rfl rfl (Nat.le_of_ble_eq_true rfl) (Nat.le_of_ble_eq_true rfl) (by decide) (ty_120 hS.1.1) ?_
                      refine Tr.imp (Tr.deep (by decide) (sp_X12_lowOf_120_w1 hS.1 ((St.kp hS (by decide) (by decide) (by decide)).trans en_120_12) 1 (by omega))) ?_
                      rintro M90 _ ⟨h90, r90, rfl, lr90, ur90⟩
                      have hS := St.tr hS h90 (by decide) (by decide)
                      refine Tr.sc [(0, r90), (0, 1), (2, 154)] rfl ?_
                      refine Tr.iload (pc := 93) (i := 6) d_X12_over_93 rfl ?_
                      refine Tr.iadd (pc := 95) d_X12_over_95 ?_
                      refine Tr.gen (P := fun v => (-2147483648) ≤ v ∧ v ≤ 2147483647) (w32_b _) (fun r95 er95 br95 => ?_)
                      refine Tr.iastS (pc := 96) (P := St Tru ws_X12_over_120_w1 as_X12_over_120_w1 M0) d_X12_over_96 (ty_154 hS.1.1) (by omega) (by omega) (sa_154 hS (by decide) (by omega) trivial) (fun M96 hS w96 => ?_)
                      refine Tr.aload_n (pc := 97) (i := 0) d_X12_over_97 rfl rfl ?_
                      refine Tr.getf (pc := 98) d_X12_over_98 f_12_171 (by decide) (by decide) (ty_120 hS.1.1) ?_
                      refine Tr.tp 154 (fx_120_52 hS.1.1) ?_
                      refine Tr.iconst (pc := 101) d_X12_over_101 (by decide) ?_
                      refine Tr.aload_n (pc := 102) (i := 0) d_X12_over_102 rfl rfl ?_
                      refine Tr.iconst (pc := 103) d_X12_over_103 (by decide) ?_
                      refine Tr.callV (pc := 104) (as := [_]) d_X12_over_104 s_12_683 ok_X12_lowOf rfl rfl (Nat.le_of_ble_eq_true rfl) (Nat.le_of_ble_eq_true rfl) (by decide) (ty_120 hS.1.1) ?_
                      refine Tr.imp (Tr.deep (by decide) (sp_X12_lowOf_120_w1 hS.1 ((St.kp hS (by decide) (by decide) (by decide)).trans en_120_12) 2 (by omega))) ?_
                      rintro M104 _ ⟨h104, r104, rfl, lr104, ur104⟩
                      have hS := St.tr hS h104 (by decide) (by decide)
                      refine Tr.sc [(0, r104), (0, 2), (2, 154)] rfl ?_
                      refine Tr.iload (pc := 107) (i := 7) d_X12_over_107 rfl ?_
                      refine Tr.iadd (pc := 109) d_X12_over_109 ?_
                      refine Tr.gen (P := fun v => (-2147483648) ≤ v ∧ v ≤ 2147483647) (w32_b _) (fun r109 er109 br109 => ?_)
                      refine Tr.iastS (pc := 110) (P := St Tru ws_X12_over_120_w1 as_X12_over_120_w1 M0) d_X12_over_110 (ty_154 hS.1.1) (by omega) (by omega) (sa_154 hS (by decide) (by omega) trivial) (fun M110 hS w110 => ?_)
                      refine Tr.aload_n (pc := 111) (i := 0) d_X12_over_111 rfl rfl ?_
                      refine Tr.ldc2 (pc := 112) d_X12_over_112 kl_12_686 (by decide) ?_
                      refine Tr.callV (pc := 115) (as := [_]) d_X12_over_115 s_12_637 ok_X12_runs rfl rfl (Nat.le_of_ble_eq_true rfl) (Nat.le_of_ble_eq_true rfl) (by decide) (ty_120 hS.1.1) ?_
                      have kb115_120_59 : rd M110 120 59 = u59_120_59 := ((Wr.b w110 rfl).trans ((St.kp h104 (by decide) (by decide) (by decide)).trans ((Wr.b w96 rfl).trans ((St.kp h90 (by decide) (by decide) (by decide)).trans ((Wr.b w82 rfl).trans ((St.kp h76 (by decide) (by decide) (by decide)).trans ((St.kp h63 (by decide) (by decide) (by decide)).trans k59_120_59)))))))
                      refine Tr.imp (Tr.deep (by decide) (sp_X12_runs_120_w2 hS.1 ((St.kp hS (by decide) (by decide) (by decide)).trans en_120_12) (-1) (by omega) (by omega) (Bk1.of hF_Bk1 (fun j => (St.ka hS (by decide) (by decide) (by decide))) (fun j => (St.ka hS (by decide) (by decide) (by decide))) (fun j => (St.ka hS (by decide) (by decide) (by decide))) (fun j => (St.ka hS (by decide) (by decide) (by decide))) (fun j => (St.ka hS (by decide) (by decide) (by decide))) (fun j => (St.ka hS (by decide) (by decide) (by decide))) (fun j => (St.ka hS (by decide) (by decide) (by decide))) (fun j => (St.ka hS (by decide) (by decide) (by decide))) (St.kp hS (by decide) (by decide) (by decide)) (St.kp hS (by decide) (by decide) (by decide)) (St.kp hS (by decide) (by decide) (by decide)) (St.kp hS (by decide) (by decide) (by decide))))) ?_
                      rintro M115 _ ⟨h115, r115, rfl, lr115, ur115, z115_0⟩
                      have hS := St.tr hS h115 (by decide) (by decide)
                      obtain ⟨s115_120_59, es115_120_59⟩ : ∃ v, rd M115 120 59 = v := ⟨_, rfl⟩
                      have bs115_120_59 : (-1) ≤ s115_120_59 ∧ s115_120_59 ≤ 5 := by rw [← es115_120_59]; exact ir_120_59 hS.1.2.1
                      refine Tr.sc [(0, r115)] rfl ?_
                      refine Tr.istore (pc := 118) (i := 8) (ls2 := [(8, (0, r115)), (0, (2, 120)), (1, (0, a1)), (2, (1, p59_2)), (4, (0, p59_4)), (5, (0, p33_5)), (6, (0, p46_6)), (7, (0, p59_7))]) d_X12_over_118 (by decide) rfl ?_
                      refine Tr.iload (pc := 120) (i := 4) d_X12_over_120 rfl ?_
                      have J190 : ∀ (M : Mem) (p190_4 p190_2 : Int), St Tru ws_X12_over_120_w1 as_X12_over_120_w1 M0 M → (1 ≤ p190_4 ∧ p190_4 ≤ 1) → ((-9223372036854775808) ≤ p190_2 ∧ p190_2 ≤ 9223372036854775807) → rd M 120 59 = s115_120_59 → rd M 154 0 = r81 → (s115_120_59 = -1) → Tr l K 8 mX12_over 190 [(0, (2, 120)), (1, (0, a1)), (2, (1, p190_2)), (4, (0, p190_4)), (5, (0, p33_5)), (6, (0, p46_6)), (7, (0, p59_7))] [] M (q_X12_over_120_w1 a1 M0) := by
                        intro M p190_4 p190_2 hS bp190_4 bp190_2 k190_120_59 k190_154_0 t190_0
                        refine Tr.iincV (pc := 190) (n2 := (p59_7 + 1)) (ls2 := [(7, (0, (p59_7 + 1))), (0, (2, 120)), (1, (0, a1)), (2, (1, p190_2)), (4, (0, p190_4)), (5, (0, p33_5)), (6, (0, p46_6))]) d_X12_over_190 rfl (by decide) ((w32_id (by omega)).trans (by omega)) rfl ?_
                        refine Tr.goto (pc := 193) (tgt := 59) d_X12_over_193 rfl ?_
                        refine Tr.pick [1, 2, 3, 4, 5, 6, 0] (ls2 := [(0, (2, 120)), (1, (0, a1)), (2, (1, p190_2)), (4, (0, p190_4)), (5, (0, p33_5)), (6, (0, p46_6)), (7, (0, (p59_7 + 1)))]) rfl ?_
                        exact J59 _ _ _ _ _ hS (by omega) (by omega) (by omega) (by omega) k190_120_59 (by omega) (by omega)
                      have J153 : ∀ (M : Mem), St Tru ws_X12_over_120_w1 as_X12_over_120_w1 M0 M → rd M 120 59 = s115_120_59 → rd M 154 0 = r81 → (s115_120_59 = -1) → Tr l K 8 mX12_over 153 [(0, (2, 120)), (1, (0, a1)), (5, (0, p33_5)), (6, (0, p46_6)), (7, (0, p59_7))] [] M (q_X12_over_120_w1 a1 M0) := by
                        intro M  hS  k153_120_59 k153_154_0 t153_0
                        refine Tr.iconst (pc := 153) d_X12_over_153 (by decide) ?_
                        refine Tr.istore (pc := 154) (i := 4) (ls2 := [(4, (0, 1)), (0, (2, 120)), (1, (0, a1)), (5, (0, p33_5)), (6, (0, p46_6)), (7, (0, p59_7))]) d_X12_over_154 (by decide) rfl ?_
                        refine Tr.aload_n (pc := 156) (i := 0) d_X12_over_156 rfl rfl ?_
                        refine Tr.getf (pc := 157) d_X12_over_157 f_12_204 (by decide) (by decide) (ty_120 hS.1.1) ?_
                        refine Tr.gen (P := fun v => (-9223372036854775808) ≤ v ∧ v ≤ 9223372036854775807) (ir_120_63 hS.1.2.1) (fun r157 er157 br157 => ?_)
                        refine Tr.lstore_n (pc := 160) (i := 2) (ls2 := [(2, (1, r157)), (4, (0, 1)), (0, (2, 120)), (1, (0, a1)), (5, (0, p33_5)), (6, (0, p46_6)), (7, (0, p59_7))]) d_X12_over_160 rfl (by decide) rfl ?_
                        refine Tr.iconst (pc := 161) d_X12_over_161 (by decide) ?_
                        refine Tr.istore (pc := 162) (i := 9) (ls2 := [(9, (0, 0)), (2, (1, r157)), (4, (0, 1)), (0, (2, 120)), (1, (0, a1)), (5, (0, p33_5)), (6, (0, p46_6)), (7, (0, p59_7))]) d_X12_over_162 (by decide) rfl ?_
                        have J164 : ∀ (n164 : Nat) (M : Mem) (p164_9 : Int), St Tru ws_X12_over_120_w1 as_X12_over_120_w1 M0 M → (0 ≤ p164_9 ∧ p164_9 ≤ 3) → rd M 120 59 = s115_120_59 → rd M 120 63 = r157 → rd M 154 0 = r81 → (s115_120_59 = -1) → (3 - p164_9).toNat < n164 → Tr l K 8 mX12_over 164 [(0, (2, 120)), (1, (0, a1)), (2, (1, r157)), (4, (0, 1)), (5, (0, p33_5)), (6, (0, p46_6)), (7, (0, p59_7)), (9, (0, p164_9))] [] M (q_X12_over_120_w1 a1 M0) := by
                          intro n164
                          induction n164 with
                          | zero => intro M p164_9 hS bp164_9 k164_120_59 k164_120_63 k164_154_0 t164_0 hm164; exact absurd hm164 (Nat.not_lt_zero _)
                          | succ n164 J164 =>
                            intro M p164_9 hS bp164_9 k164_120_59 k164_120_63 k164_154_0 t164_0 hm164
                            refine Tr.iload (pc := 164) (i := 9) d_X12_over_164 rfl ?_
                            refine Tr.iconst (pc := 166) d_X12_over_166 (by decide) ?_
                            refine Tr.icmp_ge (pc := 167) (tgt := 190) d_X12_over_167 rfl (fun c167 => ?_) (fun c167 => ?_)
                            · refine Tr.pick [0, 1, 2, 3, 4, 5, 6] (ls2 := [(0, (2, 120)), (1, (0, a1)), (2, (1, r157)), (4, (0, 1)), (5, (0, p33_5)), (6, (0, p46_6)), (7, (0, p59_7))]) rfl ?_
                              exact J190 _ _ _ hS (by omega) (by omega) k164_120_59 k164_154_0 (by omega)
                            · refine Tr.aload_n (pc := 170) (i := 0) d_X12_over_170 rfl rfl ?_
                              refine Tr.getf (pc := 171) d_X12_over_171 f_12_330 (by decide) (by decide) (ty_120 hS.1.1) ?_
                              refine Tr.tp 179 (fx_120_105 hS.1.1) ?_
                              refine Tr.iload (pc := 174) (i := 9) d_X12_over_174 rfl ?_
                              refine Tr.aload_n (pc := 176) (i := 0) d_X12_over_176 rfl rfl ?_
                              refine Tr.getf (pc := 177) d_X12_over_177 f_12_171 (by decide) (by decide) (ty_120 hS.1.1) ?_
                              refine Tr.tp 154 (fx_120_52 hS.1.1) ?_
                              refine Tr.iload (pc := 180) (i := 9) d_X12_over_180 rfl ?_
                              refine Tr.iald (pc := 182) d_X12_over_182 (ty_154 hS.1.1) (by omega) (by omega) ?_
                              refine Tr.gen (P := fun v => (-2147483648) ≤ v ∧ v ≤ 2147483647) (ar_154 hS.1.2.1 _) (fun r182 er182 br182 => ?_)
                              refine Tr.iastS (pc := 183) (P := St Tru ws_X12_over_120_w1 as_X12_over_120_w1 M0) d_X12_over_183 (ty_179 hS.1.1) (by omega) (by omega) (sa_179 hS (by decide) (by omega) trivial) (fun M183 hS w183 => ?_)
                              refine Tr.iincV (pc := 184) (n2 := (p164_9 + 1)) (ls2 := [(9, (0, (p164_9 + 1))), (0, (2, 120)), (1, (0, a1)), (2, (1, r157)), (4, (0, 1)), (5, (0, p33_5)), (6, (0, p46_6)), (7, (0, p59_7))]) d_X12_over_184 rfl (by decide) ((w32_id (by omega)).trans (by omega)) rfl ?_
                              refine Tr.goto (pc := 187) (tgt := 164) d_X12_over_187 rfl ?_
                              refine Tr.pick [1, 2, 3, 4, 5, 6, 7, 0] (ls2 := [(0, (2, 120)), (1, (0, a1)), (2, (1, r157)), (4, (0, 1)), (5, (0, p33_5)), (6, (0, p46_6)), (7, (0, p59_7)), (9, (0, (p164_9 + 1)))]) rfl ?_
                              exact J164 _ _ hS (by omega) ((Wr.b w183 rfl).trans k164_120_59) ((Wr.b w183 rfl).trans k164_120_63) ((Wr.b w183 rfl).trans k164_154_0) (by omega) (by omega)
                        refine Tr.pick [3, 4, 1, 2, 5, 6, 7, 0] (ls2 := [(0, (2, 120)), (1, (0, a1)), (2, (1, r157)), (4, (0, 1)), (5, (0, p33_5)), (6, (0, p46_6)), (7, (0, p59_7)), (9, (0, 0))]) rfl ?_
                        exact J164 _ _ _ hS (by omega) k153_120_59 er157 k153_154_0 (by omega) (Nat.lt_succ_self _)
                      refine Tr.if_eq (pc := 122) (tgt := 153) d_X12_over_122 rfl (fun c122 => ?_) (fun c122 => ?_)
                      · refine Tr.pick [1, 2, 5, 6, 7] (ls2 := [(0, (2, 120)), (1, (0, a1)), (5, (0, p33_5)), (6, (0, p46_6)), (7, (0, p59_7))]) rfl ?_
                        exact J153 _ hS es115_120_59 ((St.kp h115 (by decide) (by decide) (by decide)).trans ((Wr.b w110 rfl).trans ((St.kp h104 (by decide) (by decide) (by decide)).trans ((Wr.b w96 rfl).trans ((St.kp h90 (by decide) (by decide) (by decide)).trans w82.1))))) (by omega)
                      · refine Tr.iload_n (pc := 125) (i := 1) d_X12_over_125 rfl rfl ?_
                        refine Tr.if_eq (pc := 126) (tgt := 141) d_X12_over_126 rfl (fun c126 => ?_) (fun c126 => ?_)
                        · refine Tr.aload_n (pc := 141) (i := 0) d_X12_over_141 rfl rfl ?_
                          refine Tr.getf (pc := 142) d_X12_over_142 f_12_204 (by decide) (by decide) (ty_120 hS.1.1) ?_
                          refine Tr.gen (P := fun v => (-9223372036854775808) ≤ v ∧ v ≤ 9223372036854775807) (ir_120_63 hS.1.2.1) (fun r142 er142 br142 => ?_)
                          refine Tr.lload_n (pc := 145) (i := 2) d_X12_over_145 rfl rfl ?_
                          refine Tr.lcmp (pc := 146) d_X12_over_146 ?_
                          refine Tr.gen (P := fun v => (v = 1 ∧ p59_2 < r142) ∨ (v = 0 ∧ r142 = p59_2) ∨ (v = -1 ∧ r142 < p59_2)) (f_lcmp_c _ _) (fun r146 er146 br146 => ?_)
                          refine Tr.if_lt (pc := 147) (tgt := 153) d_X12_over_147 rfl (fun c147 => ?_) (fun c147 => ?_)
                          · refine Tr.pick [1, 2, 5, 6, 7] (ls2 := [(0, (2, 120)), (1, (0, a1)), (5, (0, p33_5)), (6, (0, p46_6)), (7, (0, p59_7))]) rfl ?_
                            exact J153 _ hS es115_120_59 ((St.kp h115 (by decide) (by decide) (by decide)).trans ((Wr.b w110 rfl).trans ((St.kp h104 (by decide) (by decide) (by decide)).trans ((Wr.b w96 rfl).trans ((St.kp h90 (by decide) (by decide) (by decide)).trans w82.1))))) (by omega)
                          · refine Tr.goto (pc := 150) (tgt := 190) d_X12_over_150 rfl ?_
                            refine Tr.pick [1, 2, 3, 4, 5, 6, 7] (ls2 := [(0, (2, 120)), (1, (0, a1)), (2, (1, p59_2)), (4, (0, p59_4)), (5, (0, p33_5)), (6, (0, p46_6)), (7, (0, p59_7))]) rfl ?_
                            exact J190 _ _ _ hS (by omega) (by omega) es115_120_59 ((St.kp h115 (by decide) (by decide) (by decide)).trans ((Wr.b w110 rfl).trans ((St.kp h104 (by decide) (by decide) (by decide)).trans ((Wr.b w96 rfl).trans ((St.kp h90 (by decide) (by decide) (by decide)).trans w82.1))))) (by omega)
                        · refine Tr.aload_n (pc := 129) (i := 0) d_X12_over_129 rfl rfl ?_
                          refine Tr.getf (pc := 130) d_X12_over_130 f_12_204 (by decide) (by decide) (ty_120 hS.1.1) ?_
                          refine Tr.gen (P := fun v => (-9223372036854775808) ≤ v ∧ v ≤ 9223372036854775807) (ir_120_63 hS.1.2.1) (fun r130 er130 br130 => ?_)
                          refine Tr.lload_n (pc := 133) (i := 2) d_X12_over_133 rfl rfl ?_
                          refine Tr.lcmp (pc := 134) d_X12_over_134 ?_
                          refine Tr.gen (P := fun v => (v = 1 ∧ p59_2 < r130) ∨ (v = 0 ∧ r130 = p59_2) ∨ (v = -1 ∧ r130 < p59_2)) (f_lcmp_c _ _) (fun r134 er134 br134 => ?_)
                          refine Tr.if_gt (pc := 135) (tgt := 153) d_X12_over_135 rfl (fun c135 => ?_) (fun c135 => ?_)
                          · refine Tr.pick [1, 2, 5, 6, 7] (ls2 := [(0, (2, 120)), (1, (0, a1)), (5, (0, p33_5)), (6, (0, p46_6)), (7, (0, p59_7))]) rfl ?_
                            exact J153 _ hS es115_120_59 ((St.kp h115 (by decide) (by decide) (by decide)).trans ((Wr.b w110 rfl).trans ((St.kp h104 (by decide) (by decide) (by decide)).trans ((Wr.b w96 rfl).trans ((St.kp h90 (by decide) (by decide) (by decide)).trans w82.1))))) (by omega)
                          · refine Tr.goto (pc := 138) (tgt := 190) d_X12_over_138 rfl ?_
                            refine Tr.pick [1, 2, 3, 4, 5, 6, 7] (ls2 := [(0, (2, 120)), (1, (0, a1)), (2, (1, p59_2)), (4, (0, p59_4)), (5, (0, p33_5)), (6, (0, p46_6)), (7, (0, p59_7))]) rfl ?_
                            exact J190 _ _ _ hS (by omega) (by omega) es115_120_59 ((St.kp h115 (by decide) (by decide) (by decide)).trans ((Wr.b w110 rfl).trans ((St.kp h104 (by decide) (by decide) (by decide)).trans ((Wr.b w96 rfl).trans ((St.kp h90 (by decide) (by decide) (by decide)).trans w82.1))))) (by omega)
                refine Tr.pick [1, 2, 3, 4, 5, 6, 0] (ls2 := [(0, (2, 120)), (1, (0, a1)), (2, (1, p46_2)), (4, (0, p46_4)), (5, (0, p33_5)), (6, (0, p46_6)), (7, (0, 0))]) rfl ?_
                exact J59 _ _ _ _ _ _ hS (by omega) (by omega) (by omega) (by omega) ((St.kp h50 (by decide) (by decide) (by decide)).trans k46_120_59) (by omega) (Nat.lt_succ_self _)
          refine Tr.pick [1, 2, 3, 4, 5, 0] (ls2 := [(0, (2, 120)), (1, (0, a1)), (2, (1, p33_2)), (4, (0, p33_4)), (5, (0, p33_5)), (6, (0, 0))]) rfl ?_
          exact J46 _ _ _ _ _ _ hS (by omega) (by omega) (by omega) (by omega) ((St.kp h37 (by decide) (by decide) (by decide)).trans k33_120_59) (by omega) (Nat.lt_succ_self _)
    refine Tr.pick [3, 4, 2, 1, 0] (ls2 := [(0, (2, 120)), (1, (0, a1)), (2, (1, 0)), (4, (0, 0)), (5, (0, 0))]) rfl ?_
    exact J33 _ _ _ _ _ _ hS (by omega) (by omega) (by omega) (by omega) ((St.kp h13 (by decide) (by decide) (by decide)).trans ((St.kp h7 (by decide) (by decide) (by decide)).trans ((St.kp h2 (by decide) (by decide) (by decide)).trans eg120_59))) (by omega) (Nat.lt_succ_self _)
  · refine Tr.iconst (pc := 23) d_X12_over_23 (by decide) ?_
    have kr_120_59 : rd M13 120 59 = g120_59 := ((St.kp h13 (by decide) (by decide) (by decide)).trans ((St.kp h7 (by decide) (by decide) (by decide)).trans ((St.kp h2 (by decide) (by decide) (by decide)).trans eg120_59)))
    exact Tr.iret (pc := 24) d_X12_over_24 rfl ⟨hS, _, rfl, by omega, by omega, by omega⟩
