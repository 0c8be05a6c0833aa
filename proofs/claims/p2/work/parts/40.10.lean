set_option maxRecDepth 100000 in
set_option maxHeartbeats 4000000 in
theorem ns_X12_declares_120_w1 {l : Launch} {K : EC} {M0 : Mem} {G120_3 G120_4 G120_5 G120_7 G120_8 G9010_0 : Int} (hI : In Pm0 M0) (k120_3 : rd M0 120 3 = G120_3) (k120_4 : rd M0 120 4 = G120_4) (k120_5 : rd M0 120 5 = G120_5) (k120_7 : rd M0 120 7 = G120_7) (k120_8 : rd M0 120 8 = G120_8) (k9010_0 : tav M0 = G9010_0) (en_120_37 : rd M0 120 37 = 0)   (hq0 : G120_3 = 0 ∨ G120_4 + 1 ≤ G120_5) (hq1 : G120_4 ≤ G120_5) (hq2 : G120_3 ≠ 1 ∨ G120_4 + 2 ≤ G120_5 ∨ G120_7 < 256) (hq3 : G120_3 ≠ 0) (hq4 : G120_8 = 0) : Tr l K 4 mX12_declares 0 [(0, (2, 120))] [] M0 (fun M' r => St Pm0 ws_X12_declares_120_w1 as_X12_declares_120_w1 M0 M' ∧ ∃ S120_3 S120_4 S120_5 S120_7 S120_8 S9010_0 : Int, rd M' 120 3 = S120_3 ∧ (0 ≤ S120_3 ∧ S120_3 ≤ 3) ∧ rd M' 120 4 = S120_4 ∧ (0 ≤ S120_4 ∧ S120_4 ≤ 900) ∧ rd M' 120 5 = S120_5 ∧ (0 ≤ S120_5 ∧ S120_5 ≤ 900) ∧ rd M' 120 7 = S120_7 ∧ ((-9223372036854775808) ≤ S120_7 ∧ S120_7 ≤ 9223372036854775807) ∧ rd M' 120 8 = S120_8 ∧ (0 ≤ S120_8 ∧ S120_8 ≤ 5) ∧ tav M' = S9010_0 ∧ ((-1) ≤ S9010_0 ∧ S9010_0 ≤ 1800) ∧ ∃ v : Int, r = some (0, v) ∧ 0 ≤ v ∧ v ≤ 1 ∧ Hd (S120_3 = 0 ∨ S120_4 + 1 ≤ S120_5) ∧ (S120_4 ≤ S120_5) ∧ Hd (S120_3 ≠ 1 ∨ S120_4 + 2 ≤ S120_5 ∨ S120_7 < 256) ∧ (G120_4 ≤ S120_4 ∧ G120_5 ≤ S120_5 ∧ G9010_0 ≤ S9010_0) ∧ Hd (G120_8 = 0 ∨ S120_8 = G120_8) ∧ Hd (v = 0 ∨ 1 ≤ S120_8 ∨ G9010_0 < S9010_0)) := by
  subst k120_3
  subst k120_4
  subst k120_5
  subst k120_7
  subst k120_8
  subst k9010_0
  refine Tr.imp (sp_X12_declares_120_w1 hI en_120_37 hq0 hq1 hq2 hq3 hq4) ?_
  rintro M' _ ⟨hS, v, rfl, lr, ur, z0, z1, z2, z3, z4, z5⟩
  exact ⟨hS, _, _, _, _, _, _, rfl, ir_120_3 hS.1.2.1, rfl, ir_120_4 hS.1.2.1, rfl, ir_120_5 hS.1.2.1, rfl, ir_120_7 hS.1.2.1, rfl, ir_120_8 hS.1.2.1, rfl, (tav_b hS.1.2.1), v, rfl, lr, ur, hd_i z0, z1, hd_i z2, z3, hd_i z4, hd_i z5⟩

def ws_X12_spot_120_w1 : List (Int × Int) := [(136, 0)]
def as_X12_spot_120_w1 : List Int := [137, 138, 139, 140, 141, 142]
def q_X12_spot_120_w1 (a1 : Int) (a2 : Int) (M0 M' : Mem) (r : Option PV) : Prop := St Pm0 ws_X12_spot_120_w1 as_X12_spot_120_w1 M0 M' ∧ ∃ v : Int, r = some (0, v) ∧ 0 ≤ v ∧ v ≤ 199 ∧ (rd M' 136 0 = rd M0 136 0 + 1) ∧ (v = 0 + rd M0 136 0) ∧ (∀ j : Int, j < 0 + rd M0 136 0 → rd M' 137 j = rd M0 137 j) ∧ (rd M' 137 (0 + rd M0 136 0) = a1)
theorem kp_X12_spot_120_w1_120_37 {q : Mem → Prop} {M0 M : Mem} (h : St q ws_X12_spot_120_w1 as_X12_spot_120_w1 M0 M) : rd M 120 37 = rd M0 120 37 := St.kp h (by decide) (by decide) (by decide)
set_option maxRecDepth 100000 in
set_option maxHeartbeats 4000000 in
theorem sp_X12_spot_120_w1 {l : Launch} {K : EC} {M0 : Mem} (hI : In Pm0 M0) (en_120_37 : rd M0 120 37 = 0) (a1 : Int) (ha1 : 0 ≤ a1 ∧ a1 ≤ 8) (a2 : Int) (ha2 : (-1) ≤ a2 ∧ a2 ≤ 59)  (hq0 : rd M0 136 0 ≤ 199) (hq1 : a1 ≠ 0 ∨ 1 ≤ rd M0 136 0) (hq2 : a1 = 0 ∨ 0 ≤ a2) : Tr l K 0 mX12_spot 0 [(0, (2, 120)), (1, (0, a1)), (2, (0, a2))] [] M0 (q_X12_spot_120_w1 a1 a2 M0) := by
  have hS : St Pm0 ws_X12_spot_120_w1 as_X12_spot_120_w1 M0 M0 := St.rf hI
  obtain ⟨g136_0, eg136_0⟩ : ∃ v, rd M0 136 0 = v := ⟨_, rfl⟩
  have bg136_0 : 0 ≤ g136_0 ∧ g136_0 ≤ 200 := by rw [← eg136_0]; exact ir_136_0 hI.2.1
  obtain ⟨g120_36, eg120_36⟩ : ∃ v, rd M0 120 36 = v := ⟨_, rfl⟩
  have bg120_36 : 0 ≤ g120_36 ∧ g120_36 ≤ 900 := by rw [← eg120_36]; exact ir_120_36 hI.2.1
  replace hq1 := hd_i hq1
  replace hq2 := hd_i hq2
  refine Tr.sipush (pc := 0) d_X12_spot_0 rfl (by decide) ?_
  refine Tr.aload_n (pc := 3) (i := 0) d_X12_spot_3 rfl rfl ?_
  refine Tr.getf (pc := 4) d_X12_spot_4 f_12_124 (by decide) (by decide) (ty_120 hS.1.1) ?_
  refine Tr.tp 0 ((kp_X12_spot_120_w1_120_37 hS).trans en_120_37) ?_
  refine Tr.imul (pc := 7) d_X12_spot_7 ?_
  refine Tr.tp 0 (by decide) ?_
  refine Tr.aload_n (pc := 8) (i := 0) d_X12_spot_8 rfl rfl ?_
  refine Tr.getf (pc := 9) d_X12_spot_9 f_12_94 (by decide) (by decide) (ty_120 hS.1.1) ?_
  refine Tr.tp 136 (fx_120_27 hS.1.1) ?_
  refine Tr.aload_n (pc := 12) (i := 0) d_X12_spot_12 rfl rfl ?_
  refine Tr.getf (pc := 13) d_X12_spot_13 f_12_124 (by decide) (by decide) (ty_120 hS.1.1) ?_
  refine Tr.tp 0 ((kp_X12_spot_120_w1_120_37 hS).trans en_120_37) ?_
  refine Tr.iald (pc := 16) d_X12_spot_16 (ty_136 hS.1.1) (by omega) (by omega) ?_
  refine Tr.tp g136_0 eg136_0 ?_
  refine Tr.iadd (pc := 17) d_X12_spot_17 ?_
  refine Tr.tp g136_0 ((w32_id (by and_intros <;> omega)).trans (by omega)) ?_
  refine Tr.istore_n (pc := 18) (i := 3) (ls2 := [(3, (0, g136_0)), (0, (2, 120)), (1, (0, a1)), (2, (0, a2))]) d_X12_spot_18 rfl (by decide) rfl ?_
  refine Tr.aload_n (pc := 19) (i := 0) d_X12_spot_19 rfl rfl ?_
  refine Tr.getf (pc := 20) d_X12_spot_20 f_12_97 (by decide) (by decide) (ty_120 hS.1.1) ?_
  refine Tr.tp 137 (fx_120_28 hS.1.1) ?_
  refine Tr.iload_n (pc := 23) (i := 3) d_X12_spot_23 rfl rfl ?_
  refine Tr.iload_n (pc := 24) (i := 1) d_X12_spot_24 rfl rfl ?_
  have kx_136_0 : rd M0 136 0 = g136_0 := eg136_0
  refine Tr.iastS (pc := 25) (P := St Pm0 ws_X12_spot_120_w1 as_X12_spot_120_w1 M0) d_X12_spot_25 (ty_137 hS.1.1) (by omega) (by omega) (sa_137 hS (by decide) (by and_intros <;> omega) (Pm0_free hS.1.2.2.2.2 hS.1.2.1 (by omega) (by omega) (by omega))) (fun M25 hS w25 => ?_)
  refine Tr.aload_n (pc := 26) (i := 0) d_X12_spot_26 rfl rfl ?_
  refine Tr.getf (pc := 27) d_X12_spot_27 f_12_100 (by decide) (by decide) (ty_120 hS.1.1) ?_
  refine Tr.tp 138 (fx_120_29 hS.1.1) ?_
  refine Tr.iload_n (pc := 30) (i := 3) d_X12_spot_30 rfl rfl ?_
  refine Tr.iload_n (pc := 31) (i := 2) d_X12_spot_31 rfl rfl ?_
  have kx_136_0 : rd M25 136 0 = g136_0 := ((Wr.b w25 rfl).trans eg136_0)
  refine Tr.iastS (pc := 32) (P := St Pm0 ws_X12_spot_120_w1 as_X12_spot_120_w1 M0) d_X12_spot_32 (ty_138 hS.1.1) (by omega) (by omega) (sa_138 hS (by decide) (by and_intros <;> omega) (Pm0_free hS.1.2.2.2.2 hS.1.2.1 (by omega) (by omega) (by omega))) (fun M32 hS w32 => ?_)
  refine Tr.aload_n (pc := 33) (i := 0) d_X12_spot_33 rfl rfl ?_
  refine Tr.getf (pc := 34) d_X12_spot_34 f_12_103 (by decide) (by decide) (ty_120 hS.1.1) ?_
  refine Tr.tp 139 (fx_120_30 hS.1.1) ?_
  refine Tr.iload_n (pc := 37) (i := 3) d_X12_spot_37 rfl rfl ?_
  refine Tr.iconst (pc := 38) d_X12_spot_38 (by decide) ?_
  have kx_136_0 : rd M32 136 0 = g136_0 := ((Wr.b w32 rfl).trans ((Wr.b w25 rfl).trans eg136_0))
  refine Tr.iastS (pc := 39) (P := St Pm0 ws_X12_spot_120_w1 as_X12_spot_120_w1 M0) d_X12_spot_39 (ty_139 hS.1.1) (by omega) (by omega) (sa_139 hS (by decide) (by omega) (Pm0_free hS.1.2.2.2.2 hS.1.2.1 (by omega) (by omega) (by omega))) (fun M39 hS w39 => ?_)
  refine Tr.aload_n (pc := 40) (i := 0) d_X12_spot_40 rfl rfl ?_
  refine Tr.getf (pc := 41) d_X12_spot_41 f_12_106 (by decide) (by decide) (ty_120 hS.1.1) ?_
  refine Tr.tp 140 (fx_120_31 hS.1.1) ?_
  refine Tr.iload_n (pc := 44) (i := 3) d_X12_spot_44 rfl rfl ?_
  refine Tr.aload_n (pc := 45) (i := 0) d_X12_spot_45 rfl rfl ?_
  refine Tr.getf (pc := 46) d_X12_spot_46 f_12_121 (by decide) (by decide) (ty_120 hS.1.1) ?_
  refine Tr.tp g120_36 ((Wr.b w39 rfl).trans ((Wr.b w32 rfl).trans ((Wr.b w25 rfl).trans eg120_36))) ?_
  have kx_136_0 : rd M39 136 0 = g136_0 := ((Wr.b w39 rfl).trans ((Wr.b w32 rfl).trans ((Wr.b w25 rfl).trans eg136_0)))
  refine Tr.iastS (pc := 49) (P := St Pm0 ws_X12_spot_120_w1 as_X12_spot_120_w1 M0) d_X12_spot_49 (ty_140 hS.1.1) (by omega) (by omega) (sa_140 hS (by decide) (by and_intros <;> omega) (Pm0_free hS.1.2.2.2.2 hS.1.2.1 (by omega) (by omega) (by omega))) (fun M49 hS w49 => ?_)
  refine Tr.aload_n (pc := 50) (i := 0) d_X12_spot_50 rfl rfl ?_
  refine Tr.getf (pc := 51) d_X12_spot_51 f_12_109 (by decide) (by decide) (ty_120 hS.1.1) ?_
  refine Tr.tp 141 (fx_120_32 hS.1.1) ?_
  refine Tr.iload_n (pc := 54) (i := 3) d_X12_spot_54 rfl rfl ?_
  refine Tr.aload_n (pc := 55) (i := 0) d_X12_spot_55 rfl rfl ?_
  refine Tr.getf (pc := 56) d_X12_spot_56 f_12_121 (by decide) (by decide) (ty_120 hS.1.1) ?_
  refine Tr.tp g120_36 ((Wr.b w49 rfl).trans ((Wr.b w39 rfl).trans ((Wr.b w32 rfl).trans ((Wr.b w25 rfl).trans eg120_36)))) ?_
  have kx_136_0 : rd M49 136 0 = g136_0 := ((Wr.b w49 rfl).trans ((Wr.b w39 rfl).trans ((Wr.b w32 rfl).trans ((Wr.b w25 rfl).trans eg136_0))))
  refine Tr.iastS (pc := 59) (P := St Pm0 ws_X12_spot_120_w1 as_X12_spot_120_w1 M0) d_X12_spot_59 (ty_141 hS.1.1) (by omega) (by omega) (sa_141 hS (by decide) (by and_intros <;> omega) (Pm0_free hS.1.2.2.2.2 hS.1.2.1 (by omega) (by omega) (by omega))) (fun M59 hS w59 => ?_)
  refine Tr.aload_n (pc := 60) (i := 0) d_X12_spot_60 rfl rfl ?_
  refine Tr.getf (pc := 61) d_X12_spot_61 f_12_112 (by decide) (by decide) (ty_120 hS.1.1) ?_
  refine Tr.tp 142 (fx_120_33 hS.1.1) ?_
  refine Tr.iload_n (pc := 64) (i := 3) d_X12_spot_64 rfl rfl ?_
  refine Tr.iconst (pc := 65) d_X12_spot_65 (by decide) ?_
  have kx_136_0 : rd M59 136 0 = g136_0 := ((Wr.b w59 rfl).trans ((Wr.b w49 rfl).trans ((Wr.b w39 rfl).trans ((Wr.b w32 rfl).trans ((Wr.b w25 rfl).trans eg136_0)))))
  refine Tr.iastS (pc := 66) (P := St Pm0 ws_X12_spot_120_w1 as_X12_spot_120_w1 M0) d_X12_spot_66 (ty_142 hS.1.1) (by omega) (by omega) (sa_142 hS (by decide) (by omega) (Pm0_free hS.1.2.2.2.2 hS.1.2.1 (by omega) (by omega) (by omega))) (fun M66 hS w66 => ?_)
  refine Tr.aload_n (pc := 67) (i := 0) d_X12_spot_67 rfl rfl ?_
  refine Tr.getf (pc := 68) d_X12_spot_68 f_12_94 (by decide) (by decide) (ty_120 hS.1.1) ?_
  refine Tr.tp 136 (fx_120_27 hS.1.1) ?_
  refine Tr.aload_n (pc := 71) (i := 0) d_X12_spot_71 rfl rfl ?_
  refine Tr.getf (pc := 72) d_X12_spot_72 f_12_124 (by decide) (by decide) (ty_120 hS.1.1) ?_
  refine Tr.tp 0 ((kp_X12_spot_120_w1_120_37 hS).trans en_120_37) ?_
  refine Tr.dup2 (pc := 75) d_X12_spot_75 ne01 ne21 ?_
  refine Tr.iald (pc := 76) d_X12_spot_76 (ty_136 hS.1.1) (by omega) (by omega) ?_
  refine Tr.tp g136_0 ((Wr.b w66 rfl).trans ((Wr.b w59 rfl).trans ((Wr.b w49 rfl).trans ((Wr.b w39 rfl).trans ((Wr.b w32 rfl).trans ((Wr.b w25 rfl).trans eg136_0)))))) ?_
  refine Tr.iconst (pc := 77) d_X12_spot_77 (by decide) ?_
  refine Tr.iadd (pc := 78) d_X12_spot_78 ?_
  refine Tr.tp (g136_0 + 1) ((w32_id (by and_intros <;> omega)).trans (by omega)) ?_
  have kx_136_0 : rd M66 136 0 = g136_0 := ((Wr.b w66 rfl).trans ((Wr.b w59 rfl).trans ((Wr.b w49 rfl).trans ((Wr.b w39 rfl).trans ((Wr.b w32 rfl).trans ((Wr.b w25 rfl).trans eg136_0))))))
  refine Tr.iastS (pc := 79) (P := St Pm0 ws_X12_spot_120_w1 as_X12_spot_120_w1 M0) d_X12_spot_79 (ty_136 hS.1.1) (by omega) (by omega) (st_136_0 hS (by decide) (by and_intros <;> omega) (Pm0_spot hS.1.2.2.2.2 hS.1.2.1 (by have e9 := ((Wr.b w66 rfl).trans ((Wr.b w59 rfl).trans ((Wr.b w49 rfl).trans ((Wr.b w39 rfl).trans ((Wr.b w32 rfl).trans ((Wr.b w25 rfl).trans eg136_0)))))); omega) ((show rd M66 137 (0 + rd M66 136 0) = rd M66 137 g136_0 from congrArg _ (by have e9 := ((Wr.b w66 rfl).trans ((Wr.b w59 rfl).trans ((Wr.b w49 rfl).trans ((Wr.b w39 rfl).trans ((Wr.b w32 rfl).trans ((Wr.b w25 rfl).trans eg136_0)))))); omega)).trans (((Wr.b w66 rfl).trans ((Wr.b w59 rfl).trans ((Wr.b w49 rfl).trans ((Wr.b w39 rfl).trans ((Wr.b w32 rfl).trans w25.1))))))) ((show rd M66 138 (0 + rd M66 136 0) = rd M66 138 g136_0 from congrArg _ (by have e9 := ((Wr.b w66 rfl).trans ((Wr.b w59 rfl).trans ((Wr.b w49 rfl).trans ((Wr.b w39 rfl).trans ((Wr.b w32 rfl).trans ((Wr.b w25 rfl).trans eg136_0)))))); omega)).trans (((Wr.b w66 rfl).trans ((Wr.b w59 rfl).trans ((Wr.b w49 rfl).trans ((Wr.b w39 rfl).trans w32.1)))))) ((show rd M66 139 (0 + rd M66 136 0) = rd M66 139 g136_0 from congrArg _ (by have e9 := ((Wr.b w66 rfl).trans ((Wr.b w59 rfl).trans ((Wr.b w49 rfl).trans ((Wr.b w39 rfl).trans ((Wr.b w32 rfl).trans ((Wr.b w25 rfl).trans eg136_0)))))); omega)).trans (((Wr.b w66 rfl).trans ((Wr.b w59 rfl).trans ((Wr.b w49 rfl).trans w39.1))))) ((show rd M66 140 (0 + rd M66 136 0) = rd M66 140 g136_0 from congrArg _ (by have e9 := ((Wr.b w66 rfl).trans ((Wr.b w59 rfl).trans ((Wr.b w49 rfl).trans ((Wr.b w39 rfl).trans ((Wr.b w32 rfl).trans ((Wr.b w25 rfl).trans eg136_0)))))); omega)).trans (((Wr.b w66 rfl).trans ((Wr.b w59 rfl).trans w49.1)))) ((show rd M66 141 (0 + rd M66 136 0) = rd M66 141 g136_0 from congrArg _ (by have e9 := ((Wr.b w66 rfl).trans ((Wr.b w59 rfl).trans ((Wr.b w49 rfl).trans ((Wr.b w39 rfl).trans ((Wr.b w32 rfl).trans ((Wr.b w25 rfl).trans eg136_0)))))); omega)).trans (((Wr.b w66 rfl).trans w59.1))) ((show rd M66 142 (0 + rd M66 136 0) = rd M66 142 g136_0 from congrArg _ (by have e9 := ((Wr.b w66 rfl).trans ((Wr.b w59 rfl).trans ((Wr.b w49 rfl).trans ((Wr.b w39 rfl).trans ((Wr.b w32 rfl).trans ((Wr.b w25 rfl).trans eg136_0)))))); omega)).trans (w66.1)) (((Wr.b w66 rfl).trans ((Wr.b w59 rfl).trans ((Wr.b w49 rfl).trans ((Wr.b w39 rfl).trans ((Wr.b w32 rfl).trans ((Wr.b w25 rfl).trans eg120_36))))))) (fun c => by have e9 := ((Wr.b w66 rfl).trans ((Wr.b w59 rfl).trans ((Wr.b w49 rfl).trans ((Wr.b w39 rfl).trans ((Wr.b w32 rfl).trans ((Wr.b w25 rfl).trans eg136_0)))))); have h5 := hd_o hq1; omega) (fun c => by have h5 := hd_o hq2; omega))) (fun M79 hS w79 => ?_)
  refine Tr.iload_n (pc := 80) (i := 3) d_X12_spot_80 rfl rfl ?_
  have kr_136_0 : rd M79 136 0 = (g136_0 + 1) := w79.1
  exact Tr.iret (pc := 81) d_X12_spot_81 rfl ⟨hS, _, rfl, (by omega), (by omega), (by omega), (by omega), (fun j hj => ((Wr.b w79 rfl).trans ((Wr.b w66 rfl).trans ((Wr.b w59 rfl).trans ((Wr.b w49 rfl).trans ((Wr.b w39 rfl).trans ((Wr.b w32 rfl).trans (w25.2 _ _ (fun c => by have := c.2; omega))))))))), ((show _ = _ from congrArg _ (by omega)).trans (((Wr.b w79 rfl).trans ((Wr.b w66 rfl).trans ((Wr.b w59 rfl).trans ((Wr.b w49 rfl).trans ((Wr.b w39 rfl).trans ((Wr.b w32 rfl).trans w25.1))))))))⟩

set_option maxRecDepth 100000 in
set_option maxHeartbeats 4000000 in
theorem ns_X12_spot_120_w1 {l : Launch} {K : EC} {M0 : Mem} {G136_0 : Int} (hI : In Pm0 M0) (k136_0 : rd M0 136 0 = G136_0) (en_120_37 : rd M0 120 37 = 0) (a1 : Int) (ha1 : 0 ≤ a1 ∧ a1 ≤ 8) (a2 : Int) (ha2 : (-1) ≤ a2 ∧ a2 ≤ 59)  (hq0 : G136_0 ≤ 199) (hq1 : a1 ≠ 0 ∨ 1 ≤ G136_0) (hq2 : a1 = 0 ∨ 0 ≤ a2) : Tr l K 0 mX12_spot 0 [(0, (2, 120)), (1, (0, a1)), (2, (0, a2))] [] M0 (fun M' r => St Pm0 ws_X12_spot_120_w1 as_X12_spot_120_w1 M0 M' ∧ ∃ S136_0 : Int, rd M' 136 0 = S136_0 ∧ (0 ≤ S136_0 ∧ S136_0 ≤ 200) ∧ ∃ v : Int, r = some (0, v) ∧ 0 ≤ v ∧ v ≤ 199 ∧ (S136_0 = G136_0 + 1) ∧ (v = 0 + G136_0) ∧ (∀ j : Int, j < 0 + rd M0 136 0 → rd M' 137 j = rd M0 137 j) ∧ (rd M' 137 (0 + rd M0 136 0) = a1)) := by
  subst k136_0
  refine Tr.imp (sp_X12_spot_120_w1 hI en_120_37 a1 ha1 a2 ha2 hq0 hq1 hq2) ?_
  rintro M' _ ⟨hS, v, rfl, lr, ur, z0, z1, z2, z3⟩
  exact ⟨hS, _, rfl, ir_136_0 hS.1.2.1, v, rfl, lr, ur, z0, z1, z2, z3⟩

def ws_X12_asked_120_w1 : List (Int × Int) := [(120, 3), (120, 4), (120, 5), (120, 6), (120, 7), (120, 8), (120, 9)]
def as_X12_asked_120_w1 : List Int := []
def q_X12_asked_120_w1 (a1 : Int) (M0 M' : Mem) (r : Option PV) : Prop := St Pm0 ws_X12_asked_120_w1 as_X12_asked_120_w1 M0 M' ∧ ∃ v : Int, r = some (0, v) ∧ (-1) ≤ v ∧ v ≤ 5 ∧ (rd M' 120 3 = 0 ∨ rd M' 120 4 + 1 ≤ rd M' 120 5) ∧ (rd M' 120 4 ≤ rd M' 120 5) ∧ (rd M' 120 3 ≠ 1 ∨ rd M' 120 4 + 2 ≤ rd M' 120 5 ∨ rd M' 120 7 < 256) ∧ (rd M0 120 4 ≤ rd M' 120 4 ∧ rd M0 120 5 ≤ rd M' 120 5 ∧ tav M0 ≤ tav M') ∧ (rd M0 120 8 = 0 ∨ rd M' 120 8 = rd M0 120 8) ∧ (1 ≤ rd M' 120 8 ∨ tav M0 < tav M') ∧ (1 ≤ rd M' 120 8 ∨ (0 ≤ v ∧ v ≤ 5))
theorem kp_X12_asked_120_w1_120_37 {q : Mem → Prop} {M0 M : Mem} (h : St q ws_X12_asked_120_w1 as_X12_asked_120_w1 M0 M) : rd M 120 37 = rd M0 120 37 := St.kp h (by decide) (by decide) (by decide)
set_option maxRecDepth 100000 in
set_option maxHeartbeats 4000000 in
theorem sp_X12_asked_120_w1 {l : Launch} {K : EC} {M0 : Mem} (hI : In Pm0 M0) (en_120_37 : rd M0 120 37 = 0) (a1 : Int) (ha1 : 0 ≤ a1 ∧ a1 ≤ 1)  (hq0 : rd M0 120 3 = 0 ∨ rd M0 120 4 + 1 ≤ rd M0 120 5) (hq1 : rd M0 120 4 ≤ rd M0 120 5) (hq2 : rd M0 120 3 ≠ 1 ∨ rd M0 120 4 + 2 ≤ rd M0 120 5 ∨ rd M0 120 7 < 256) : Tr l K 2 mX12_asked 0 [(0, (2, 120)), (1, (0, a1))] [] M0 (q_X12_asked_120_w1 a1 M0) := by
  have hS : St Pm0 ws_X12_asked_120_w1 as_X12_asked_120_w1 M0 M0 := St.rf hI
  obtain ⟨g120_8, eg120_8⟩ : ∃ v, rd M0 120 8 = v := ⟨_, rfl⟩
  have bg120_8 : 0 ≤ g120_8 ∧ g120_8 ≤ 5 := by rw [← eg120_8]; exact ir_120_8 hI.2.1
  obtain ⟨g120_3, eg120_3⟩ : ∃ v, rd M0 120 3 = v := ⟨_, rfl⟩
  have bg120_3 : 0 ≤ g120_3 ∧ g120_3 ≤ 3 := by rw [← eg120_3]; exact ir_120_3 hI.2.1
  obtain ⟨g120_4, eg120_4⟩ : ∃ v, rd M0 120 4 = v := ⟨_, rfl⟩
  have bg120_4 : 0 ≤ g120_4 ∧ g120_4 ≤ 900 := by rw [← eg120_4]; exact ir_120_4 hI.2.1
  obtain ⟨g120_5, eg120_5⟩ : ∃ v, rd M0 120 5 = v := ⟨_, rfl⟩
  have bg120_5 : 0 ≤ g120_5 ∧ g120_5 ≤ 900 := by rw [← eg120_5]; exact ir_120_5 hI.2.1
  obtain ⟨g120_7, eg120_7⟩ : ∃ v, rd M0 120 7 = v := ⟨_, rfl⟩
  have bg120_7 : (-9223372036854775808) ≤ g120_7 ∧ g120_7 ≤ 9223372036854775807 := by rw [← eg120_7]; exact ir_120_7 hI.2.1
  obtain ⟨g9010_0, eg9010_0⟩ : ∃ v, tav M0 = v := ⟨_, rfl⟩
  have bg9010_0 : (-1) ≤ g9010_0 ∧ g9010_0 ≤ 1800 := by rw [← eg9010_0]; exact (tav_b hI.2.1)
  replace hq0 := hd_i hq0
  replace hq2 := hd_i hq2
  refine Tr.aload_n (pc := 0) (i := 0) d_X12_asked_0 rfl rfl ?_
  refine Tr.getf (pc := 1) d_X12_asked_1 f_12_36 (by decide) (by decide) (ty_120 hS.1.1) ?_
  refine Tr.tp g120_8 eg120_8 ?_
  refine Tr.if_le (pc := 4) (tgt := 9) d_X12_asked_4 rfl (fun c4 => ?_) (fun c4 => ?_)
  · refine Tr.aload_n (pc := 9) (i := 0) d_X12_asked_9 rfl rfl ?_
    refine Tr.getf (pc := 10) d_X12_asked_10 f_12_20 (by decide) (by decide) (ty_120 hS.1.1) ?_
    refine Tr.tp g120_3 eg120_3 ?_
    refine Tr.iconst (pc := 13) d_X12_asked_13 (by decide) ?_
    have J37 : ∀ (M : Mem) (u37_120_8 : Int), St Pm0 ws_X12_asked_120_w1 as_X12_asked_120_w1 M0 M → (0 ≤ u37_120_8 ∧ u37_120_8 ≤ 5) → rd M 120 3 = g120_3 → rd M 120 4 = g120_4 → rd M 120 5 = g120_5 → rd M 120 7 = g120_7 → rd M 120 8 = u37_120_8 → tav M = g9010_0 → (u37_120_8 ≠ 0 ∨ g120_3 ≠ 0) → (g120_8 = 0) → Tr l K 2 mX12_asked 37 [(0, (2, 120)), (1, (0, a1))] [] M (q_X12_asked_120_w1 a1 M0) := by
      intro M u37_120_8 hS bu37_120_8 k37_120_3 k37_120_4 k37_120_5 k37_120_7 k37_120_8 k37_9010_0 t37_0 t37_1
      replace t37_0 := hd_i t37_0
      refine Tr.aload_n (pc := 37) (i := 0) d_X12_asked_37 rfl rfl ?_
      refine Tr.getf (pc := 38) d_X12_asked_38 f_12_36 (by decide) (by decide) (ty_120 hS.1.1) ?_
      refine Tr.tp u37_120_8 k37_120_8 ?_
      have J71 : ∀ (M : Mem) (q71_0 : Int), St Pm0 ws_X12_asked_120_w1 as_X12_asked_120_w1 M0 M → ((-1) ≤ q71_0 ∧ q71_0 ≤ 5) → rd M 120 3 = g120_3 → rd M 120 4 = g120_4 → rd M 120 5 = g120_5 → rd M 120 7 = g120_7 → rd M 120 8 = u37_120_8 → tav M = g9010_0 → (u37_120_8 ≠ 0 ∨ g120_3 ≠ 0) → (g120_8 = 0) → (u37_120_8 ≠ 0 ∨ (-1 ≤ q71_0 ∧ q71_0 ≤ 5)) → Tr l K 2 mX12_asked 71 [(0, (2, 120))] [(0, q71_0)] M (q_X12_asked_120_w1 a1 M0) := by
        intro M q71_0 hS bq71_0 k71_120_3 k71_120_4 k71_120_5 k71_120_7 k71_120_8 k71_9010_0 t71_0 t71_1 t71_2
        clear k37_120_3 k37_120_4 k37_120_5 k37_120_7 k37_120_8 k37_9010_0
        replace t71_0 := hd_i t71_0
        replace t71_2 := hd_i t71_2
        refine Tr.istore_n (pc := 71) (i := 2) (ls2 := [(2, (0, q71_0)), (0, (2, 120))]) d_X12_asked_71 rfl (by decide) rfl ?_
        refine Tr.aload_n (pc := 72) (i := 0) d_X12_asked_72 rfl rfl ?_
        refine Tr.getf (pc := 73) d_X12_asked_73 f_12_36 (by decide) (by decide) (ty_120 hS.1.1) ?_
        refine Tr.tp u37_120_8 k71_120_8 ?_
        have J93 : ∀ (M : Mem) (u93_120_8 : Int), St Pm0 ws_X12_asked_120_w1 as_X12_asked_120_w1 M0 M → (0 ≤ u93_120_8 ∧ u93_120_8 ≤ 5) → rd M 120 3 = g120_3 → rd M 120 4 = g120_4 → rd M 120 5 = g120_5 → rd M 120 7 = g120_7 → rd M 120 8 = u93_120_8 → tav M = g9010_0 → (u93_120_8 ≠ 0 ∨ g120_3 ≠ 0) → (g120_8 = 0) → (u93_120_8 ≠ 0 ∨ (0 ≤ q71_0 ∧ q71_0 ≤ 5)) → Tr l K 2 mX12_asked 93 [(0, (2, 120)), (2, (0, q71_0))] [] M (q_X12_asked_120_w1 a1 M0) := by
          intro M u93_120_8 hS bu93_120_8 k93_120_3 k93_120_4 k93_120_5 k93_120_7 k93_120_8 k93_9010_0 t93_0 t93_1 t93_2
          clear k71_120_3 k71_120_4 k71_120_5 k71_120_7 k71_120_8 k71_9010_0
          replace t93_0 := hd_i t93_0
          replace t93_2 := hd_i t93_2
          refine Tr.aload_n (pc := 93) (i := 0) d_X12_asked_93 rfl rfl ?_
          refine Tr.getf (pc := 94) d_X12_asked_94 f_12_36 (by decide) (by decide) (ty_120 hS.1.1) ?_
          refine Tr.tp u93_120_8 k93_120_8 ?_
          refine Tr.if_ne (pc := 97) (tgt := 104) d_X12_asked_97 rfl (fun c97 => ?_) (fun c97 => ?_)
          · have c97b : 1 ≤ u93_120_8 ∧ u93_120_8 ≤ 5 := by omega
            replace c97 := hd_i c97
            refine Tr.iload_n (pc := 104) (i := 2) d_X12_asked_104 rfl rfl ?_
            have kr_120_3 : rd M 120 3 = g120_3 := k93_120_3
            have kr_120_4 : rd M 120 4 = g120_4 := k93_120_4
            have kr_120_5 : rd M 120 5 = g120_5 := k93_120_5
            have kr_120_7 : rd M 120 7 = g120_7 := k93_120_7
            have kr_120_8 : rd M 120 8 = u93_120_8 := k93_120_8
            have kr_9010_0 : tav M = g9010_0 := k93_9010_0
            exact Tr.iret (pc := 105) d_X12_asked_105 rfl ⟨hS, _, rfl, (by omega), (by omega), (by first | exact (hd_o hq0) | exact (hd_o hq0).elim (fun h1 => by omega) (fun h1 => by omega)), (by omega), (by first | exact (hd_o hq2) | exact (hd_o hq2).elim (fun h1 => by omega) (fun h1 => h1.elim (fun h1 => by omega) (fun h1 => by omega))), (by and_intros <;> omega), (by omega), (by omega), (by omega)⟩
          · refine Tr.aload_n (pc := 100) (i := 0) d_X12_asked_100 rfl rfl ?_
            refine Tr.callV (pc := 101) (as := []) d_X12_asked_101 s_12_396 ok_X12_next rfl rfl (Nat.le_of_ble_eq_true rfl) (Nat.le_of_ble_eq_true rfl) (by decide) (ty_120 hS.1.1) ?_
            refine Tr.imp (Tr.deep (by decide) (ns_X12_next_120_w1 (G120_3 := g120_3) (G120_5 := g120_5) (G120_8 := u93_120_8) (G9010_0 := g9010_0) hS.1 (k93_120_3) (k93_120_5) (k93_120_8) (k93_9010_0))) ?_
            rintro M101 _ ⟨h101, s101_120_3, s101_120_4, s101_120_5, s101_120_7, s101_120_8, s101_9010_0, es101_120_3, bs101_120_3, es101_120_4, bs101_120_4, es101_120_5, bs101_120_5, es101_120_7, bs101_120_7, es101_120_8, bs101_120_8, es101_9010_0, bs101_9010_0, rfl, z101_0, z101_1, z101_2, z101_3, z101_4, z101_5, z101_6⟩
            have hS := St.tr hS h101 (by decide) (by decide)
            refine Tr.sc [] rfl ?_
            refine Tr.iload_n (pc := 104) (i := 2) d_X12_asked_104 rfl rfl ?_
            have kr_120_3 : rd M101 120 3 = s101_120_3 := es101_120_3
            have kr_120_4 : rd M101 120 4 = s101_120_4 := es101_120_4
            have kr_120_5 : rd M101 120 5 = s101_120_5 := es101_120_5
            have kr_120_7 : rd M101 120 7 = s101_120_7 := es101_120_7
            have kr_120_8 : rd M101 120 8 = s101_120_8 := es101_120_8
            have kr_9010_0 : tav M101 = s101_9010_0 := es101_9010_0
            exact Tr.iret (pc := 105) d_X12_asked_105 rfl ⟨hS, _, rfl, (by omega), (by omega), (by first | exact (hd_o z101_0) | exact (hd_o z101_0).elim (fun h1 => by omega) (fun h1 => by omega)), (by omega), (by first | exact (hd_o z101_2) | exact (hd_o z101_2).elim (fun h1 => by omega) (fun h1 => h1.elim (fun h1 => by omega) (fun h1 => by omega))), (by and_intros <;> omega), (by omega), (by exact (hd_o t93_0).elim (fun h1 => (ne_o h1).elim (fun h2 => by omega) (fun h2 => by omega)) (fun h1 => (ne_o h1).elim (fun h2 => by omega) (fun h2 => (hd_o z101_5).elim (fun h3 => by omega) (fun h3 => by omega)))), (by exact (hd_o t93_2).elim (fun h1 => (ne_o h1).elim (fun h2 => by omega) (fun h2 => by omega)) (fun h1 => by omega))⟩
        refine Tr.if_ne (pc := 76) (tgt := 93) d_X12_asked_76 rfl (fun c76 => ?_) (fun c76 => ?_)
        · have c76b : 1 ≤ u37_120_8 ∧ u37_120_8 ≤ 5 := by omega
          replace c76 := hd_i c76
          refine Tr.pick [1, 0] (ls2 := [(0, (2, 120)), (2, (0, q71_0))]) rfl ?_
          exact J93 _ _ hS (by and_intros <;> omega) k71_120_3 k71_120_4 k71_120_5 k71_120_7 k71_120_8 k71_9010_0 (by first | exact (hd_o t71_0) | exact (hd_o t71_0).elim (fun h1 => by omega) (fun h1 => by omega)) (by omega) (by omega)
        · refine Tr.iload_n (pc := 79) (i := 2) d_X12_asked_79 rfl rfl ?_
          refine Tr.iconst (pc := 80) d_X12_asked_80 (by decide) ?_
          refine Tr.icmp_ne (pc := 81) (tgt := 93) d_X12_asked_81 rfl (fun c81 => ?_) (fun c81 => ?_)
          · have c81b : 0 ≤ q71_0 ∧ q71_0 ≤ 5 := by omega
            replace c81 := hd_i c81
            refine Tr.pick [1, 0] (ls2 := [(0, (2, 120)), (2, (0, q71_0))]) rfl ?_
            exact J93 _ _ hS (by and_intros <;> omega) k71_120_3 k71_120_4 k71_120_5 k71_120_7 k71_120_8 k71_9010_0 (by first | exact (hd_o t71_0) | exact (hd_o t71_0).elim (fun h1 => by omega) (fun h1 => by omega)) (by omega) (by omega)
          · refine Tr.aload_n (pc := 84) (i := 0) d_X12_asked_84 rfl rfl ?_
            refine Tr.iconst (pc := 85) d_X12_asked_85 (by decide) ?_
            refine Tr.aload_n (pc := 86) (i := 0) d_X12_asked_86 rfl rfl ?_
            refine Tr.getf (pc := 87) d_X12_asked_87 f_12_23 (by decide) (by decide) (ty_120 hS.1.1) ?_
            refine Tr.tp g120_4 k71_120_4 ?_
            refine Tr.callV (pc := 90) (as := [_, _]) d_X12_asked_90 s_12_389 ok_X12_blame rfl rfl (Nat.le_of_ble_eq_true rfl) (Nat.le_of_ble_eq_true rfl) (by decide) (ty_120 hS.1.1) ?_
            refine Tr.imp (Tr.deep (by decide) (ns_X12_blame_120_w1 (G120_8 := u37_120_8) hS.1 (k71_120_8) 3 (by omega) g120_4 (by and_intros <;> omega))) ?_
            rintro M90 _ ⟨h90, s90_120_8, es90_120_8, bs90_120_8, rfl, z90_0⟩
            have hS := St.tr hS h90 (by decide) (by decide)
            refine Tr.sc [] rfl ?_
            refine Tr.pick [1, 0] (ls2 := [(0, (2, 120)), (2, (0, q71_0))]) rfl ?_
            exact J93 _ _ hS (by and_intros <;> omega) ((kp_X12_blame_120_w1_120_3 h90).trans k71_120_3) ((kp_X12_blame_120_w1_120_4 h90).trans k71_120_4) ((kp_X12_blame_120_w1_120_5 h90).trans k71_120_5) ((kp_X12_blame_120_w1_120_7 h90).trans k71_120_7) es90_120_8 ((tav_of ((kp_X12_blame_120_w1_120_5 h90).trans rfl) ((kp_X12_blame_120_w1_120_3 h90).trans rfl)).trans k71_9010_0) (by exact (hd_o z90_0).elim (fun h1 => by omega) (fun h1 => by omega)) (by omega) (by exact (hd_o z90_0).elim (fun h1 => by omega) (fun h1 => by omega))
      refine Tr.if_le (pc := 41) (tgt := 48) d_X12_asked_41 rfl (fun c41 => ?_) (fun c41 => ?_)
      · refine Tr.iload_n (pc := 48) (i := 1) d_X12_asked_48 rfl rfl ?_
        refine Tr.if_ne (pc := 49) (tgt := 63) d_X12_asked_49 rfl (fun c49 => ?_) (fun c49 => ?_)
        · have c49b : 1 ≤ a1 ∧ a1 ≤ 1 := by omega
          replace c49 := hd_i c49
          refine Tr.aload_n (pc := 63) (i := 0) d_X12_asked_63 rfl rfl ?_
          refine Tr.aload_n (pc := 64) (i := 0) d_X12_asked_64 rfl rfl ?_
          refine Tr.getf (pc := 65) d_X12_asked_65 f_12_32 (by decide) (by decide) (ty_120 hS.1.1) ?_
          refine Tr.tp g120_7 k37_120_7 ?_
          refine Tr.callV (pc := 68) (as := [_]) d_X12_asked_68 s_12_464 ok_X12_varOf rfl rfl (Nat.le_of_ble_eq_true rfl) (Nat.le_of_ble_eq_true rfl) (by decide) (ty_120 hS.1.1) ?_
          refine Tr.imp (Tr.deep (by decide) (sp_X12_varOf_120_w1 hS.1.wk ((kp_X12_asked_120_w1_120_37 hS).trans en_120_37) g120_7 (by omega))) ?_
          rintro M68 _ ⟨h68, r68, rfl, lr68, ur68⟩
          have h68 := St.rn h68 (Pm0.of hS.1.2.2.2.2 (fun _ => (ka_X12_varOf_120_w1_131 h68 _)) (fun _ => (ka_X12_varOf_120_w1_137 h68 _)) (fun _ => (ka_X12_varOf_120_w1_138 h68 _)) (fun _ => (ka_X12_varOf_120_w1_139 h68 _)) (fun _ => (ka_X12_varOf_120_w1_140 h68 _)) (fun _ => (ka_X12_varOf_120_w1_141 h68 _)) (fun _ => (ka_X12_varOf_120_w1_142 h68 _)) (fun _ => (ka_X12_varOf_120_w1_143 h68 _)) (fun _ => (ka_X12_varOf_120_w1_151 h68 _)) (fun _ => (ka_X12_varOf_120_w1_152 h68 _)) (kp_X12_varOf_120_w1_126_0 h68) (kp_X12_varOf_120_w1_126_1 h68) (kp_X12_varOf_120_w1_136_0 h68) (kp_X12_varOf_120_w1_136_1 h68) (kp_X12_varOf_120_w1_123_0 h68) (kp_X12_varOf_120_w1_123_1 h68) (kp_X12_varOf_120_w1_124_0 h68) (kp_X12_varOf_120_w1_124_1 h68) (kp_X12_varOf_120_w1_120_8 h68) (kp_X12_varOf_120_w1_120_36 h68) (kp_X12_varOf_120_w1_120_50 h68))
          have hS := St.tr hS h68 (by decide) (by decide)
          refine Tr.sc [(0, r68)] rfl ?_
          refine Tr.pick [0] (ls2 := [(0, (2, 120))]) rfl ?_
          exact J71 _ _ hS (by and_intros <;> omega) ((kp_X12_varOf_120_w1_120_3 h68).trans k37_120_3) ((kp_X12_varOf_120_w1_120_4 h68).trans k37_120_4) ((kp_X12_varOf_120_w1_120_5 h68).trans k37_120_5) ((kp_X12_varOf_120_w1_120_7 h68).trans k37_120_7) ((kp_X12_varOf_120_w1_120_8 h68).trans k37_120_8) ((tav_of ((kp_X12_varOf_120_w1_120_5 h68).trans rfl) ((kp_X12_varOf_120_w1_120_3 h68).trans rfl)).trans k37_9010_0) (by first | exact (hd_o t37_0) | exact (hd_o t37_0).elim (fun h1 => by omega) (fun h1 => by omega)) (by omega) (by omega)
        · refine Tr.aload_n (pc := 52) (i := 0) d_X12_asked_52 rfl rfl ?_
          refine Tr.aload_n (pc := 53) (i := 0) d_X12_asked_53 rfl rfl ?_
          refine Tr.getf (pc := 54) d_X12_asked_54 f_12_32 (by decide) (by decide) (ty_120 hS.1.1) ?_
          refine Tr.tp g120_7 k37_120_7 ?_
          refine Tr.callV (pc := 57) (as := [_]) d_X12_asked_57 s_12_457 ok_X12_partOf rfl rfl (Nat.le_of_ble_eq_true rfl) (Nat.le_of_ble_eq_true rfl) (by decide) (ty_120 hS.1.1) ?_
          refine Tr.imp (Tr.deep (by decide) (sp_X12_partOf_120_w1 hS.1.wk ((kp_X12_asked_120_w1_120_37 hS).trans en_120_37) g120_7 (by omega))) ?_
          rintro M57 _ ⟨h57, r57, rfl, lr57, ur57⟩
          have h57 := St.rn h57 (Pm0.of hS.1.2.2.2.2 (fun _ => (ka_X12_partOf_120_w1_131 h57 _)) (fun _ => (ka_X12_partOf_120_w1_137 h57 _)) (fun _ => (ka_X12_partOf_120_w1_138 h57 _)) (fun _ => (ka_X12_partOf_120_w1_139 h57 _)) (fun _ => (ka_X12_partOf_120_w1_140 h57 _)) (fun _ => (ka_X12_partOf_120_w1_141 h57 _)) (fun _ => (ka_X12_partOf_120_w1_142 h57 _)) (fun _ => (ka_X12_partOf_120_w1_143 h57 _)) (fun _ => (ka_X12_partOf_120_w1_151 h57 _)) (fun _ => (ka_X12_partOf_120_w1_152 h57 _)) (kp_X12_partOf_120_w1_126_0 h57) (kp_X12_partOf_120_w1_126_1 h57) (kp_X12_partOf_120_w1_136_0 h57) (kp_X12_partOf_120_w1_136_1 h57) (kp_X12_partOf_120_w1_123_0 h57) (kp_X12_partOf_120_w1_123_1 h57) (kp_X12_partOf_120_w1_124_0 h57) (kp_X12_partOf_120_w1_124_1 h57) (kp_X12_partOf_120_w1_120_8 h57) (kp_X12_partOf_120_w1_120_36 h57) (kp_X12_partOf_120_w1_120_50 h57))
          have hS := St.tr hS h57 (by decide) (by decide)
          refine Tr.sc [(0, r57)] rfl ?_
          refine Tr.goto (pc := 60) (tgt := 71) d_X12_asked_60 rfl ?_
          refine Tr.pick [0] (ls2 := [(0, (2, 120))]) rfl ?_
          exact J71 _ _ hS (by and_intros <;> omega) ((kp_X12_partOf_120_w1_120_3 h57).trans k37_120_3) ((kp_X12_partOf_120_w1_120_4 h57).trans k37_120_4) ((kp_X12_partOf_120_w1_120_5 h57).trans k37_120_5) ((kp_X12_partOf_120_w1_120_7 h57).trans k37_120_7) ((kp_X12_partOf_120_w1_120_8 h57).trans k37_120_8) ((tav_of ((kp_X12_partOf_120_w1_120_5 h57).trans rfl) ((kp_X12_partOf_120_w1_120_3 h57).trans rfl)).trans k37_9010_0) (by first | exact (hd_o t37_0) | exact (hd_o t37_0).elim (fun h1 => by omega) (fun h1 => by omega)) (by omega) (by omega)
      · refine Tr.iconst (pc := 44) d_X12_asked_44 (by decide) ?_
        refine Tr.goto (pc := 45) (tgt := 71) d_X12_asked_45 rfl ?_
        refine Tr.pick [0] (ls2 := [(0, (2, 120))]) rfl ?_
        exact J71 _ _ hS (by omega) k37_120_3 k37_120_4 k37_120_5 k37_120_7 k37_120_8 k37_9010_0 (by first | exact (hd_o t37_0) | exact (hd_o t37_0).elim (fun h1 => by omega) (fun h1 => by omega)) (by omega) (by omega)
    have J28 : ∀ (M : Mem), St Pm0 ws_X12_asked_120_w1 as_X12_asked_120_w1 M0 M → rd M 120 3 = g120_3 → rd M 120 4 = g120_4 → rd M 120 5 = g120_5 → rd M 120 7 = g120_7 → rd M 120 8 = g120_8 → tav M = g9010_0 → (g120_8 = 0) → (g120_8 = 0) → Tr l K 2 mX12_asked 28 [(0, (2, 120)), (1, (0, a1))] [] M (q_X12_asked_120_w1 a1 M0) := by
      intro M  hS  k28_120_3 k28_120_4 k28_120_5 k28_120_7 k28_120_8 k28_9010_0 t28_0 t28_1
      refine Tr.aload_n (pc := 28) (i := 0) d_X12_asked_28 rfl rfl ?_
      refine Tr.iconst (pc := 29) d_X12_asked_29 (by decide) ?_
      refine Tr.aload_n (pc := 30) (i := 0) d_X12_asked_30 rfl rfl ?_
      refine Tr.getf (pc := 31) d_X12_asked_31 f_12_23 (by decide) (by decide) (ty_120 hS.1.1) ?_
      refine Tr.tp g120_4 k28_120_4 ?_
      refine Tr.callV (pc := 34) (as := [_, _]) d_X12_asked_34 s_12_389 ok_X12_blame rfl rfl (Nat.le_of_ble_eq_true rfl) (Nat.le_of_ble_eq_true rfl) (by decide) (ty_120 hS.1.1) ?_
      refine Tr.imp (Tr.deep (by decide) (ns_X12_blame_120_w1 (G120_8 := g120_8) hS.1 (k28_120_8) 1 (by omega) g120_4 (by and_intros <;> omega))) ?_
      rintro M34 _ ⟨h34, s34_120_8, es34_120_8, bs34_120_8, rfl, z34_0⟩
      have hS := St.tr hS h34 (by decide) (by decide)
      refine Tr.sc [] rfl ?_
      refine Tr.pick [0, 1] (ls2 := [(0, (2, 120)), (1, (0, a1))]) rfl ?_
      exact J37 _ _ hS (by and_intros <;> omega) ((kp_X12_blame_120_w1_120_3 h34).trans k28_120_3) ((kp_X12_blame_120_w1_120_4 h34).trans k28_120_4) ((kp_X12_blame_120_w1_120_5 h34).trans k28_120_5) ((kp_X12_blame_120_w1_120_7 h34).trans k28_120_7) es34_120_8 ((tav_of ((kp_X12_blame_120_w1_120_5 h34).trans rfl) ((kp_X12_blame_120_w1_120_3 h34).trans rfl)).trans k28_9010_0) (by exact (hd_o z34_0).elim (fun h1 => by omega) (fun h1 => by omega)) (by omega)
    refine Tr.icmp_ne (pc := 14) (tgt := 28) d_X12_asked_14 rfl (fun c14 => ?_) (fun c14 => ?_)
    · replace c14 := hd_i c14
      refine Tr.pick [0, 1] (ls2 := [(0, (2, 120)), (1, (0, a1))]) rfl ?_
      exact J28 _ hS eg120_3 eg120_4 eg120_5 eg120_7 eg120_8 eg9010_0 (by omega) (by omega)
    · refine Tr.aload_n (pc := 17) (i := 0) d_X12_asked_17 rfl rfl ?_
      refine Tr.aload_n (pc := 18) (i := 0) d_X12_asked_18 rfl rfl ?_
      refine Tr.getf (pc := 19) d_X12_asked_19 f_12_32 (by decide) (by decide) (ty_120 hS.1.1) ?_
      refine Tr.tp g120_7 eg120_7 ?_
      refine Tr.callV (pc := 22) (as := [_]) d_X12_asked_22 s_12_453 ok_X12_isOwn rfl rfl (Nat.le_of_ble_eq_true rfl) (Nat.le_of_ble_eq_true rfl) (by decide) (ty_120 hS.1.1) ?_
      refine Tr.imp (Tr.deep (by decide) (sp_X12_isOwn_120 hS.1.wk g120_7 (by omega))) ?_
      rintro M22 _ ⟨h22, r22, rfl, lr22, ur22⟩
      have h22 := St.rn h22 (Pm0.of hS.1.2.2.2.2 (fun _ => (ka_X12_isOwn_120_131 h22 _)) (fun _ => (ka_X12_isOwn_120_137 h22 _)) (fun _ => (ka_X12_isOwn_120_138 h22 _)) (fun _ => (ka_X12_isOwn_120_139 h22 _)) (fun _ => (ka_X12_isOwn_120_140 h22 _)) (fun _ => (ka_X12_isOwn_120_141 h22 _)) (fun _ => (ka_X12_isOwn_120_142 h22 _)) (fun _ => (ka_X12_isOwn_120_143 h22 _)) (fun _ => (ka_X12_isOwn_120_151 h22 _)) (fun _ => (ka_X12_isOwn_120_152 h22 _)) (kp_X12_isOwn_120_126_0 h22) (kp_X12_isOwn_120_126_1 h22) (kp_X12_isOwn_120_136_0 h22) (kp_X12_isOwn_120_136_1 h22) (kp_X12_isOwn_120_123_0 h22) (kp_X12_isOwn_120_123_1 h22) (kp_X12_isOwn_120_124_0 h22) (kp_X12_isOwn_120_124_1 h22) (kp_X12_isOwn_120_120_8 h22) (kp_X12_isOwn_120_120_36 h22) (kp_X12_isOwn_120_120_50 h22))
      have hS := St.tr hS h22 (by decide) (by decide)
      refine Tr.sc [(0, r22)] rfl ?_
      refine Tr.if_eq (pc := 25) (tgt := 37) d_X12_asked_25 rfl (fun c25 => ?_) (fun c25 => ?_)
      · refine Tr.pick [0, 1] (ls2 := [(0, (2, 120)), (1, (0, a1))]) rfl ?_
        exact J37 _ _ hS (by and_intros <;> omega) ((kp_X12_isOwn_120_120_3 h22).trans eg120_3) ((kp_X12_isOwn_120_120_4 h22).trans eg120_4) ((kp_X12_isOwn_120_120_5 h22).trans eg120_5) ((kp_X12_isOwn_120_120_7 h22).trans eg120_7) ((kp_X12_isOwn_120_120_8 h22).trans eg120_8) ((tav_of ((kp_X12_isOwn_120_120_5 h22).trans rfl) ((kp_X12_isOwn_120_120_3 h22).trans rfl)).trans eg9010_0) (by omega) (by omega)
      · have c25b : 1 ≤ r22 ∧ r22 ≤ 1 := by omega
        replace c25 := hd_i c25
        refine Tr.pick [0, 1] (ls2 := [(0, (2, 120)), (1, (0, a1))]) rfl ?_
        exact J28 _ hS ((kp_X12_isOwn_120_120_3 h22).trans eg120_3) ((kp_X12_isOwn_120_120_4 h22).trans eg120_4) ((kp_X12_isOwn_120_120_5 h22).trans eg120_5) ((kp_X12_isOwn_120_120_7 h22).trans eg120_7) ((kp_X12_isOwn_120_120_8 h22).trans eg120_8) ((tav_of ((kp_X12_isOwn_120_120_5 h22).trans rfl) ((kp_X12_isOwn_120_120_3 h22).trans rfl)).trans eg9010_0) (by omega) (by omega)
  · refine Tr.iconst (pc := 7) d_X12_asked_7 (by decide) ?_
    have kr_120_3 : rd M0 120 3 = g120_3 := eg120_3
    have kr_120_4 : rd M0 120 4 = g120_4 := eg120_4
    have kr_120_5 : rd M0 120 5 = g120_5 := eg120_5
    have kr_120_7 : rd M0 120 7 = g120_7 := eg120_7
    have kr_120_8 : rd M0 120 8 = g120_8 := eg120_8
    have kr_9010_0 : tav M0 = g9010_0 := eg9010_0
    exact Tr.iret (pc := 8) d_X12_asked_8 rfl ⟨hS, _, rfl, by omega, by omega, (by first | exact (hd_o hq0) | exact (hd_o hq0).elim (fun h1 => by omega) (fun h1 => by omega)), (by omega), (by first | exact (hd_o hq2) | exact (hd_o hq2).elim (fun h1 => by omega) (fun h1 => h1.elim (fun h1 => by omega) (fun h1 => by omega))), (by and_intros <;> omega), (by omega), (by omega), (by omega)⟩

set_option maxRecDepth 100000 in
set_option maxHeartbeats 4000000 in
theorem ns_X12_asked_120_w1 {l : Launch} {K : EC} {M0 : Mem} {G120_3 G120_4 G120_5 G120_7 G120_8 G9010_0 : Int} (hI : In Pm0 M0) (k120_3 : rd M0 120 3 = G120_3) (k120_4 : rd M0 120 4 = G120_4) (k120_5 : rd M0 120 5 = G120_5) (k120_7 : rd M0 120 7 = G120_7) (k120_8 : rd M0 120 8 = G120_8) (k9010_0 : tav M0 = G9010_0) (en_120_37 : rd M0 120 37 = 0) (a1 : Int) (ha1 : 0 ≤ a1 ∧ a1 ≤ 1)  (hq0 : G120_3 = 0 ∨ G120_4 + 1 ≤ G120_5) (hq1 : G120_4 ≤ G120_5) (hq2 : G120_3 ≠ 1 ∨ G120_4 + 2 ≤ G120_5 ∨ G120_7 < 256) : Tr l K 2 mX12_asked 0 [(0, (2, 120)), (1, (0, a1))] [] M0 (fun M' r => St Pm0 ws_X12_asked_120_w1 as_X12_asked_120_w1 M0 M' ∧ ∃ S120_3 S120_4 S120_5 S120_7 S120_8 S9010_0 : Int, rd M' 120 3 = S120_3 ∧ (0 ≤ S120_3 ∧ S120_3 ≤ 3) ∧ rd M' 120 4 = S120_4 ∧ (0 ≤ S120_4 ∧ S120_4 ≤ 900) ∧ rd M' 120 5 = S120_5 ∧ (0 ≤ S120_5 ∧ S120_5 ≤ 900) ∧ rd M' 120 7 = S120_7 ∧ ((-9223372036854775808) ≤ S120_7 ∧ S120_7 ≤ 9223372036854775807) ∧ rd M' 120 8 = S120_8 ∧ (0 ≤ S120_8 ∧ S120_8 ≤ 5) ∧ tav M' = S9010_0 ∧ ((-1) ≤ S9010_0 ∧ S9010_0 ≤ 1800) ∧ ∃ v : Int, r = some (0, v) ∧ (-1) ≤ v ∧ v ≤ 5 ∧ Hd (S120_3 = 0 ∨ S120_4 + 1 ≤ S120_5) ∧ (S120_4 ≤ S120_5) ∧ Hd (S120_3 ≠ 1 ∨ S120_4 + 2 ≤ S120_5 ∨ S120_7 < 256) ∧ (G120_4 ≤ S120_4 ∧ G120_5 ≤ S120_5 ∧ G9010_0 ≤ S9010_0) ∧ Hd (G120_8 = 0 ∨ S120_8 = G120_8) ∧ Hd (1 ≤ S120_8 ∨ G9010_0 < S9010_0) ∧ Hd (1 ≤ S120_8 ∨ (0 ≤ v ∧ v ≤ 5))) := by
  subst k120_3
  subst k120_4
  subst k120_5
  subst k120_7
  subst k120_8
  subst k9010_0
  refine Tr.imp (sp_X12_asked_120_w1 hI en_120_37 a1 ha1 hq0 hq1 hq2) ?_
  rintro M' _ ⟨hS, v, rfl, lr, ur, z0, z1, z2, z3, z4, z5, z6⟩
  exact ⟨hS, _, _, _, _, _, _, rfl, ir_120_3 hS.1.2.1, rfl, ir_120_4 hS.1.2.1, rfl, ir_120_5 hS.1.2.1, rfl, ir_120_7 hS.1.2.1, rfl, ir_120_8 hS.1.2.1, rfl, (tav_b hS.1.2.1), v, rfl, lr, ur, hd_i z0, z1, hd_i z2, z3, hd_i z4, hd_i z5, hd_i z6⟩

def ws_X12_pushes_120_w1 : List (Int × Int) := [(120, 43)]
def as_X12_pushes_120_w1 : List Int := [145, 146, 147, 149]
def q_X12_pushes_120_w1 (a1 : Int) (M0 M' : Mem) (r : Option PV) : Prop := St Pm0 ws_X12_pushes_120_w1 as_X12_pushes_120_w1 M0 M' ∧ r = none ∧ (rd M' 120 43 = rd M0 120 43 + 1) ∧ (n4v M' = n4v M0) ∧ (fr0 M' ≤ 1)
set_option maxRecDepth 100000 in
set_option maxHeartbeats 4000000 in
theorem sp_X12_pushes_120_w1 {l : Launch} {K : EC} {M0 : Mem} (hI : In Pm0 M0)  (a1 : Int) (ha1 : 0 ≤ a1 ∧ a1 ≤ 5)  (hq0 : rd M0 120 43 ≤ 19) (hq1 : a1 ≠ 4) (hq2 : 1 ≤ rd M0 120 43 ∨ a1 ≤ 1) (hq3 : fr0 M0 ≤ 1 ∨ rd M0 120 43 = 0) : Tr l K 0 mX12_pushes 0 [(0, (2, 120)), (1, (0, a1))] [] M0 (q_X12_pushes_120_w1 a1 M0) := by
  have hS : St Pm0 ws_X12_pushes_120_w1 as_X12_pushes_120_w1 M0 M0 := St.rf hI
  obtain ⟨g120_43, eg120_43⟩ : ∃ v, rd M0 120 43 = v := ⟨_, rfl⟩
  have bg120_43 : 0 ≤ g120_43 ∧ g120_43 ≤ 20 := by rw [← eg120_43]; exact ir_120_43 hI.2.1
  obtain ⟨g9002_0, eg9002_0⟩ : ∃ v, n4v M0 = v := ⟨_, rfl⟩
  have bg9002_0 : 0 ≤ g9002_0 ∧ g9002_0 ≤ 20 := by rw [← eg9002_0]; exact (n4v_b hI.2.1)
  obtain ⟨g9005_0, eg9005_0⟩ : ∃ v, fr0 M0 = v := ⟨_, rfl⟩
  have bg9005_0 : 0 ≤ g9005_0 ∧ g9005_0 ≤ 5 := by rw [← eg9005_0]; exact (fr0_b hI.2.1)
  obtain ⟨g120_46, eg120_46⟩ : ∃ v, rd M0 120 46 = v := ⟨_, rfl⟩
  have bg120_46 : 0 ≤ g120_46 ∧ g120_46 ≤ 500 := by rw [← eg120_46]; exact ir_120_46 hI.2.1
  replace hq1 := hd_i hq1
  replace hq2 := hd_i hq2
  replace hq3 := hd_i hq3
  refine Tr.aload_n (pc := 0) (i := 0) d_X12_pushes_0 rfl rfl ?_
  refine Tr.getf (pc := 1) d_X12_pushes_1 f_12_127 (by decide) (by decide) (ty_120 hS.1.1) ?_
  refine Tr.tp 145 (fx_120_38 hS.1.1) ?_
  refine Tr.aload_n (pc := 4) (i := 0) d_X12_pushes_4 rfl rfl ?_
  refine Tr.getf (pc := 5) d_X12_pushes_5 f_12_143 (by decide) (by decide) (ty_120 hS.1.1) ?_
  refine Tr.tp g120_43 eg120_43 ?_
  refine Tr.iload_n (pc := 8) (i := 1) d_X12_pushes_8 rfl rfl ?_
  refine Tr.iastS (pc := 9) (P := St Pm0 ws_X12_pushes_120_w1 as_X12_pushes_120_w1 M0) d_X12_pushes_9 (ty_145 hS.1.1) (by omega) (by omega) (sa_145 hS (by decide) (by and_intros <;> omega) (Pm0.of hS.1.2.2.2.2 (fun _ => rd_wb _ rfl) (fun _ => rd_wb _ rfl) (fun _ => rd_wb _ rfl) (fun _ => rd_wb _ rfl) (fun _ => rd_wb _ rfl) (fun _ => rd_wb _ rfl) (fun _ => rd_wb _ rfl) (fun _ => rd_wb _ rfl) (fun _ => rd_wb _ rfl) (fun _ => rd_wb _ rfl) (rd_wb _ rfl) (rd_wb _ rfl) (rd_wb _ rfl) (rd_wb _ rfl) (rd_wb _ rfl) (rd_wb _ rfl) (rd_wb _ rfl) (rd_wb _ rfl) (rd_wb _ rfl) (rd_wb _ rfl) (rd_wb _ rfl))) (fun M9 hS w9 => ?_)
  obtain ⟨v9_9005, ev9_9005⟩ : ∃ v, fr0 M9 = v := ⟨_, rfl⟩
  have bv9_9005 : 0 ≤ v9_9005 ∧ v9_9005 ≤ 5 := by rw [← ev9_9005]; exact (fr0_b hS.1.2.1)
  have fv9_9005 : (g120_43 = 0 ∧ v9_9005 = a1) ∨ (g120_43 ≠ 0 ∧ v9_9005 = g9005_0) := by have h8 := fr0_w w9; have h7 : fr0 M9 = v9_9005 := ev9_9005; have h6 := eg9005_0; omega
  replace fv9_9005 := hd_i fv9_9005
  refine Tr.aload_n (pc := 10) (i := 0) d_X12_pushes_10 rfl rfl ?_
  refine Tr.getf (pc := 11) d_X12_pushes_11 f_12_130 (by decide) (by decide) (ty_120 hS.1.1) ?_
  refine Tr.tp 146 (fx_120_39 hS.1.1) ?_
  refine Tr.aload_n (pc := 14) (i := 0) d_X12_pushes_14 rfl rfl ?_
  refine Tr.getf (pc := 15) d_X12_pushes_15 f_12_143 (by decide) (by decide) (ty_120 hS.1.1) ?_
  refine Tr.tp g120_43 ((Wr.b w9 rfl).trans eg120_43) ?_
  refine Tr.iconst (pc := 18) d_X12_pushes_18 (by decide) ?_
  refine Tr.iastS (pc := 19) (P := St Pm0 ws_X12_pushes_120_w1 as_X12_pushes_120_w1 M0) d_X12_pushes_19 (ty_146 hS.1.1) (by omega) (by omega) (sa_146 hS (by decide) (by omega) (Pm0.of hS.1.2.2.2.2 (fun _ => rd_wb _ rfl) (fun _ => rd_wb _ rfl) (fun _ => rd_wb _ rfl) (fun _ => rd_wb _ rfl) (fun _ => rd_wb _ rfl) (fun _ => rd_wb _ rfl) (fun _ => rd_wb _ rfl) (fun _ => rd_wb _ rfl) (fun _ => rd_wb _ rfl) (fun _ => rd_wb _ rfl) (rd_wb _ rfl) (rd_wb _ rfl) (rd_wb _ rfl) (rd_wb _ rfl) (rd_wb _ rfl) (rd_wb _ rfl) (rd_wb _ rfl) (rd_wb _ rfl) (rd_wb _ rfl) (rd_wb _ rfl) (rd_wb _ rfl))) (fun M19 hS w19 => ?_)
  refine Tr.aload_n (pc := 20) (i := 0) d_X12_pushes_20 rfl rfl ?_
  refine Tr.getf (pc := 21) d_X12_pushes_21 f_12_133 (by decide) (by decide) (ty_120 hS.1.1) ?_
  refine Tr.tp 147 (fx_120_40 hS.1.1) ?_
  refine Tr.aload_n (pc := 24) (i := 0) d_X12_pushes_24 rfl rfl ?_
  refine Tr.getf (pc := 25) d_X12_pushes_25 f_12_143 (by decide) (by decide) (ty_120 hS.1.1) ?_
  refine Tr.tp g120_43 ((Wr.b w19 rfl).trans ((Wr.b w9 rfl).trans eg120_43)) ?_
  refine Tr.iconst (pc := 28) d_X12_pushes_28 (by decide) ?_
  refine Tr.zastS (pc := 29) (P := St Pm0 ws_X12_pushes_120_w1 as_X12_pushes_120_w1 M0) d_X12_pushes_29 (ty_147 hS.1.1) (by omega) (by omega) (by omega) (sa_147 hS (by decide) (by omega) (Pm0.of hS.1.2.2.2.2 (fun _ => rd_wb _ rfl) (fun _ => rd_wb _ rfl) (fun _ => rd_wb _ rfl) (fun _ => rd_wb _ rfl) (fun _ => rd_wb _ rfl) (fun _ => rd_wb _ rfl) (fun _ => rd_wb _ rfl) (fun _ => rd_wb _ rfl) (fun _ => rd_wb _ rfl) (fun _ => rd_wb _ rfl) (rd_wb _ rfl) (rd_wb _ rfl) (rd_wb _ rfl) (rd_wb _ rfl) (rd_wb _ rfl) (rd_wb _ rfl) (rd_wb _ rfl) (rd_wb _ rfl) (rd_wb _ rfl) (rd_wb _ rfl) (rd_wb _ rfl))) (fun M29 hS w29 => ?_)
  refine Tr.aload_n (pc := 30) (i := 0) d_X12_pushes_30 rfl rfl ?_
  refine Tr.getf (pc := 31) d_X12_pushes_31 f_12_140 (by decide) (by decide) (ty_120 hS.1.1) ?_
  refine Tr.tp 149 (fx_120_42 hS.1.1) ?_
  refine Tr.aload_n (pc := 34) (i := 0) d_X12_pushes_34 rfl rfl ?_
  refine Tr.getf (pc := 35) d_X12_pushes_35 f_12_143 (by decide) (by decide) (ty_120 hS.1.1) ?_
  refine Tr.tp g120_43 ((Wr.b w29 rfl).trans ((Wr.b w19 rfl).trans ((Wr.b w9 rfl).trans eg120_43))) ?_
  refine Tr.aload_n (pc := 38) (i := 0) d_X12_pushes_38 rfl rfl ?_
  refine Tr.getf (pc := 39) d_X12_pushes_39 f_12_152 (by decide) (by decide) (ty_120 hS.1.1) ?_
  refine Tr.tp g120_46 ((Wr.b w29 rfl).trans ((Wr.b w19 rfl).trans ((Wr.b w9 rfl).trans eg120_46))) ?_
  refine Tr.iastS (pc := 42) (P := St Pm0 ws_X12_pushes_120_w1 as_X12_pushes_120_w1 M0) d_X12_pushes_42 (ty_149 hS.1.1) (by omega) (by omega) (sa_149 hS (by decide) (by and_intros <;> omega) (Pm0.of hS.1.2.2.2.2 (fun _ => rd_wb _ rfl) (fun _ => rd_wb _ rfl) (fun _ => rd_wb _ rfl) (fun _ => rd_wb _ rfl) (fun _ => rd_wb _ rfl) (fun _ => rd_wb _ rfl) (fun _ => rd_wb _ rfl) (fun _ => rd_wb _ rfl) (fun _ => rd_wb _ rfl) (fun _ => rd_wb _ rfl) (rd_wb _ rfl) (rd_wb _ rfl) (rd_wb _ rfl) (rd_wb _ rfl) (rd_wb _ rfl) (rd_wb _ rfl) (rd_wb _ rfl) (rd_wb _ rfl) (rd_wb _ rfl) (rd_wb _ rfl) (rd_wb _ rfl))) (fun M42 hS w42 => ?_)
  refine Tr.aload_n (pc := 43) (i := 0) d_X12_pushes_43 rfl rfl ?_
  refine Tr.dup (pc := 44) d_X12_pushes_44 ne21 ?_
  refine Tr.getf (pc := 45) d_X12_pushes_45 f_12_143 (by decide) (by decide) (ty_120 hS.1.1) ?_
  refine Tr.tp g120_43 ((Wr.b w42 rfl).trans ((Wr.b w29 rfl).trans ((Wr.b w19 rfl).trans ((Wr.b w9 rfl).trans eg120_43)))) ?_
  refine Tr.iconst (pc := 48) d_X12_pushes_48 (by decide) ?_
  refine Tr.iadd (pc := 49) d_X12_pushes_49 ?_
  refine Tr.tp (g120_43 + 1) ((w32_id (by and_intros <;> omega)).trans (by omega)) ?_
  refine Tr.putfS (pc := 50) (P := St Pm0 ws_X12_pushes_120_w1 as_X12_pushes_120_w1 M0) d_X12_pushes_50 f_12_143 (by decide) (by decide) (ty_120 hS.1.1) (st_120_43 hS (by decide) (by and_intros <;> omega) (Pm0.of hS.1.2.2.2.2 (fun _ => rd_wb _ rfl) (fun _ => rd_wb _ rfl) (fun _ => rd_wb _ rfl) (fun _ => rd_wb _ rfl) (fun _ => rd_wb _ rfl) (fun _ => rd_wb _ rfl) (fun _ => rd_wb _ rfl) (fun _ => rd_wb _ rfl) (fun _ => rd_wb _ rfl) (fun _ => rd_wb _ rfl) (rd_wb _ rfl) (rd_wb _ rfl) (rd_wb _ rfl) (rd_wb _ rfl) (rd_wb _ rfl) (rd_wb _ rfl) (rd_wb _ rfl) (rd_wb _ rfl) (rd_wb _ rfl) (rd_wb _ rfl) (rd_wb _ rfl))) (fun M50 hS w50 => ?_)
  obtain ⟨v50_9002, ev50_9002⟩ : ∃ v, n4v M50 = v := ⟨_, rfl⟩
  have bv50_9002 : 0 ≤ v50_9002 ∧ v50_9002 ≤ 20 := by rw [← ev50_9002]; exact (n4v_b hS.1.2.1)
  have fv50_9002 : v50_9002 = g9002_0 := by have h8 := ct_push (x := 145) (j := 43) (e := 4) (a := 1) (b := 0) (M := M0) (M2 := M50) (n := g120_43) (v := a1) eg120_43 (w50.1.trans (by omega)) ((Wr.b w50 rfl).trans ((Wr.b w42 rfl).trans ((Wr.b w29 rfl).trans ((Wr.b w19 rfl).trans w9.1)))) (fun i hi => (Wr.b w50 rfl).trans ((Wr.b w42 rfl).trans ((Wr.b w29 rfl).trans ((Wr.b w19 rfl).trans (w9.2 _ _ (fun c => hi c.2)))))) (by omega); have h7 : ctV 145 43 4 1 0 M50 = v50_9002 := ev50_9002; have h6 : ctV 145 43 4 1 0 M0 = g9002_0 := eg9002_0; have h5 := hd_o hq1; omega
  have kr_120_43 : rd M50 120 43 = (g120_43 + 1) := w50.1
  have kr_9002_0 : n4v M50 = v50_9002 := ev50_9002
  have kr_9005_0 : fr0 M50 = v9_9005 := ((fr0_of (fun j => ((Wr.b w50 rfl).trans ((Wr.b w42 rfl).trans ((Wr.b w29 rfl).trans ((Wr.b w19 rfl).trans rfl)))))).trans ev9_9005)
  exact Tr.vret (pc := 53) d_X12_pushes_53 rfl ⟨hS, rfl, (by omega), (by omega), (by exact (hd_o fv9_9005).elim (fun h1 => (hd_o hq2).elim (fun h2 => by omega) (fun h2 => by omega)) (fun h1 => (ne_o h1.1).elim (fun h2 => by omega) (fun h2 => (hd_o hq3).elim (fun h3 => by omega) (fun h3 => by omega))))⟩

set_option maxRecDepth 100000 in
set_option maxHeartbeats 4000000 in
theorem ns_X12_pushes_120_w1 {l : Launch} {K : EC} {M0 : Mem} {G120_43 G9002_0 G9005_0 : Int} (hI : In Pm0 M0) (k120_43 : rd M0 120 43 = G120_43) (k9002_0 : n4v M0 = G9002_0) (k9005_0 : fr0 M0 = G9005_0)  (a1 : Int) (ha1 : 0 ≤ a1 ∧ a1 ≤ 5)  (hq0 : G120_43 ≤ 19) (hq1 : a1 ≠ 4) (hq2 : 1 ≤ G120_43 ∨ a1 ≤ 1) (hq3 : G9005_0 ≤ 1 ∨ G120_43 = 0) : Tr l K 0 mX12_pushes 0 [(0, (2, 120)), (1, (0, a1))] [] M0 (fun M' r => St Pm0 ws_X12_pushes_120_w1 as_X12_pushes_120_w1 M0 M' ∧ ∃ S120_43 S9002_0 S9005_0 : Int, rd M' 120 43 = S120_43 ∧ (0 ≤ S120_43 ∧ S120_43 ≤ 20) ∧ n4v M' = S9002_0 ∧ (0 ≤ S9002_0 ∧ S9002_0 ≤ 20) ∧ fr0 M' = S9005_0 ∧ (0 ≤ S9005_0 ∧ S9005_0 ≤ 5) ∧ r = none ∧ (S120_43 = G120_43 + 1) ∧ (S9002_0 = G9002_0) ∧ (S9005_0 ≤ 1)) := by
  subst k120_43
  subst k9002_0
  subst k9005_0
  refine Tr.imp (sp_X12_pushes_120_w1 hI a1 ha1 hq0 hq1 hq2 hq3) ?_
  rintro M' _ ⟨hS, rfl, z0, z1, z2⟩
  exact ⟨hS, _, _, _, rfl, ir_120_43 hS.1.2.1, rfl, (n4v_b hS.1.2.1), rfl, (fr0_b hS.1.2.1), rfl, z0, z1, z2⟩

def ws_X12_holdsBack_120_w1 : List (Int × Int) := [(120, 46)]
def as_X12_holdsBack_120_w1 : List Int := [150]
def q_X12_holdsBack_120_w1 (a1 : Int) (M0 M' : Mem) (r : Option PV) : Prop := St Pm0 ws_X12_holdsBack_120_w1 as_X12_holdsBack_120_w1 M0 M' ∧ r = none ∧ (rd M' 120 46 = rd M0 120 46 + 1) ∧ ((a1 = 18 ∧ nb2v M' = nb2v M0) ∨ (a1 ≠ 18 ∧ nb2v M' = nb2v M0 + 1))
set_option maxRecDepth 100000 in
set_option maxHeartbeats 4000000 in
theorem sp_X12_holdsBack_120_w1 {l : Launch} {K : EC} {M0 : Mem} (hI : In Pm0 M0)  (a1 : Int) (ha1 : 6 ≤ a1 ∧ a1 ≤ 18)  (hq0 : rd M0 120 46 ≤ 499) : Tr l K 0 mX12_holdsBack 0 [(0, (2, 120)), (1, (0, a1))] [] M0 (q_X12_holdsBack_120_w1 a1 M0) := by
  have hS : St Pm0 ws_X12_holdsBack_120_w1 as_X12_holdsBack_120_w1 M0 M0 := St.rf hI
  obtain ⟨g120_46, eg120_46⟩ : ∃ v, rd M0 120 46 = v := ⟨_, rfl⟩
  have bg120_46 : 0 ≤ g120_46 ∧ g120_46 ≤ 500 := by rw [← eg120_46]; exact ir_120_46 hI.2.1
  obtain ⟨g9001_0, eg9001_0⟩ : ∃ v, nb2v M0 = v := ⟨_, rfl⟩
  have bg9001_0 : 0 ≤ g9001_0 ∧ g9001_0 ≤ 1000000 := by rw [← eg9001_0]; exact (nb2v_b hI.2.1)
  refine Tr.aload_n (pc := 0) (i := 0) d_X12_holdsBack_0 rfl rfl ?_
  refine Tr.getf (pc := 1) d_X12_holdsBack_1 f_12_149 (by decide) (by decide) (ty_120 hS.1.1) ?_
  refine Tr.tp 150 (fx_120_45 hS.1.1) ?_
  refine Tr.aload_n (pc := 4) (i := 0) d_X12_holdsBack_4 rfl rfl ?_
  refine Tr.getf (pc := 5) d_X12_holdsBack_5 f_12_152 (by decide) (by decide) (ty_120 hS.1.1) ?_
  refine Tr.tp g120_46 eg120_46 ?_
  refine Tr.iload_n (pc := 8) (i := 1) d_X12_holdsBack_8 rfl rfl ?_
  refine Tr.iastS (pc := 9) (P := St Pm0 ws_X12_holdsBack_120_w1 as_X12_holdsBack_120_w1 M0) d_X12_holdsBack_9 (ty_150 hS.1.1) (by omega) (by omega) (sa_150 hS (by decide) (by and_intros <;> omega) (Pm0.of hS.1.2.2.2.2 (fun _ => rd_wb _ rfl) (fun _ => rd_wb _ rfl) (fun _ => rd_wb _ rfl) (fun _ => rd_wb _ rfl) (fun _ => rd_wb _ rfl) (fun _ => rd_wb _ rfl) (fun _ => rd_wb _ rfl) (fun _ => rd_wb _ rfl) (fun _ => rd_wb _ rfl) (fun _ => rd_wb _ rfl) (rd_wb _ rfl) (rd_wb _ rfl) (rd_wb _ rfl) (rd_wb _ rfl) (rd_wb _ rfl) (rd_wb _ rfl) (rd_wb _ rfl) (rd_wb _ rfl) (rd_wb _ rfl) (rd_wb _ rfl) (rd_wb _ rfl))) (fun M9 hS w9 => ?_)
  refine Tr.aload_n (pc := 10) (i := 0) d_X12_holdsBack_10 rfl rfl ?_
  refine Tr.dup (pc := 11) d_X12_holdsBack_11 ne21 ?_
  refine Tr.getf (pc := 12) d_X12_holdsBack_12 f_12_152 (by decide) (by decide) (ty_120 hS.1.1) ?_
  refine Tr.tp g120_46 ((Wr.b w9 rfl).trans eg120_46) ?_
  refine Tr.iconst (pc := 15) d_X12_holdsBack_15 (by decide) ?_
  refine Tr.iadd (pc := 16) d_X12_holdsBack_16 ?_
  refine Tr.tp (g120_46 + 1) ((w32_id (by and_intros <;> omega)).trans (by omega)) ?_
  refine Tr.putfS (pc := 17) (P := St Pm0 ws_X12_holdsBack_120_w1 as_X12_holdsBack_120_w1 M0) d_X12_holdsBack_17 f_12_152 (by decide) (by decide) (ty_120 hS.1.1) (st_120_46 hS (by decide) (by and_intros <;> omega) (Pm0.of hS.1.2.2.2.2 (fun _ => rd_wb _ rfl) (fun _ => rd_wb _ rfl) (fun _ => rd_wb _ rfl) (fun _ => rd_wb _ rfl) (fun _ => rd_wb _ rfl) (fun _ => rd_wb _ rfl) (fun _ => rd_wb _ rfl) (fun _ => rd_wb _ rfl) (fun _ => rd_wb _ rfl) (fun _ => rd_wb _ rfl) (rd_wb _ rfl) (rd_wb _ rfl) (rd_wb _ rfl) (rd_wb _ rfl) (rd_wb _ rfl) (rd_wb _ rfl) (rd_wb _ rfl) (rd_wb _ rfl) (rd_wb _ rfl) (rd_wb _ rfl) (rd_wb _ rfl))) (fun M17 hS w17 => ?_)
  obtain ⟨v17_9001, ev17_9001⟩ : ∃ v, nb2v M17 = v := ⟨_, rfl⟩
  have bv17_9001 : 0 ≤ v17_9001 ∧ v17_9001 ≤ 1000000 := by rw [← ev17_9001]; exact (nb2v_b hS.1.2.1)
  have fv17_9001 : (a1 = 18 ∧ v17_9001 = g9001_0) ∨ (a1 ≤ 5 ∧ v17_9001 = g9001_0 + 2000) ∨ (5 < a1 ∧ a1 ≠ 18 ∧ v17_9001 = g9001_0 + 1) := by have h8 := nb2_push (M := M0) (M2 := M17) (n := g120_46) (v := a1) eg120_46 (w17.1.trans (by omega)) ((Wr.b w17 rfl).trans w9.1) (fun i hi => (Wr.b w17 rfl).trans (w9.2 _ _ (fun c => hi c.2))) (by omega); have h7 : nb2v M17 = v17_9001 := ev17_9001; have h6 : nb2v M0 = g9001_0 := eg9001_0; rw [h7, h6] at h8; exact h8
  replace fv17_9001 := hd_i fv17_9001
  have kr_120_46 : rd M17 120 46 = (g120_46 + 1) := w17.1
  have kr_9001_0 : nb2v M17 = v17_9001 := ev17_9001
  exact Tr.vret (pc := 20) d_X12_holdsBack_20 rfl ⟨hS, rfl, (by omega), (by exact (hd_o fv17_9001).elim (fun h1 => by omega) (fun h1 => h1.elim (fun h1 => by omega) (fun h1 => (ne_o h1.2.1).elim (fun h2 => by omega) (fun h2 => by omega))))⟩

set_option maxRecDepth 100000 in
set_option maxHeartbeats 4000000 in
theorem ns_X12_holdsBack_120_w1 {l : Launch} {K : EC} {M0 : Mem} {G120_46 G9001_0 : Int} (hI : In Pm0 M0) (k120_46 : rd M0 120 46 = G120_46) (k9001_0 : nb2v M0 = G9001_0)  (a1 : Int) (ha1 : 6 ≤ a1 ∧ a1 ≤ 18)  (hq0 : G120_46 ≤ 499) : Tr l K 0 mX12_holdsBack 0 [(0, (2, 120)), (1, (0, a1))] [] M0 (fun M' r => St Pm0 ws_X12_holdsBack_120_w1 as_X12_holdsBack_120_w1 M0 M' ∧ ∃ S120_46 S9001_0 : Int, rd M' 120 46 = S120_46 ∧ (0 ≤ S120_46 ∧ S120_46 ≤ 500) ∧ nb2v M' = S9001_0 ∧ (0 ≤ S9001_0 ∧ S9001_0 ≤ 1000000) ∧ r = none ∧ (S120_46 = G120_46 + 1) ∧ Hd ((a1 = 18 ∧ S9001_0 = G9001_0) ∨ (a1 ≠ 18 ∧ S9001_0 = G9001_0 + 1))) := by
  subst k120_46
  subst k9001_0
  refine Tr.imp (sp_X12_holdsBack_120_w1 hI a1 ha1 hq0) ?_
  rintro M' _ ⟨hS, rfl, z0, z1⟩
  exact ⟨hS, _, _, rfl, ir_120_46 hS.1.2.1, rfl, (nb2v_b hS.1.2.1), rfl, z0, hd_i z1⟩

def ws_X12_opens_120_w1 : List (Int × Int) := [(120, 3), (120, 4), (120, 5), (120, 6), (120, 7), (120, 8), (120, 9), (120, 43), (120, 44)]
def as_X12_opens_120_w1 : List Int := [145, 146, 147, 149]
def q_X12_opens_120_w1 (a1 : Int) (M0 M' : Mem) (r : Option PV) : Prop := St Pm0 ws_X12_opens_120_w1 as_X12_opens_120_w1 M0 M' ∧ r = none ∧ (rd M' 120 3 = 0 ∨ rd M' 120 4 + 1 ≤ rd M' 120 5) ∧ (rd M' 120 4 ≤ rd M' 120 5) ∧ (rd M' 120 3 ≠ 1 ∨ rd M' 120 4 + 2 ≤ rd M' 120 5 ∨ rd M' 120 7 < 256) ∧ (rd M0 120 4 ≤ rd M' 120 4 ∧ rd M0 120 5 ≤ rd M' 120 5 ∧ tav M0 ≤ tav M') ∧ (rd M0 120 8 = 0 ∨ rd M' 120 8 = rd M0 120 8) ∧ (1 ≤ rd M' 120 8 ∨ tav M0 < tav M') ∧ (rd M' 120 43 - rd M0 120 43 = rd M' 120 44 - rd M0 120 44 ∧ rd M0 120 44 ≤ rd M' 120 44 ∧ rd M' 120 44 ≤ rd M0 120 44 + 1) ∧ (rd M' 120 44 = rd M0 120 44 ∨ rd M0 120 5 ≤ rd M' 120 4) ∧ (n4v M' = n4v M0) ∧ (fr0 M' ≤ 1) ∧ (rd M' 120 44 = rd M0 120 44 + 1 ∨ 1 ≤ rd M' 120 8)
theorem kp_X12_next_120_w1_120_43 {q : Mem → Prop} {M0 M : Mem} (h : St q ws_X12_next_120_w1 as_X12_next_120_w1 M0 M) : rd M 120 43 = rd M0 120 43 := St.kp h (by decide) (by decide) (by decide)
theorem ka_X12_next_120_w1_145 {q : Mem → Prop} {M0 M : Mem} (h : St q ws_X12_next_120_w1 as_X12_next_120_w1 M0 M) (j : Int) : rd M 145 j = rd M0 145 j := St.ka h (by decide) (by decide) (by decide)
theorem kp_X12_pushes_120_w1_120_3 {q : Mem → Prop} {M0 M : Mem} (h : St q ws_X12_pushes_120_w1 as_X12_pushes_120_w1 M0 M) : rd M 120 3 = rd M0 120 3 := St.kp h (by decide) (by decide) (by decide)
theorem kp_X12_pushes_120_w1_120_4 {q : Mem → Prop} {M0 M : Mem} (h : St q ws_X12_pushes_120_w1 as_X12_pushes_120_w1 M0 M) : rd M 120 4 = rd M0 120 4 := St.kp h (by decide) (by decide) (by decide)
theorem kp_X12_pushes_120_w1_120_5 {q : Mem → Prop} {M0 M : Mem} (h : St q ws_X12_pushes_120_w1 as_X12_pushes_120_w1 M0 M) : rd M 120 5 = rd M0 120 5 := St.kp h (by decide) (by decide) (by decide)
theorem kp_X12_pushes_120_w1_120_7 {q : Mem → Prop} {M0 M : Mem} (h : St q ws_X12_pushes_120_w1 as_X12_pushes_120_w1 M0 M) : rd M 120 7 = rd M0 120 7 := St.kp h (by decide) (by decide) (by decide)
theorem kp_X12_pushes_120_w1_120_8 {q : Mem → Prop} {M0 M : Mem} (h : St q ws_X12_pushes_120_w1 as_X12_pushes_120_w1 M0 M) : rd M 120 8 = rd M0 120 8 := St.kp h (by decide) (by decide) (by decide)
theorem kp_X12_next_120_w1_120_44 {q : Mem → Prop} {M0 M : Mem} (h : St q ws_X12_next_120_w1 as_X12_next_120_w1 M0 M) : rd M 120 44 = rd M0 120 44 := St.kp h (by decide) (by decide) (by decide)
theorem kp_X12_pushes_120_w1_120_44 {q : Mem → Prop} {M0 M : Mem} (h : St q ws_X12_pushes_120_w1 as_X12_pushes_120_w1 M0 M) : rd M 120 44 = rd M0 120 44 := St.kp h (by decide) (by decide) (by decide)
theorem kp_X12_blame_120_w1_120_43 {q : Mem → Prop} {M0 M : Mem} (h : St q ws_X12_blame_120_w1 as_X12_blame_120_w1 M0 M) : rd M 120 43 = rd M0 120 43 := St.kp h (by decide) (by decide) (by decide)
theorem kp_X12_blame_120_w1_120_44 {q : Mem → Prop} {M0 M : Mem} (h : St q ws_X12_blame_120_w1 as_X12_blame_120_w1 M0 M) : rd M 120 44 = rd M0 120 44 := St.kp h (by decide) (by decide) (by decide)
theorem kp_X12_blame_120_w1_120_46 {q : Mem → Prop} {M0 M : Mem} (h : St q ws_X12_blame_120_w1 as_X12_blame_120_w1 M0 M) : rd M 120 46 = rd M0 120 46 := St.kp h (by decide) (by decide) (by decide)
theorem ka_X12_blame_120_w1_145 {q : Mem → Prop} {M0 M : Mem} (h : St q ws_X12_blame_120_w1 as_X12_blame_120_w1 M0 M) (j : Int) : rd M 145 j = rd M0 145 j := St.ka h (by decide) (by decide) (by decide)
set_option maxRecDepth 100000 in
set_option maxHeartbeats 4000000 in
theorem sp_X12_opens_120_w1 {l : Launch} {K : EC} {M0 : Mem} (hI : In Pm0 M0)  (a1 : Int) (ha1 : 2 ≤ a1 ∧ a1 ≤ 5)  (hq0 : rd M0 120 3 = 0 ∨ rd M0 120 4 + 1 ≤ rd M0 120 5) (hq1 : rd M0 120 4 ≤ rd M0 120 5) (hq2 : rd M0 120 3 ≠ 1 ∨ rd M0 120 4 + 2 ≤ rd M0 120 5 ∨ rd M0 120 7 < 256) (hq3 : 1 ≤ rd M0 120 43 ∧ rd M0 120 43 ≤ 19) (hq4 : rd M0 120 3 ≠ 0 ∨ 1 ≤ rd M0 120 8) (hq5 : fr0 M0 ≤ 1) (hq6 : a1 ≠ 4) : Tr l K 2 mX12_opens 0 [(0, (2, 120)), (1, (0, a1))] [] M0 (q_X12_opens_120_w1 a1 M0) := by
  have hS : St Pm0 ws_X12_opens_120_w1 as_X12_opens_120_w1 M0 M0 := St.rf hI
  obtain ⟨g120_8, eg120_8⟩ : ∃ v, rd M0 120 8 = v := ⟨_, rfl⟩
  have bg120_8 : 0 ≤ g120_8 ∧ g120_8 ≤ 5 := by rw [← eg120_8]; exact ir_120_8 hI.2.1
  obtain ⟨g120_3, eg120_3⟩ : ∃ v, rd M0 120 3 = v := ⟨_, rfl⟩
  have bg120_3 : 0 ≤ g120_3 ∧ g120_3 ≤ 3 := by rw [← eg120_3]; exact ir_120_3 hI.2.1
  obtain ⟨g120_4, eg120_4⟩ : ∃ v, rd M0 120 4 = v := ⟨_, rfl⟩
  have bg120_4 : 0 ≤ g120_4 ∧ g120_4 ≤ 900 := by rw [← eg120_4]; exact ir_120_4 hI.2.1
  obtain ⟨g120_5, eg120_5⟩ : ∃ v, rd M0 120 5 = v := ⟨_, rfl⟩
  have bg120_5 : 0 ≤ g120_5 ∧ g120_5 ≤ 900 := by rw [← eg120_5]; exact ir_120_5 hI.2.1
  obtain ⟨g120_7, eg120_7⟩ : ∃ v, rd M0 120 7 = v := ⟨_, rfl⟩
  have bg120_7 : (-9223372036854775808) ≤ g120_7 ∧ g120_7 ≤ 9223372036854775807 := by rw [← eg120_7]; exact ir_120_7 hI.2.1
  obtain ⟨g9010_0, eg9010_0⟩ : ∃ v, tav M0 = v := ⟨_, rfl⟩
  have bg9010_0 : (-1) ≤ g9010_0 ∧ g9010_0 ≤ 1800 := by rw [← eg9010_0]; exact (tav_b hI.2.1)
  obtain ⟨g120_44, eg120_44⟩ : ∃ v, rd M0 120 44 = v := ⟨_, rfl⟩
  have bg120_44 : 0 ≤ g120_44 ∧ g120_44 ≤ 8 := by rw [← eg120_44]; exact ir_120_44 hI.2.1
  obtain ⟨g120_43, eg120_43⟩ : ∃ v, rd M0 120 43 = v := ⟨_, rfl⟩
  have bg120_43 : 0 ≤ g120_43 ∧ g120_43 ≤ 20 := by rw [← eg120_43]; exact ir_120_43 hI.2.1
  obtain ⟨g9002_0, eg9002_0⟩ : ∃ v, n4v M0 = v := ⟨_, rfl⟩
  have bg9002_0 : 0 ≤ g9002_0 ∧ g9002_0 ≤ 20 := by rw [← eg9002_0]; exact (n4v_b hI.2.1)
  obtain ⟨g9005_0, eg9005_0⟩ : ∃ v, fr0 M0 = v := ⟨_, rfl⟩
  have bg9005_0 : 0 ≤ g9005_0 ∧ g9005_0 ≤ 5 := by rw [← eg9005_0]; exact (fr0_b hI.2.1)
  obtain ⟨g120_46, eg120_46⟩ : ∃ v, rd M0 120 46 = v := ⟨_, rfl⟩
  have bg120_46 : 0 ≤ g120_46 ∧ g120_46 ≤ 500 := by rw [← eg120_46]; exact ir_120_46 hI.2.1
  replace hq0 := hd_i hq0
  replace hq2 := hd_i hq2
  replace hq4 := hd_i hq4
  replace hq6 := hd_i hq6
  refine Tr.aload_n (pc := 0) (i := 0) d_X12_opens_0 rfl rfl ?_
  refine Tr.getf (pc := 1) d_X12_opens_1 f_12_146 (by decide) (by decide) (ty_120 hS.1.1) ?_
  refine Tr.tp g120_44 eg120_44 ?_
  refine Tr.bipush (pc := 4) d_X12_opens_4 rfl (by decide) ?_
  have J18 : ∀ (M : Mem) (u18_120_8 : Int), St Pm0 ws_X12_opens_120_w1 as_X12_opens_120_w1 M0 M → (0 ≤ u18_120_8 ∧ u18_120_8 ≤ 5) → rd M 120 3 = g120_3 → rd M 120 4 = g120_4 → rd M 120 43 = g120_43 → rd M 120 44 = g120_44 → rd M 120 46 = g120_46 → rd M 120 5 = g120_5 → rd M 120 7 = g120_7 → rd M 120 8 = u18_120_8 → n4v M = g9002_0 → fr0 M = g9005_0 → tav M = g9010_0 → ((u18_120_8 = 0 ∧ g120_44 ≤ 7) ∨ 1 ≤ u18_120_8) → (g120_8 = 0 ∨ u18_120_8 = g120_8) → Tr l K 2 mX12_opens 18 [(0, (2, 120)), (1, (0, a1))] [] M (q_X12_opens_120_w1 a1 M0) := by
    intro M u18_120_8 hS bu18_120_8 k18_120_3 k18_120_4 k18_120_43 k18_120_44 k18_120_46 k18_120_5 k18_120_7 k18_120_8 k18_9002_0 k18_9005_0 k18_9010_0 t18_0 t18_1
    replace t18_0 := hd_i t18_0
    replace t18_1 := hd_i t18_1
    refine Tr.aload_n (pc := 18) (i := 0) d_X12_opens_18 rfl rfl ?_
    refine Tr.getf (pc := 19) d_X12_opens_19 f_12_36 (by decide) (by decide) (ty_120 hS.1.1) ?_
    refine Tr.tp u18_120_8 k18_120_8 ?_
    refine Tr.if_le (pc := 22) (tgt := 26) d_X12_opens_22 rfl (fun c22 => ?_) (fun c22 => ?_)
    · refine Tr.aload_n (pc := 26) (i := 0) d_X12_opens_26 rfl rfl ?_
      refine Tr.dup (pc := 27) d_X12_opens_27 ne21 ?_
      refine Tr.getf (pc := 28) d_X12_opens_28 f_12_146 (by decide) (by decide) (ty_120 hS.1.1) ?_
      refine Tr.tp g120_44 k18_120_44 ?_
      refine Tr.iconst (pc := 31) d_X12_opens_31 (by decide) ?_
      refine Tr.iadd (pc := 32) d_X12_opens_32 ?_
      refine Tr.tp (g120_44 + 1) ((w32_id (by and_intros <;> omega)).trans (by omega)) ?_
      refine Tr.putfS (pc := 33) (P := St Pm0 ws_X12_opens_120_w1 as_X12_opens_120_w1 M0) d_X12_opens_33 f_12_146 (by decide) (by decide) (ty_120 hS.1.1) (st_120_44 hS (by decide) (by exact (hd_o t18_0).elim (fun h1 => by omega) (fun h1 => by omega)) (Pm0.of hS.1.2.2.2.2 (fun _ => rd_wb _ rfl) (fun _ => rd_wb _ rfl) (fun _ => rd_wb _ rfl) (fun _ => rd_wb _ rfl) (fun _ => rd_wb _ rfl) (fun _ => rd_wb _ rfl) (fun _ => rd_wb _ rfl) (fun _ => rd_wb _ rfl) (fun _ => rd_wb _ rfl) (fun _ => rd_wb _ rfl) (rd_wb _ rfl) (rd_wb _ rfl) (rd_wb _ rfl) (rd_wb _ rfl) (rd_wb _ rfl) (rd_wb _ rfl) (rd_wb _ rfl) (rd_wb _ rfl) (rd_wb _ rfl) (rd_wb _ rfl) (rd_wb _ rfl))) (fun M33 hS w33 => ?_)
      refine Tr.aload_n (pc := 36) (i := 0) d_X12_opens_36 rfl rfl ?_
      refine Tr.callV (pc := 37) (as := []) d_X12_opens_37 s_12_396 ok_X12_next rfl rfl (Nat.le_of_ble_eq_true rfl) (Nat.le_of_ble_eq_true rfl) (by decide) (ty_120 hS.1.1) ?_
      refine Tr.imp (Tr.deep (by decide) (ns_X12_next_120_w1 (G120_3 := g120_3) (G120_5 := g120_5) (G120_8 := u18_120_8) (G9010_0 := g9010_0) hS.1 (((Wr.b w33 rfl).trans k18_120_3)) (((Wr.b w33 rfl).trans k18_120_5)) (((Wr.b w33 rfl).trans k18_120_8)) (((tav_of ((Wr.b w33 rfl).trans rfl) ((Wr.b w33 rfl).trans rfl)).trans k18_9010_0)))) ?_
      rintro M37 _ ⟨h37, s37_120_3, s37_120_4, s37_120_5, s37_120_7, s37_120_8, s37_9010_0, es37_120_3, bs37_120_3, es37_120_4, bs37_120_4, es37_120_5, bs37_120_5, es37_120_7, bs37_120_7, es37_120_8, bs37_120_8, es37_9010_0, bs37_9010_0, rfl, z37_0, z37_1, z37_2, z37_3, z37_4, z37_5, z37_6⟩
      have hS := St.tr hS h37 (by decide) (by decide)
      refine Tr.sc [] rfl ?_
      refine Tr.aload_n (pc := 40) (i := 0) d_X12_opens_40 rfl rfl ?_
      refine Tr.iload_n (pc := 41) (i := 1) d_X12_opens_41 rfl rfl ?_
      refine Tr.callV (pc := 42) (as := [_]) d_X12_opens_42 s_12_478 ok_X12_pushes rfl rfl (Nat.le_of_ble_eq_true rfl) (Nat.le_of_ble_eq_true rfl) (by decide) (ty_120 hS.1.1) ?_
      refine Tr.imp (Tr.deep (by decide) (ns_X12_pushes_120_w1 (G120_43 := g120_43) (G9002_0 := g9002_0) (G9005_0 := g9005_0) hS.1 (((kp_X12_next_120_w1_120_43 h37).trans ((Wr.b w33 rfl).trans k18_120_43))) (((n4v_of (fun j => ((ka_X12_next_120_w1_145 h37 _).trans ((Wr.b w33 rfl).trans rfl))) ((kp_X12_next_120_w1_120_43 h37).trans ((Wr.b w33 rfl).trans rfl))).trans k18_9002_0)) (((fr0_of (fun j => ((ka_X12_next_120_w1_145 h37 _).trans ((Wr.b w33 rfl).trans rfl)))).trans k18_9005_0)) a1 (by and_intros <;> omega) (by omega) (by have h1 := (hd_o hq6); omega) (by omega) (by omega))) ?_
      rintro M42 _ ⟨h42, s42_120_43, s42_9002_0, s42_9005_0, es42_120_43, bs42_120_43, es42_9002_0, bs42_9002_0, es42_9005_0, bs42_9005_0, rfl, z42_0, z42_1, z42_2⟩
      have hS := St.tr hS h42 (by decide) (by decide)
      refine Tr.sc [] rfl ?_
      have kr_120_3 : rd M42 120 3 = s37_120_3 := ((kp_X12_pushes_120_w1_120_3 h42).trans es37_120_3)
      have kr_120_4 : rd M42 120 4 = s37_120_4 := ((kp_X12_pushes_120_w1_120_4 h42).trans es37_120_4)
      have kr_120_5 : rd M42 120 5 = s37_120_5 := ((kp_X12_pushes_120_w1_120_5 h42).trans es37_120_5)
      have kr_120_7 : rd M42 120 7 = s37_120_7 := ((kp_X12_pushes_120_w1_120_7 h42).trans es37_120_7)
      have kr_120_8 : rd M42 120 8 = s37_120_8 := ((kp_X12_pushes_120_w1_120_8 h42).trans es37_120_8)
      have kr_120_43 : rd M42 120 43 = s42_120_43 := es42_120_43
      have kr_120_44 : rd M42 120 44 = (g120_44 + 1) := ((kp_X12_pushes_120_w1_120_44 h42).trans ((kp_X12_next_120_w1_120_44 h37).trans w33.1))
      have kr_9002_0 : n4v M42 = s42_9002_0 := es42_9002_0
      have kr_9005_0 : fr0 M42 = s42_9005_0 := es42_9005_0
      have kr_9010_0 : tav M42 = s37_9010_0 := ((tav_of ((kp_X12_pushes_120_w1_120_5 h42).trans rfl) ((kp_X12_pushes_120_w1_120_3 h42).trans rfl)).trans es37_9010_0)
      exact Tr.vret (pc := 45) d_X12_opens_45 rfl ⟨hS, rfl, (by first | exact (hd_o z37_0) | exact (hd_o z37_0).elim (fun h1 => by omega) (fun h1 => by omega)), (by omega), (by first | exact (hd_o z37_2) | exact (hd_o z37_2).elim (fun h1 => by omega) (fun h1 => h1.elim (fun h1 => by omega) (fun h1 => by omega))), (by and_intros <;> omega), (by exact (hd_o t18_1).elim (fun h1 => by omega) (fun h1 => by omega)), (by exact (hd_o hq4).elim (fun h1 => (ne_o h1).elim (fun h2 => by omega) (fun h2 => (hd_o z37_5).elim (fun h3 => by omega) (fun h3 => by omega))) (fun h1 => (hd_o t18_1).elim (fun h2 => by omega) (fun h2 => by omega))), (by and_intros <;> omega), (by omega), (by omega), (by omega), (by omega)⟩
    · have kr_120_3 : rd M 120 3 = g120_3 := k18_120_3
      have kr_120_4 : rd M 120 4 = g120_4 := k18_120_4
      have kr_120_5 : rd M 120 5 = g120_5 := k18_120_5
      have kr_120_7 : rd M 120 7 = g120_7 := k18_120_7
      have kr_120_8 : rd M 120 8 = u18_120_8 := k18_120_8
      have kr_120_43 : rd M 120 43 = g120_43 := k18_120_43
      have kr_120_44 : rd M 120 44 = g120_44 := k18_120_44
      have kr_9002_0 : n4v M = g9002_0 := k18_9002_0
      have kr_9005_0 : fr0 M = g9005_0 := k18_9005_0
      have kr_9010_0 : tav M = g9010_0 := k18_9010_0
      exact Tr.vret (pc := 25) d_X12_opens_25 rfl ⟨hS, rfl, (by first | exact (hd_o hq0) | exact (hd_o hq0).elim (fun h1 => by omega) (fun h1 => by omega)), (by omega), (by first | exact (hd_o hq2) | exact (hd_o hq2).elim (fun h1 => by omega) (fun h1 => h1.elim (fun h1 => by omega) (fun h1 => by omega))), (by and_intros <;> omega), (by first | exact (hd_o t18_1) | exact (hd_o t18_1).elim (fun h1 => by omega) (fun h1 => by omega)), (by omega), (by and_intros <;> omega), (by omega), (by omega), (by omega), (by omega)⟩
  refine Tr.icmp_ne (pc := 6) (tgt := 18) d_X12_opens_6 rfl (fun c6 => ?_) (fun c6 => ?_)
  · have c6b : 0 ≤ g120_44 ∧ g120_44 ≤ 7 := by omega
    replace c6 := hd_i c6
    refine Tr.pick [0, 1] (ls2 := [(0, (2, 120)), (1, (0, a1))]) rfl ?_
    exact J18 _ _ hS (by and_intros <;> omega) eg120_3 eg120_4 eg120_43 eg120_44 eg120_46 eg120_5 eg120_7 eg120_8 eg9002_0 eg9005_0 eg9010_0 (by omega) (by omega)
  · refine Tr.aload_n (pc := 9) (i := 0) d_X12_opens_9 rfl rfl ?_
    refine Tr.iconst (pc := 10) d_X12_opens_10 (by decide) ?_
    refine Tr.aload_n (pc := 11) (i := 0) d_X12_opens_11 rfl rfl ?_
    refine Tr.getf (pc := 12) d_X12_opens_12 f_12_23 (by decide) (by decide) (ty_120 hS.1.1) ?_
    refine Tr.tp g120_4 eg120_4 ?_
    refine Tr.callV (pc := 15) (as := [_, _]) d_X12_opens_15 s_12_389 ok_X12_blame rfl rfl (Nat.le_of_ble_eq_true rfl) (Nat.le_of_ble_eq_true rfl) (by decide) (ty_120 hS.1.1) ?_
    refine Tr.imp (Tr.deep (by decide) (ns_X12_blame_120_w1 (G120_8 := g120_8) hS.1 (eg120_8) 5 (by omega) g120_4 (by and_intros <;> omega))) ?_
    rintro M15 _ ⟨h15, s15_120_8, es15_120_8, bs15_120_8, rfl, z15_0⟩
    have hS := St.tr hS h15 (by decide) (by decide)
    refine Tr.sc [] rfl ?_
    refine Tr.pick [0, 1] (ls2 := [(0, (2, 120)), (1, (0, a1))]) rfl ?_
    exact J18 _ _ hS (by and_intros <;> omega) ((kp_X12_blame_120_w1_120_3 h15).trans eg120_3) ((kp_X12_blame_120_w1_120_4 h15).trans eg120_4) ((kp_X12_blame_120_w1_120_43 h15).trans eg120_43) ((kp_X12_blame_120_w1_120_44 h15).trans eg120_44) ((kp_X12_blame_120_w1_120_46 h15).trans eg120_46) ((kp_X12_blame_120_w1_120_5 h15).trans eg120_5) ((kp_X12_blame_120_w1_120_7 h15).trans eg120_7) es15_120_8 ((n4v_of (fun j => ((ka_X12_blame_120_w1_145 h15 _).trans rfl)) ((kp_X12_blame_120_w1_120_43 h15).trans rfl)).trans eg9002_0) ((fr0_of (fun j => ((ka_X12_blame_120_w1_145 h15 _).trans rfl))).trans eg9005_0) ((tav_of ((kp_X12_blame_120_w1_120_5 h15).trans rfl) ((kp_X12_blame_120_w1_120_3 h15).trans rfl)).trans eg9010_0) (by exact (hd_o z15_0).elim (fun h1 => by omega) (fun h1 => by omega)) (by exact (hd_o z15_0).elim (fun h1 => by omega) (fun h1 => by omega))

set_option maxRecDepth 100000 in
set_option maxHeartbeats 4000000 in
theorem ns_X12_opens_120_w1 {l : Launch} {K : EC} {M0 : Mem} {G120_3 G120_4 G120_5 G120_7 G120_8 G120_43 G120_44 G9002_0 G9005_0 G9010_0 : Int} (hI : In Pm0 M0) (k120_3 : rd M0 120 3 = G120_3) (k120_4 : rd M0 120 4 = G120_4) (k120_5 : rd M0 120 5 = G120_5) (k120_7 : rd M0 120 7 = G120_7) (k120_8 : rd M0 120 8 = G120_8) (k120_43 : rd M0 120 43 = G120_43) (k120_44 : rd M0 120 44 = G120_44) (k9002_0 : n4v M0 = G9002_0) (k9005_0 : fr0 M0 = G9005_0) (k9010_0 : tav M0 = G9010_0)  (a1 : Int) (ha1 : 2 ≤ a1 ∧ a1 ≤ 5)  (hq0 : G120_3 = 0 ∨ G120_4 + 1 ≤ G120_5) (hq1 : G120_4 ≤ G120_5) (hq2 : G120_3 ≠ 1 ∨ G120_4 + 2 ≤ G120_5 ∨ G120_7 < 256) (hq3 : 1 ≤ G120_43 ∧ G120_43 ≤ 19) (hq4 : G120_3 ≠ 0 ∨ 1 ≤ G120_8) (hq5 : G9005_0 ≤ 1) (hq6 : a1 ≠ 4) : Tr l K 2 mX12_opens 0 [(0, (2, 120)), (1, (0, a1))] [] M0 (fun M' r => St Pm0 ws_X12_opens_120_w1 as_X12_opens_120_w1 M0 M' ∧ ∃ S120_3 S120_4 S120_5 S120_7 S120_8 S120_43 S120_44 S9002_0 S9005_0 S9010_0 : Int, rd M' 120 3 = S120_3 ∧ (0 ≤ S120_3 ∧ S120_3 ≤ 3) ∧ rd M' 120 4 = S120_4 ∧ (0 ≤ S120_4 ∧ S120_4 ≤ 900) ∧ rd M' 120 5 = S120_5 ∧ (0 ≤ S120_5 ∧ S120_5 ≤ 900) ∧ rd M' 120 7 = S120_7 ∧ ((-9223372036854775808) ≤ S120_7 ∧ S120_7 ≤ 9223372036854775807) ∧ rd M' 120 8 = S120_8 ∧ (0 ≤ S120_8 ∧ S120_8 ≤ 5) ∧ rd M' 120 43 = S120_43 ∧ (0 ≤ S120_43 ∧ S120_43 ≤ 20) ∧ rd M' 120 44 = S120_44 ∧ (0 ≤ S120_44 ∧ S120_44 ≤ 8) ∧ n4v M' = S9002_0 ∧ (0 ≤ S9002_0 ∧ S9002_0 ≤ 20) ∧ fr0 M' = S9005_0 ∧ (0 ≤ S9005_0 ∧ S9005_0 ≤ 5) ∧ tav M' = S9010_0 ∧ ((-1) ≤ S9010_0 ∧ S9010_0 ≤ 1800) ∧ r = none ∧ Hd (S120_3 = 0 ∨ S120_4 + 1 ≤ S120_5) ∧ (S120_4 ≤ S120_5) ∧ Hd (S120_3 ≠ 1 ∨ S120_4 + 2 ≤ S120_5 ∨ S120_7 < 256) ∧ (G120_4 ≤ S120_4 ∧ G120_5 ≤ S120_5 ∧ G9010_0 ≤ S9010_0) ∧ Hd (G120_8 = 0 ∨ S120_8 = G120_8) ∧ Hd (1 ≤ S120_8 ∨ G9010_0 < S9010_0) ∧ (S120_43 - G120_43 = S120_44 - G120_44 ∧ G120_44 ≤ S120_44 ∧ S120_44 ≤ G120_44 + 1) ∧ Hd (S120_44 = G120_44 ∨ G120_5 ≤ S120_4) ∧ (S9002_0 = G9002_0) ∧ (S9005_0 ≤ 1) ∧ Hd (S120_44 = G120_44 + 1 ∨ 1 ≤ S120_8)) := by
  subst k120_3
  subst k120_4
  subst k120_5
  subst k120_7
  subst k120_8
  subst k120_43
  subst k120_44
  subst k9002_0
  subst k9005_0
  subst k9010_0
  refine Tr.imp (sp_X12_opens_120_w1 hI a1 ha1 hq0 hq1 hq2 hq3 hq4 hq5 hq6) ?_
  rintro M' _ ⟨hS, rfl, z0, z1, z2, z3, z4, z5, z6, z7, z8, z9, z10⟩
  exact ⟨hS, _, _, _, _, _, _, _, _, _, _, rfl, ir_120_3 hS.1.2.1, rfl, ir_120_4 hS.1.2.1, rfl, ir_120_5 hS.1.2.1, rfl, ir_120_7 hS.1.2.1, rfl, ir_120_8 hS.1.2.1, rfl, ir_120_43 hS.1.2.1, rfl, ir_120_44 hS.1.2.1, rfl, (n4v_b hS.1.2.1), rfl, (fr0_b hS.1.2.1), rfl, (tav_b hS.1.2.1), rfl, hd_i z0, z1, hd_i z2, z3, hd_i z4, hd_i z5, z6, hd_i z7, z8, z9, hd_i z10⟩

def ws_X12_add_120_w4 : List (Int × Int) := [(120, 36)]
def as_X12_add_120_w4 : List Int := [143, 144]
def q_X12_add_120_w4 (a1 a2 : Int) (M0 M' : Mem) (r : Option PV) : Prop := St Pm0 ws_X12_add_120_w4 as_X12_add_120_w4 M0 M' ∧ r = none ∧ (rd M' 120 36 = rd M0 120 36 + 1) ∧ ((a1 ≤ 5 ∧ Dv0 M' = Dv0 M0 + 1) ∨ (a1 = 18 ∧ Dv0 M' = Dv0 M0) ∨ (5 < a1 ∧ a1 ≠ 18 ∧ Dv0 M' = Dv0 M0 - 1))
set_option maxRecDepth 100000 in
set_option maxHeartbeats 4000000 in
theorem sp_X12_add_120_w4 {l : Launch} {K : EC} {M0 : Mem} (hI : In Pm0 M0) (en_120_37 : rd M0 120 37 = 0) (a1 : Int) (ha1 : -2147483648 ≤ a1 ∧ a1 ≤ 2147483647) (a2 : Int) (ha2 : -2147483648 ≤ a2 ∧ a2 ≤ 2147483647) (hp0 : (a1 = 1 → 0 ≤ a2 ∧ a2 ≤ 2) ∧ (a1 = 2 ∨ a1 = 4 → 0 ≤ a2 ∧ a2 ≤ 5)) (hq0 : rd M0 120 36 ≤ 899) (hq1 : 1 ≤ rd M0 136 0) (hq2 : a1 ≤ 5 ∨ 1 ≤ Dv0 M0) (hq3 : a1 ≤ 5 ∨ a1 = 18 ∨ 2 ≤ Dv0 M0) : Tr l K 0 mX12_add 0 [(0, (2, 120)), (1, (0, a1)), (2, (0, a2))] [] M0 (q_X12_add_120_w4 a1 a2 M0) := by
  have hS : St Pm0 ws_X12_add_120_w4 as_X12_add_120_w4 M0 M0 := St.rf hI
  obtain ⟨n, hn⟩ : ∃ v, rd M0 120 36 = v := ⟨_, rfl⟩
  have hb := ir_120_36 hI.2.1
  refine Tr.aload_n (pc := 0) (i := 0) d_X12_add_0 rfl rfl ?_
  refine Tr.getf (pc := 1) d_X12_add_1 f_12_115 (by decide) (by decide) (ty_120 hS.1.1) ?_
  refine Tr.tp 143 (fx_120_34 hS.1.1) ?_
  refine Tr.sipush (pc := 4) d_X12_add_4 rfl (by decide) ?_
  refine Tr.aload_n (pc := 7) (i := 0) d_X12_add_7 rfl rfl ?_
  refine Tr.getf (pc := 8) d_X12_add_8 f_12_124 (by decide) (by decide) (ty_120 hS.1.1) ?_
  refine Tr.tp 0 en_120_37 ?_
  refine Tr.imul (pc := 11) d_X12_add_11 ?_
  refine Tr.tp 0 (by decide) ?_
  refine Tr.aload_n (pc := 12) (i := 0) d_X12_add_12 rfl rfl ?_
  refine Tr.getf (pc := 13) d_X12_add_13 f_12_121 (by decide) (by decide) (ty_120 hS.1.1) ?_
  refine Tr.tp n hn ?_
  refine Tr.iadd (pc := 16) d_X12_add_16 ?_
  refine Tr.tp (0 + n) (w32_id (by omega)) ?_
  refine Tr.iload_n (pc := 17) (i := 1) d_X12_add_17 rfl rfl ?_
  refine Tr.iast (pc := 18) d_X12_add_18 (ty_143 hS.1.1) (by omega) (by omega) ?_
  refine Tr.aload_n (pc := 19) (i := 0) d_X12_add_19 rfl rfl ?_
  refine Tr.getf (pc := 20) d_X12_add_20 f_12_118 (by decide) (by decide) (show mT (wr M0 143 (0 + n) a1) 120 = (12, 121) from ty_120 (M := M0) hS.1.1) ?_
  refine Tr.tp 144 ((rd_wb _ rfl).trans (fx_120_35 (M := M0) hS.1.1)) ?_
  refine Tr.sipush (pc := 23) d_X12_add_23 rfl (by decide) ?_
  refine Tr.aload_n (pc := 26) (i := 0) d_X12_add_26 rfl rfl ?_
  refine Tr.getf (pc := 27) d_X12_add_27 f_12_124 (by decide) (by decide) (show mT (wr M0 143 (0 + n) a1) 120 = (12, 121) from ty_120 (M := M0) hS.1.1) ?_
  refine Tr.tp 0 ((rd_wb _ rfl).trans en_120_37) ?_
  refine Tr.imul (pc := 30) d_X12_add_30 ?_
  refine Tr.tp 0 (by decide) ?_
  refine Tr.aload_n (pc := 31) (i := 0) d_X12_add_31 rfl rfl ?_
  refine Tr.getf (pc := 32) d_X12_add_32 f_12_121 (by decide) (by decide) (show mT (wr M0 143 (0 + n) a1) 120 = (12, 121) from ty_120 (M := M0) hS.1.1) ?_
  refine Tr.tp n ((rd_wb _ rfl).trans hn) ?_
  refine Tr.iadd (pc := 35) d_X12_add_35 ?_
  refine Tr.tp (0 + n) (w32_id (by omega)) ?_
  refine Tr.iload_n (pc := 36) (i := 2) d_X12_add_36 rfl rfl ?_
  refine Tr.iastS (pc := 37) (P := fun M1 => St Tru ws_X12_add_120_w4 as_X12_add_120_w4 M0 M1) d_X12_add_37 (show mT (wr M0 143 (0 + n) a1) 144 = (20, 1800) from ty_144 (M := M0) hS.1.1) (by omega) (by omega) (St.two (x := 143) (y := 144) 96 97 hS.wk (by decide) hp0 (by decide) (by decide) rfl (by decide +kernel) (by decide +kernel) (by decide +kernel) (by omega) rfl (by decide +kernel) (by decide +kernel) (by decide +kernel) (by omega) trivial) (fun M37 hS9 w37 => ?_)
  have ho : ∀ y j : Int, ¬ (y = 143 ∧ j = 0 + n) → y ≠ 144 → rd M37 y j = rd M0 y j := fun y j c1 c2 => by rw [w37.2 _ _ (fun d => c2 d.1), rd_wn _ c1]
  have e1 : rd M37 143 (0 + n) = a1 := by rw [w37.2 _ _ (fun d => absurd d.1 (by decide)), rd_ws]
  have hA := Pm0_add (w := 0) hI.2.2.2.2 hI.2.1 hn (by omega) (by omega) e1 ho (fun c => by omega) (fun c c2 => by omega)
  refine Tr.aload_n (pc := 38) (i := 0) d_X12_add_38 rfl rfl ?_
  refine Tr.dup (pc := 39) d_X12_add_39 ne21 ?_
  refine Tr.getf (pc := 40) d_X12_add_40 f_12_121 (by decide) (by decide) (ty_120 hS9.1.1) ?_
  refine Tr.tp n ((ho 120 36 (fun d => absurd d.1 (by decide)) (by decide)).trans hn) ?_
  refine Tr.iconst (pc := 43) d_X12_add_43 (by decide) ?_
  refine Tr.iadd (pc := 44) d_X12_add_44 ?_
  refine Tr.tp (n + 1) (w32_id (by omega)) ?_
  have hS8 : St Tru ws_X12_add_120_w4 as_X12_add_120_w4 M0 (wr M37 120 36 (n + 1)) := st_120_36 hS9 (by decide) (by omega) trivial
  have hq := hA.2
  have hl := dl_c a1
  have hc : rd (wr M37 120 36 (n + 1)) 120 36 = n + 1 := rd_ws _ _ _ _
  refine Tr.putf (pc := 45) d_X12_add_45 f_12_121 (by decide) (by decide) (ty_120 hS9.1.1) ?_
  exact Tr.vret (pc := 48) d_X12_add_48 rfl ⟨St.rn hS8 hA.1, rfl, by omega, by omega⟩

set_option maxRecDepth 100000 in
set_option maxHeartbeats 4000000 in
theorem ns_X12_add_120_w4 {l : Launch} {K : EC} {M0 : Mem} {G120_36 G136_0 G9003_0 : Int} (hI : In Pm0 M0) (k120_36 : rd M0 120 36 = G120_36) (k136_0 : rd M0 136 0 = G136_0) (k9003_0 : Dv0 M0 = G9003_0) (en_120_37 : rd M0 120 37 = 0) (a1 : Int) (ha1 : (-2147483648) ≤ a1 ∧ a1 ≤ 2147483647) (a2 : Int) (ha2 : (-2147483648) ≤ a2 ∧ a2 ≤ 2147483647) (hp0 : (a1 = 1 → 0 ≤ a2 ∧ a2 ≤ 2) ∧ (a1 = 2 ∨ a1 = 4 → 0 ≤ a2 ∧ a2 ≤ 5)) (hq0 : G120_36 ≤ 899) (hq1 : 1 ≤ G136_0) (hq2 : a1 ≤ 5 ∨ 1 ≤ G9003_0) (hq3 : a1 ≤ 5 ∨ a1 = 18 ∨ 2 ≤ G9003_0) : Tr l K 0 mX12_add 0 [(0, (2, 120)), (1, (0, a1)), (2, (0, a2))] [] M0 (fun M' r => St Pm0 ws_X12_add_120_w4 as_X12_add_120_w4 M0 M' ∧ ∃ S120_36 S9003_0 : Int, rd M' 120 36 = S120_36 ∧ (0 ≤ S120_36 ∧ S120_36 ≤ 900) ∧ Dv0 M' = S9003_0 ∧ ((-1000) ≤ S9003_0 ∧ S9003_0 ≤ 1000) ∧ r = none ∧ (S120_36 = G120_36 + 1) ∧ Hd ((a1 ≤ 5 ∧ S9003_0 = G9003_0 + 1) ∨ (a1 = 18 ∧ S9003_0 = G9003_0) ∨ (5 < a1 ∧ a1 ≠ 18 ∧ S9003_0 = G9003_0 - 1))) := by
  subst k120_36
  subst k136_0
  subst k9003_0
  refine Tr.imp (sp_X12_add_120_w4 hI en_120_37 a1 ha1 a2 ha2 hp0 hq0 hq1 hq2 hq3) ?_
  rintro M' _ ⟨hS, rfl, z0, z1⟩
  exact ⟨hS, _, _, rfl, ir_120_36 hS.1.2.1, rfl, (Dv0_b hS.1.2.1), rfl, z0, hd_i z1⟩

def ws_X12_add_120_w5 : List (Int × Int) := [(120, 36)]
def as_X12_add_120_w5 : List Int := [143, 144]
def q_X12_add_120_w5 (a1 a2 : Int) (M0 M' : Mem) (r : Option PV) : Prop := St Pm0 ws_X12_add_120_w5 as_X12_add_120_w5 M0 M' ∧ r = none ∧ (rd M' 120 36 = rd M0 120 36 + 1) ∧ ((a1 ≤ 5 ∧ Dv0 M' = Dv0 M0 + 1) ∨ (a1 = 18 ∧ Dv0 M' = Dv0 M0) ∨ (5 < a1 ∧ a1 ≠ 18 ∧ Dv0 M' = Dv0 M0 - 1))
set_option maxRecDepth 100000 in
set_option maxHeartbeats 4000000 in
theorem sp_X12_add_120_w5 {l : Launch} {K : EC} {M0 : Mem} (hI : In Pm0 M0) (en_120_37 : rd M0 120 37 = 0) (a1 : Int) (ha1 : -2147483648 ≤ a1 ∧ a1 ≤ 2147483647) (a2 : Int) (ha2 : -2147483648 ≤ a2 ∧ a2 ≤ 2147483647) (hp0 : (a1 = 1 → 0 ≤ a2 ∧ a2 ≤ 2) ∧ (a1 = 2 ∨ a1 = 4 → 0 ≤ a2 ∧ a2 ≤ 5)) (hq0 : rd M0 120 36 ≤ 899) (hq1 : 1 ≤ rd M0 136 0) (hq2 : a1 ≤ 5 ∨ 1 ≤ Dv0 M0) (hq3 : a1 ≤ 5 ∨ a1 = 18 ∨ 2 ≤ Dv0 M0) : Tr l K 0 mX12_add 0 [(0, (2, 120)), (1, (0, a1)), (2, (0, a2))] [] M0 (q_X12_add_120_w5 a1 a2 M0) := by
  have hS : St Pm0 ws_X12_add_120_w5 as_X12_add_120_w5 M0 M0 := St.rf hI
  obtain ⟨n, hn⟩ : ∃ v, rd M0 120 36 = v := ⟨_, rfl⟩
  have hb := ir_120_36 hI.2.1
  refine Tr.aload_n (pc := 0) (i := 0) d_X12_add_0 rfl rfl ?_
  refine Tr.getf (pc := 1) d_X12_add_1 f_12_115 (by decide) (by decide) (ty_120 hS.1.1) ?_
  refine Tr.tp 143 (fx_120_34 hS.1.1) ?_
  refine Tr.sipush (pc := 4) d_X12_add_4 rfl (by decide) ?_
  refine Tr.aload_n (pc := 7) (i := 0) d_X12_add_7 rfl rfl ?_
  refine Tr.getf (pc := 8) d_X12_add_8 f_12_124 (by decide) (by decide) (ty_120 hS.1.1) ?_
  refine Tr.tp 0 en_120_37 ?_
  refine Tr.imul (pc := 11) d_X12_add_11 ?_
  refine Tr.tp 0 (by decide) ?_
  refine Tr.aload_n (pc := 12) (i := 0) d_X12_add_12 rfl rfl ?_
  refine Tr.getf (pc := 13) d_X12_add_13 f_12_121 (by decide) (by decide) (ty_120 hS.1.1) ?_
  refine Tr.tp n hn ?_
  refine Tr.iadd (pc := 16) d_X12_add_16 ?_
  refine Tr.tp (0 + n) (w32_id (by omega)) ?_
  refine Tr.iload_n (pc := 17) (i := 1) d_X12_add_17 rfl rfl ?_
  refine Tr.iast (pc := 18) d_X12_add_18 (ty_143 hS.1.1) (by omega) (by omega) ?_
  refine Tr.aload_n (pc := 19) (i := 0) d_X12_add_19 rfl rfl ?_
  refine Tr.getf (pc := 20) d_X12_add_20 f_12_118 (by decide) (by decide) (show mT (wr M0 143 (0 + n) a1) 120 = (12, 121) from ty_120 (M := M0) hS.1.1) ?_
  refine Tr.tp 144 ((rd_wb _ rfl).trans (fx_120_35 (M := M0) hS.1.1)) ?_
  refine Tr.sipush (pc := 23) d_X12_add_23 rfl (by decide) ?_
  refine Tr.aload_n (pc := 26) (i := 0) d_X12_add_26 rfl rfl ?_
  refine Tr.getf (pc := 27) d_X12_add_27 f_12_124 (by decide) (by decide) (show mT (wr M0 143 (0 + n) a1) 120 = (12, 121) from ty_120 (M := M0) hS.1.1) ?_
  refine Tr.tp 0 ((rd_wb _ rfl).trans en_120_37) ?_
  refine Tr.imul (pc := 30) d_X12_add_30 ?_
  refine Tr.tp 0 (by decide) ?_
  refine Tr.aload_n (pc := 31) (i := 0) d_X12_add_31 rfl rfl ?_
  refine Tr.getf (pc := 32) d_X12_add_32 f_12_121 (by decide) (by decide) (show mT (wr M0 143 (0 + n) a1) 120 = (12, 121) from ty_120 (M := M0) hS.1.1) ?_
  refine Tr.tp n ((rd_wb _ rfl).trans hn) ?_
  refine Tr.iadd (pc := 35) d_X12_add_35 ?_
  refine Tr.tp (0 + n) (w32_id (by omega)) ?_
  refine Tr.iload_n (pc := 36) (i := 2) d_X12_add_36 rfl rfl ?_
  refine Tr.iastS (pc := 37) (P := fun M1 => St Tru ws_X12_add_120_w5 as_X12_add_120_w5 M0 M1) d_X12_add_37 (show mT (wr M0 143 (0 + n) a1) 144 = (20, 1800) from ty_144 (M := M0) hS.1.1) (by omega) (by omega) (St.two (x := 143) (y := 144) 96 97 hS.wk (by decide) hp0 (by decide) (by decide) rfl (by decide +kernel) (by decide +kernel) (by decide +kernel) (by omega) rfl (by decide +kernel) (by decide +kernel) (by decide +kernel) (by omega) trivial) (fun M37 hS9 w37 => ?_)
  have ho : ∀ y j : Int, ¬ (y = 143 ∧ j = 0 + n) → y ≠ 144 → rd M37 y j = rd M0 y j := fun y j c1 c2 => by rw [w37.2 _ _ (fun d => c2 d.1), rd_wn _ c1]
  have e1 : rd M37 143 (0 + n) = a1 := by rw [w37.2 _ _ (fun d => absurd d.1 (by decide)), rd_ws]
  have hA := Pm0_add (w := 0) hI.2.2.2.2 hI.2.1 hn (by omega) (by omega) e1 ho (fun c => by omega) (fun c c2 => by omega)
  refine Tr.aload_n (pc := 38) (i := 0) d_X12_add_38 rfl rfl ?_
  refine Tr.dup (pc := 39) d_X12_add_39 ne21 ?_
  refine Tr.getf (pc := 40) d_X12_add_40 f_12_121 (by decide) (by decide) (ty_120 hS9.1.1) ?_
  refine Tr.tp n ((ho 120 36 (fun d => absurd d.1 (by decide)) (by decide)).trans hn) ?_
  refine Tr.iconst (pc := 43) d_X12_add_43 (by decide) ?_
  refine Tr.iadd (pc := 44) d_X12_add_44 ?_
  refine Tr.tp (n + 1) (w32_id (by omega)) ?_
  have hS8 : St Tru ws_X12_add_120_w5 as_X12_add_120_w5 M0 (wr M37 120 36 (n + 1)) := st_120_36 hS9 (by decide) (by omega) trivial
  have hq := hA.2
  have hl := dl_c a1
  have hc : rd (wr M37 120 36 (n + 1)) 120 36 = n + 1 := rd_ws _ _ _ _
  refine Tr.putf (pc := 45) d_X12_add_45 f_12_121 (by decide) (by decide) (ty_120 hS9.1.1) ?_
  exact Tr.vret (pc := 48) d_X12_add_48 rfl ⟨St.rn hS8 hA.1, rfl, by omega, by omega⟩

set_option maxRecDepth 100000 in
set_option maxHeartbeats 4000000 in
theorem ns_X12_add_120_w5 {l : Launch} {K : EC} {M0 : Mem} {G120_36 G136_0 G9003_0 : Int} (hI : In Pm0 M0) (k120_36 : rd M0 120 36 = G120_36) (k136_0 : rd M0 136 0 = G136_0) (k9003_0 : Dv0 M0 = G9003_0) (en_120_37 : rd M0 120 37 = 0) (a1 : Int) (ha1 : (-2147483648) ≤ a1 ∧ a1 ≤ 2147483647) (a2 : Int) (ha2 : (-2147483648) ≤ a2 ∧ a2 ≤ 2147483647) (hp0 : (a1 = 1 → 0 ≤ a2 ∧ a2 ≤ 2) ∧ (a1 = 2 ∨ a1 = 4 → 0 ≤ a2 ∧ a2 ≤ 5)) (hq0 : G120_36 ≤ 899) (hq1 : 1 ≤ G136_0) (hq2 : a1 ≤ 5 ∨ 1 ≤ G9003_0) (hq3 : a1 ≤ 5 ∨ a1 = 18 ∨ 2 ≤ G9003_0) : Tr l K 0 mX12_add 0 [(0, (2, 120)), (1, (0, a1)), (2, (0, a2))] [] M0 (fun M' r => St Pm0 ws_X12_add_120_w5 as_X12_add_120_w5 M0 M' ∧ ∃ S120_36 S9003_0 : Int, rd M' 120 36 = S120_36 ∧ (0 ≤ S120_36 ∧ S120_36 ≤ 900) ∧ Dv0 M' = S9003_0 ∧ ((-1000) ≤ S9003_0 ∧ S9003_0 ≤ 1000) ∧ r = none ∧ (S120_36 = G120_36 + 1) ∧ Hd ((a1 ≤ 5 ∧ S9003_0 = G9003_0 + 1) ∨ (a1 = 18 ∧ S9003_0 = G9003_0) ∨ (5 < a1 ∧ a1 ≠ 18 ∧ S9003_0 = G9003_0 - 1))) := by
  subst k120_36
  subst k136_0
  subst k9003_0
  refine Tr.imp (sp_X12_add_120_w5 hI en_120_37 a1 ha1 a2 ha2 hp0 hq0 hq1 hq2 hq3) ?_
  rintro M' _ ⟨hS, rfl, z0, z1⟩
  exact ⟨hS, _, _, rfl, ir_120_36 hS.1.2.1, rfl, (Dv0_b hS.1.2.1), rfl, z0, hd_i z1⟩

def ws_X12_add_120_w6 : List (Int × Int) := [(120, 36)]
def as_X12_add_120_w6 : List Int := [143, 144]
def q_X12_add_120_w6 (a1 a2 : Int) (M0 M' : Mem) (r : Option PV) : Prop := St Pm0 ws_X12_add_120_w6 as_X12_add_120_w6 M0 M' ∧ r = none ∧ (rd M' 120 36 = rd M0 120 36 + 1) ∧ ((a1 ≤ 5 ∧ Dv0 M' = Dv0 M0 + 1) ∨ (a1 = 18 ∧ Dv0 M' = Dv0 M0) ∨ (5 < a1 ∧ a1 ≠ 18 ∧ Dv0 M' = Dv0 M0 - 1))
set_option maxRecDepth 100000 in
set_option maxHeartbeats 4000000 in
theorem sp_X12_add_120_w6 {l : Launch} {K : EC} {M0 : Mem} (hI : In Pm0 M0) (en_120_37 : rd M0 120 37 = 0) (a1 : Int) (ha1 : -2147483648 ≤ a1 ∧ a1 ≤ 2147483647) (a2 : Int) (ha2 : -2147483648 ≤ a2 ∧ a2 ≤ 2147483647) (hp0 : (a1 = 1 → 0 ≤ a2 ∧ a2 ≤ 2) ∧ (a1 = 2 ∨ a1 = 4 → 0 ≤ a2 ∧ a2 ≤ 5)) (hq0 : rd M0 120 36 ≤ 899) (hq1 : 1 ≤ rd M0 136 0) (hq2 : a1 ≤ 5 ∨ 1 ≤ Dv0 M0) (hq3 : a1 ≤ 5 ∨ a1 = 18 ∨ 2 ≤ Dv0 M0) : Tr l K 0 mX12_add 0 [(0, (2, 120)), (1, (0, a1)), (2, (0, a2))] [] M0 (q_X12_add_120_w6 a1 a2 M0) := by
  have hS : St Pm0 ws_X12_add_120_w6 as_X12_add_120_w6 M0 M0 := St.rf hI
  obtain ⟨n, hn⟩ : ∃ v, rd M0 120 36 = v := ⟨_, rfl⟩
  have hb := ir_120_36 hI.2.1
  refine Tr.aload_n (pc := 0) (i := 0) d_X12_add_0 rfl rfl ?_
  refine Tr.getf (pc := 1) d_X12_add_1 f_12_115 (by decide) (by decide) (ty_120 hS.1.1) ?_
  refine Tr.tp 143 (fx_120_34 hS.1.1) ?_
  refine Tr.sipush (pc := 4) d_X12_add_4 rfl (by decide) ?_
  refine Tr.aload_n (pc := 7) (i := 0) d_X12_add_7 rfl rfl ?_
  refine Tr.getf (pc := 8) d_X12_add_8 f_12_124 (by decide) (by decide) (ty_120 hS.1.1) ?_
  refine Tr.tp 0 en_120_37 ?_
  refine Tr.imul (pc := 11) d_X12_add_11 ?_
  refine Tr.tp 0 (by decide) ?_
  refine Tr.aload_n (pc := 12) (i := 0) d_X12_add_12 rfl rfl ?_
  refine Tr.getf (pc := 13) d_X12_add_13 f_12_121 (by decide) (by decide) (ty_120 hS.1.1) ?_
  refine Tr.tp n hn ?_
  refine Tr.iadd (pc := 16) d_X12_add_16 ?_
  refine Tr.tp (0 + n) (w32_id (by omega)) ?_
  refine Tr.iload_n (pc := 17) (i := 1) d_X12_add_17 rfl rfl ?_
  refine Tr.iast (pc := 18) d_X12_add_18 (ty_143 hS.1.1) (by omega) (by omega) ?_
  refine Tr.aload_n (pc := 19) (i := 0) d_X12_add_19 rfl rfl ?_
  refine Tr.getf (pc := 20) d_X12_add_20 f_12_118 (by decide) (by decide) (show mT (wr M0 143 (0 + n) a1) 120 = (12, 121) from ty_120 (M := M0) hS.1.1) ?_
  refine Tr.tp 144 ((rd_wb _ rfl).trans (fx_120_35 (M := M0) hS.1.1)) ?_
  refine Tr.sipush (pc := 23) d_X12_add_23 rfl (by decide) ?_
  refine Tr.aload_n (pc := 26) (i := 0) d_X12_add_26 rfl rfl ?_
  refine Tr.getf (pc := 27) d_X12_add_27 f_12_124 (by decide) (by decide) (show mT (wr M0 143 (0 + n) a1) 120 = (12, 121) from ty_120 (M := M0) hS.1.1) ?_
  refine Tr.tp 0 ((rd_wb _ rfl).trans en_120_37) ?_
  refine Tr.imul (pc := 30) d_X12_add_30 ?_
  refine Tr.tp 0 (by decide) ?_
  refine Tr.aload_n (pc := 31) (i := 0) d_X12_add_31 rfl rfl ?_
  refine Tr.getf (pc := 32) d_X12_add_32 f_12_121 (by decide) (by decide) (show mT (wr M0 143 (0 + n) a1) 120 = (12, 121) from ty_120 (M := M0) hS.1.1) ?_
  refine Tr.tp n ((rd_wb _ rfl).trans hn) ?_
  refine Tr.iadd (pc := 35) d_X12_add_35 ?_
  refine Tr.tp (0 + n) (w32_id (by omega)) ?_
  refine Tr.iload_n (pc := 36) (i := 2) d_X12_add_36 rfl rfl ?_
  refine Tr.iastS (pc := 37) (P := fun M1 => St Tru ws_X12_add_120_w6 as_X12_add_120_w6 M0 M1) d_X12_add_37 (show mT (wr M0 143 (0 + n) a1) 144 = (20, 1800) from ty_144 (M := M0) hS.1.1) (by omega) (by omega) (St.two (x := 143) (y := 144) 96 97 hS.wk (by decide) hp0 (by decide) (by decide) rfl (by decide +kernel) (by decide +kernel) (by decide +kernel) (by omega) rfl (by decide +kernel) (by decide +kernel) (by decide +kernel) (by omega) trivial) (fun M37 hS9 w37 => ?_)
  have ho : ∀ y j : Int, ¬ (y = 143 ∧ j = 0 + n) → y ≠ 144 → rd M37 y j = rd M0 y j := fun y j c1 c2 => by rw [w37.2 _ _ (fun d => c2 d.1), rd_wn _ c1]
  have e1 : rd M37 143 (0 + n) = a1 := by rw [w37.2 _ _ (fun d => absurd d.1 (by decide)), rd_ws]
  have hA := Pm0_add (w := 0) hI.2.2.2.2 hI.2.1 hn (by omega) (by omega) e1 ho (fun c => by omega) (fun c c2 => by omega)
  refine Tr.aload_n (pc := 38) (i := 0) d_X12_add_38 rfl rfl ?_
  refine Tr.dup (pc := 39) d_X12_add_39 ne21 ?_
  refine Tr.getf (pc := 40) d_X12_add_40 f_12_121 (by decide) (by decide) (ty_120 hS9.1.1) ?_
  refine Tr.tp n ((ho 120 36 (fun d => absurd d.1 (by decide)) (by decide)).trans hn) ?_
  refine Tr.iconst (pc := 43) d_X12_add_43 (by decide) ?_
  refine Tr.iadd (pc := 44) d_X12_add_44 ?_
  refine Tr.tp (n + 1) (w32_id (by omega)) ?_
  have hS8 : St Tru ws_X12_add_120_w6 as_X12_add_120_w6 M0 (wr M37 120 36 (n + 1)) := st_120_36 hS9 (by decide) (by omega) trivial
  have hq := hA.2
  have hl := dl_c a1
  have hc : rd (wr M37 120 36 (n + 1)) 120 36 = n + 1 := rd_ws _ _ _ _
  refine Tr.putf (pc := 45) d_X12_add_45 f_12_121 (by decide) (by decide) (ty_120 hS9.1.1) ?_
  exact Tr.vret (pc := 48) d_X12_add_48 rfl ⟨St.rn hS8 hA.1, rfl, by omega, by omega⟩
