def ws_X12_spot_120 : List (Int × Int) := [(136, 1)]
def as_X12_spot_120 : List Int := [137, 138, 139, 140, 141, 142]
def q_X12_spot_120 (a1 : Int) (a2 : Int) (M0 M' : Mem) (r : Option PV) : Prop := St Pm1 ws_X12_spot_120 as_X12_spot_120 M0 M' ∧ ∃ v : Int, r = some (0, v) ∧ 200 ≤ v ∧ v ≤ 399 ∧ (rd M' 136 1 = rd M0 136 1 + 1) ∧ (v = 200 + rd M0 136 1) ∧ (∀ j : Int, j < 200 + rd M0 136 1 → rd M' 137 j = rd M0 137 j) ∧ (rd M' 137 (200 + rd M0 136 1) = a1)
set_option maxRecDepth 100000 in
set_option maxHeartbeats 4000000 in
theorem sp_X12_spot_120 {l : Launch} {K : EC} {M0 : Mem} (hI : In Pm1 M0) (en_120_37 : rd M0 120 37 = 1) (a1 : Int) (ha1 : 0 ≤ a1 ∧ a1 ≤ 8) (a2 : Int) (ha2 : (-1) ≤ a2 ∧ a2 ≤ 59)  (hq0 : rd M0 136 1 ≤ 199) (hq1 : a1 ≠ 0 ∨ 1 ≤ rd M0 136 1) (hq2 : a1 = 0 ∨ 0 ≤ a2) : Tr l K 0 mX12_spot 0 [(0, (2, 120)), (1, (0, a1)), (2, (0, a2))] [] M0 (q_X12_spot_120 a1 a2 M0) := by
  have hS : St Pm1 ws_X12_spot_120 as_X12_spot_120 M0 M0 := St.rf hI
  obtain ⟨g136_1, eg136_1⟩ : ∃ v, rd M0 136 1 = v := ⟨_, rfl⟩
  have bg136_1 : 0 ≤ g136_1 ∧ g136_1 ≤ 200 := by rw [← eg136_1]; exact ir_136_1 hI.2.1
  obtain ⟨g120_36, eg120_36⟩ : ∃ v, rd M0 120 36 = v := ⟨_, rfl⟩
  have bg120_36 : 0 ≤ g120_36 ∧ g120_36 ≤ 900 := by rw [← eg120_36]; exact ir_120_36 hI.2.1
  replace hq1 := hd_i hq1
  replace hq2 := hd_i hq2
  refine Tr.sipush (pc := 0) d_X12_spot_0 rfl (by decide) ?_
  refine Tr.aload_n (pc := 3) (i := 0) d_X12_spot_3 rfl rfl ?_
  refine Tr.getf (pc := 4) d_X12_spot_4 f_12_124 (by decide) (by decide) (ty_120 hS.1.1) ?_
  refine Tr.tp 1 ((St.kp hS (by decide) (by decide) (by decide)).trans en_120_37) ?_
  refine Tr.imul (pc := 7) d_X12_spot_7 ?_
  refine Tr.tp 200 (by decide) ?_
  refine Tr.aload_n (pc := 8) (i := 0) d_X12_spot_8 rfl rfl ?_
  refine Tr.getf (pc := 9) d_X12_spot_9 f_12_94 (by decide) (by decide) (ty_120 hS.1.1) ?_
  refine Tr.tp 136 (fx_120_27 hS.1.1) ?_
  refine Tr.aload_n (pc := 12) (i := 0) d_X12_spot_12 rfl rfl ?_
  refine Tr.getf (pc := 13) d_X12_spot_13 f_12_124 (by decide) (by decide) (ty_120 hS.1.1) ?_
  refine Tr.tp 1 ((St.kp hS (by decide) (by decide) (by decide)).trans en_120_37) ?_
  refine Tr.iald (pc := 16) d_X12_spot_16 (ty_136 hS.1.1) (by omega) (by omega) ?_
  refine Tr.tp g136_1 eg136_1 ?_
  refine Tr.iadd (pc := 17) d_X12_spot_17 ?_
  refine Tr.tp (g136_1 + 200) ((w32_id (by and_intros <;> omega)).trans (by omega)) ?_
  refine Tr.istore_n (pc := 18) (i := 3) (ls2 := [(3, (0, (g136_1 + 200))), (0, (2, 120)), (1, (0, a1)), (2, (0, a2))]) d_X12_spot_18 rfl (by decide) rfl ?_
  refine Tr.aload_n (pc := 19) (i := 0) d_X12_spot_19 rfl rfl ?_
  refine Tr.getf (pc := 20) d_X12_spot_20 f_12_97 (by decide) (by decide) (ty_120 hS.1.1) ?_
  refine Tr.tp 137 (fx_120_28 hS.1.1) ?_
  refine Tr.iload_n (pc := 23) (i := 3) d_X12_spot_23 rfl rfl ?_
  refine Tr.iload_n (pc := 24) (i := 1) d_X12_spot_24 rfl rfl ?_
  refine Tr.iastS (pc := 25) (P := St Pm1 ws_X12_spot_120 as_X12_spot_120 M0) d_X12_spot_25 (ty_137 hS.1.1) (by omega) (by omega) (sa_137 hS (by decide) (by and_intros <;> omega) (Pm1_free hS.1.2.2.2.2 hS.1.2.1 (by omega) (by omega) (by omega))) (fun M25 hS w25 => ?_)
  refine Tr.aload_n (pc := 26) (i := 0) d_X12_spot_26 rfl rfl ?_
  refine Tr.getf (pc := 27) d_X12_spot_27 f_12_100 (by decide) (by decide) (ty_120 hS.1.1) ?_
  refine Tr.tp 138 (fx_120_29 hS.1.1) ?_
  refine Tr.iload_n (pc := 30) (i := 3) d_X12_spot_30 rfl rfl ?_
  refine Tr.iload_n (pc := 31) (i := 2) d_X12_spot_31 rfl rfl ?_
  refine Tr.iastS (pc := 32) (P := St Pm1 ws_X12_spot_120 as_X12_spot_120 M0) d_X12_spot_32 (ty_138 hS.1.1) (by omega) (by omega) (sa_138 hS (by decide) (by and_intros <;> omega) (Pm1_free hS.1.2.2.2.2 hS.1.2.1 (by omega) (by omega) (by omega))) (fun M32 hS w32 => ?_)
  refine Tr.aload_n (pc := 33) (i := 0) d_X12_spot_33 rfl rfl ?_
  refine Tr.getf (pc := 34) d_X12_spot_34 f_12_103 (by decide) (by decide) (ty_120 hS.1.1) ?_
  refine Tr.tp 139 (fx_120_30 hS.1.1) ?_
  refine Tr.iload_n (pc := 37) (i := 3) d_X12_spot_37 rfl rfl ?_
  refine Tr.iconst (pc := 38) d_X12_spot_38 (by decide) ?_
  refine Tr.iastS (pc := 39) (P := St Pm1 ws_X12_spot_120 as_X12_spot_120 M0) d_X12_spot_39 (ty_139 hS.1.1) (by omega) (by omega) (sa_139 hS (by decide) (by omega) (Pm1_free hS.1.2.2.2.2 hS.1.2.1 (by omega) (by omega) (by omega))) (fun M39 hS w39 => ?_)
  refine Tr.aload_n (pc := 40) (i := 0) d_X12_spot_40 rfl rfl ?_
  refine Tr.getf (pc := 41) d_X12_spot_41 f_12_106 (by decide) (by decide) (ty_120 hS.1.1) ?_
  refine Tr.tp 140 (fx_120_31 hS.1.1) ?_
  refine Tr.iload_n (pc := 44) (i := 3) d_X12_spot_44 rfl rfl ?_
  refine Tr.aload_n (pc := 45) (i := 0) d_X12_spot_45 rfl rfl ?_
  refine Tr.getf (pc := 46) d_X12_spot_46 f_12_121 (by decide) (by decide) (ty_120 hS.1.1) ?_
  refine Tr.tp g120_36 ((Wr.b w39 rfl).trans ((Wr.b w32 rfl).trans ((Wr.b w25 rfl).trans eg120_36))) ?_
  refine Tr.iastS (pc := 49) (P := St Pm1 ws_X12_spot_120 as_X12_spot_120 M0) d_X12_spot_49 (ty_140 hS.1.1) (by omega) (by omega) (sa_140 hS (by decide) (by and_intros <;> omega) (Pm1_free hS.1.2.2.2.2 hS.1.2.1 (by omega) (by omega) (by omega))) (fun M49 hS w49 => ?_)
  refine Tr.aload_n (pc := 50) (i := 0) d_X12_spot_50 rfl rfl ?_
  refine Tr.getf (pc := 51) d_X12_spot_51 f_12_109 (by decide) (by decide) (ty_120 hS.1.1) ?_
  refine Tr.tp 141 (fx_120_32 hS.1.1) ?_
  refine Tr.iload_n (pc := 54) (i := 3) d_X12_spot_54 rfl rfl ?_
  refine Tr.aload_n (pc := 55) (i := 0) d_X12_spot_55 rfl rfl ?_
  refine Tr.getf (pc := 56) d_X12_spot_56 f_12_121 (by decide) (by decide) (ty_120 hS.1.1) ?_
  refine Tr.tp g120_36 ((Wr.b w49 rfl).trans ((Wr.b w39 rfl).trans ((Wr.b w32 rfl).trans ((Wr.b w25 rfl).trans eg120_36)))) ?_
  refine Tr.iastS (pc := 59) (P := St Pm1 ws_X12_spot_120 as_X12_spot_120 M0) d_X12_spot_59 (ty_141 hS.1.1) (by omega) (by omega) (sa_141 hS (by decide) (by and_intros <;> omega) (Pm1_free hS.1.2.2.2.2 hS.1.2.1 (by omega) (by omega) (by omega))) (fun M59 hS w59 => ?_)
  refine Tr.aload_n (pc := 60) (i := 0) d_X12_spot_60 rfl rfl ?_
  refine Tr.getf (pc := 61) d_X12_spot_61 f_12_112 (by decide) (by decide) (ty_120 hS.1.1) ?_
  refine Tr.tp 142 (fx_120_33 hS.1.1) ?_
  refine Tr.iload_n (pc := 64) (i := 3) d_X12_spot_64 rfl rfl ?_
  refine Tr.iconst (pc := 65) d_X12_spot_65 (by decide) ?_
  refine Tr.iastS (pc := 66) (P := St Pm1 ws_X12_spot_120 as_X12_spot_120 M0) d_X12_spot_66 (ty_142 hS.1.1) (by omega) (by omega) (sa_142 hS (by decide) (by omega) (Pm1_free hS.1.2.2.2.2 hS.1.2.1 (by omega) (by omega) (by omega))) (fun M66 hS w66 => ?_)
  refine Tr.aload_n (pc := 67) (i := 0) d_X12_spot_67 rfl rfl ?_
  refine Tr.getf (pc := 68) d_X12_spot_68 f_12_94 (by decide) (by decide) (ty_120 hS.1.1) ?_
  refine Tr.tp 136 (fx_120_27 hS.1.1) ?_
  refine Tr.aload_n (pc := 71) (i := 0) d_X12_spot_71 rfl rfl ?_
  refine Tr.getf (pc := 72) d_X12_spot_72 f_12_124 (by decide) (by decide) (ty_120 hS.1.1) ?_
  refine Tr.tp 1 ((St.kp hS (by decide) (by decide) (by decide)).trans en_120_37) ?_
  refine Tr.dup2 (pc := 75) d_X12_spot_75 ne01 ne21 ?_
  refine Tr.iald (pc := 76) d_X12_spot_76 (ty_136 hS.1.1) (by omega) (by omega) ?_
  refine Tr.tp g136_1 ((Wr.b w66 rfl).trans ((Wr.b w59 rfl).trans ((Wr.b w49 rfl).trans ((Wr.b w39 rfl).trans ((Wr.b w32 rfl).trans ((Wr.b w25 rfl).trans eg136_1)))))) ?_
  refine Tr.iconst (pc := 77) d_X12_spot_77 (by decide) ?_
  refine Tr.iadd (pc := 78) d_X12_spot_78 ?_
  refine Tr.tp (g136_1 + 1) ((w32_id (by and_intros <;> omega)).trans (by omega)) ?_
  refine Tr.iastS (pc := 79) (P := St Pm1 ws_X12_spot_120 as_X12_spot_120 M0) d_X12_spot_79 (ty_136 hS.1.1) (by omega) (by omega) (st_136_1 hS (by decide) (by and_intros <;> omega) (Pm1_spot hS.1.2.2.2.2 hS.1.2.1 (by have e9 := ((Wr.b w66 rfl).trans ((Wr.b w59 rfl).trans ((Wr.b w49 rfl).trans ((Wr.b w39 rfl).trans ((Wr.b w32 rfl).trans ((Wr.b w25 rfl).trans eg136_1)))))); omega) ((show rd M66 137 (200 + rd M66 136 1) = rd M66 137 (g136_1 + 200) from congrArg _ (by have e9 := ((Wr.b w66 rfl).trans ((Wr.b w59 rfl).trans ((Wr.b w49 rfl).trans ((Wr.b w39 rfl).trans ((Wr.b w32 rfl).trans ((Wr.b w25 rfl).trans eg136_1)))))); omega)).trans (((Wr.b w66 rfl).trans ((Wr.b w59 rfl).trans ((Wr.b w49 rfl).trans ((Wr.b w39 rfl).trans ((Wr.b w32 rfl).trans w25.1))))))) ((show rd M66 138 (200 + rd M66 136 1) = rd M66 138 (g136_1 + 200) from congrArg _ (by have e9 := ((Wr.b w66 rfl).trans ((Wr.b w59 rfl).trans ((Wr.b w49 rfl).trans ((Wr.b w39 rfl).trans ((Wr.b w32 rfl).trans ((Wr.b w25 rfl).trans eg136_1)))))); omega)).trans (((Wr.b w66 rfl).trans ((Wr.b w59 rfl).trans ((Wr.b w49 rfl).trans ((Wr.b w39 rfl).trans w32.1)))))) ((show rd M66 139 (200 + rd M66 136 1) = rd M66 139 (g136_1 + 200) from congrArg _ (by have e9 := ((Wr.b w66 rfl).trans ((Wr.b w59 rfl).trans ((Wr.b w49 rfl).trans ((Wr.b w39 rfl).trans ((Wr.b w32 rfl).trans ((Wr.b w25 rfl).trans eg136_1)))))); omega)).trans (((Wr.b w66 rfl).trans ((Wr.b w59 rfl).trans ((Wr.b w49 rfl).trans w39.1))))) ((show rd M66 140 (200 + rd M66 136 1) = rd M66 140 (g136_1 + 200) from congrArg _ (by have e9 := ((Wr.b w66 rfl).trans ((Wr.b w59 rfl).trans ((Wr.b w49 rfl).trans ((Wr.b w39 rfl).trans ((Wr.b w32 rfl).trans ((Wr.b w25 rfl).trans eg136_1)))))); omega)).trans (((Wr.b w66 rfl).trans ((Wr.b w59 rfl).trans w49.1)))) ((show rd M66 141 (200 + rd M66 136 1) = rd M66 141 (g136_1 + 200) from congrArg _ (by have e9 := ((Wr.b w66 rfl).trans ((Wr.b w59 rfl).trans ((Wr.b w49 rfl).trans ((Wr.b w39 rfl).trans ((Wr.b w32 rfl).trans ((Wr.b w25 rfl).trans eg136_1)))))); omega)).trans (((Wr.b w66 rfl).trans w59.1))) ((show rd M66 142 (200 + rd M66 136 1) = rd M66 142 (g136_1 + 200) from congrArg _ (by have e9 := ((Wr.b w66 rfl).trans ((Wr.b w59 rfl).trans ((Wr.b w49 rfl).trans ((Wr.b w39 rfl).trans ((Wr.b w32 rfl).trans ((Wr.b w25 rfl).trans eg136_1)))))); omega)).trans (w66.1)) (((Wr.b w66 rfl).trans ((Wr.b w59 rfl).trans ((Wr.b w49 rfl).trans ((Wr.b w39 rfl).trans ((Wr.b w32 rfl).trans ((Wr.b w25 rfl).trans eg120_36))))))) (fun c => by have e9 := ((Wr.b w66 rfl).trans ((Wr.b w59 rfl).trans ((Wr.b w49 rfl).trans ((Wr.b w39 rfl).trans ((Wr.b w32 rfl).trans ((Wr.b w25 rfl).trans eg136_1)))))); omega) (fun c => by omega))) (fun M79 hS w79 => ?_)
  refine Tr.iload_n (pc := 80) (i := 3) d_X12_spot_80 rfl rfl ?_
  have kr_136_1 : rd M79 136 1 = (g136_1 + 1) := w79.1
  exact Tr.iret (pc := 81) d_X12_spot_81 rfl ⟨hS, _, rfl, (by omega), (by omega), (by omega), (by omega), (fun j hj => ((Wr.b w79 rfl).trans ((Wr.b w66 rfl).trans ((Wr.b w59 rfl).trans ((Wr.b w49 rfl).trans ((Wr.b w39 rfl).trans ((Wr.b w32 rfl).trans (w25.2 _ _ (fun c => by have := c.2; omega))))))))), ((show _ = _ from congrArg _ (by omega)).trans (((Wr.b w79 rfl).trans ((Wr.b w66 rfl).trans ((Wr.b w59 rfl).trans ((Wr.b w49 rfl).trans ((Wr.b w39 rfl).trans ((Wr.b w32 rfl).trans w25.1))))))))⟩

def ws_X12_asked_120 : List (Int × Int) := [(120, 3), (120, 4), (120, 5), (120, 6), (120, 7), (120, 8), (120, 9)]
def as_X12_asked_120 : List Int := []
def q_X12_asked_120 (a1 : Int) (M0 M' : Mem) (r : Option PV) : Prop := St Pm1 ws_X12_asked_120 as_X12_asked_120 M0 M' ∧ ∃ v : Int, r = some (0, v) ∧ (-1) ≤ v ∧ v ≤ 5 ∧ (rd M' 120 3 = 0 ∨ rd M' 120 4 + 1 ≤ rd M' 120 5) ∧ (rd M' 120 4 ≤ rd M' 120 5) ∧ (rd M' 120 3 ≠ 1 ∨ rd M' 120 4 + 2 ≤ rd M' 120 5 ∨ rd M' 120 7 < 256) ∧ (rd M0 120 4 ≤ rd M' 120 4 ∧ rd M0 120 5 ≤ rd M' 120 5 ∧ tav M0 ≤ tav M') ∧ (rd M0 120 8 = 0 ∨ rd M' 120 8 = rd M0 120 8) ∧ (1 ≤ rd M' 120 8 ∨ tav M0 < tav M') ∧ (1 ≤ rd M' 120 8 ∨ (0 ≤ v ∧ v ≤ 5))
set_option maxRecDepth 100000 in
set_option maxHeartbeats 4000000 in
theorem sp_X12_asked_120 {l : Launch} {K : EC} {M0 : Mem} (hI : In Pm1 M0) (en_120_37 : rd M0 120 37 = 1) (a1 : Int) (ha1 : 0 ≤ a1 ∧ a1 ≤ 1)  (hq0 : rd M0 120 3 = 0 ∨ rd M0 120 4 + 1 ≤ rd M0 120 5) (hq1 : rd M0 120 4 ≤ rd M0 120 5) (hq2 : rd M0 120 3 ≠ 1 ∨ rd M0 120 4 + 2 ≤ rd M0 120 5 ∨ rd M0 120 7 < 256) : Tr l K 2 mX12_asked 0 [(0, (2, 120)), (1, (0, a1))] [] M0 (q_X12_asked_120 a1 M0) := by
  have hS : St Pm1 ws_X12_asked_120 as_X12_asked_120 M0 M0 := St.rf hI
  obtain ⟨g120_8, eg120_8⟩ : ∃ v, rd M0 120 8 = v := ⟨_, rfl⟩
  have bg120_8 : 0 ≤ g120_8 ∧ g120_8 ≤ 5 := by rw [← eg120_8]; exact ir_120_8 hI.2.1
  obtain ⟨g120_3, eg120_3⟩ : ∃ v, rd M0 120 3 = v := ⟨_, rfl⟩
  have bg120_3 : 0 ≤ g120_3 ∧ g120_3 ≤ 3 := by rw [← eg120_3]; exact ir_120_3 hI.2.1
  obtain ⟨g120_4, eg120_4⟩ : ∃ v, rd M0 120 4 = v := ⟨_, rfl⟩
  have bg120_4 : 0 ≤ g120_4 ∧ g120_4 ≤ 900 := by rw [← eg120_4]; exact ir_120_4 hI.2.1
  obtain ⟨g120_5, eg120_5⟩ : ∃ v, rd M0 120 5 = v := ⟨_, rfl⟩
  have bg120_5 : 0 ≤ g120_5 ∧ g120_5 ≤ 900 := by rw [← eg120_5]; exact ir_120_5 hI.2.1
  obtain ⟨g120_7, eg120_7⟩ : ∃ v, rd M0 120 7 = v := ⟨_, rfl⟩
  have bg120_7 : (-9223372036854775808) ≤ g120_7 ∧ g120_7 ≤ 9223372036854775807 := by rw [← eg120_7]; exact ir_120_7 hI.2.1
  obtain ⟨g9010_0, eg9010_0⟩ : ∃ v, tav M0 = v := ⟨_, rfl⟩
  have bg9010_0 : (-1) ≤ g9010_0 ∧ g9010_0 ≤ 1800 := by rw [← eg9010_0]; exact (tav_b hI.2.1)
  replace hq0 := hd_i hq0
  replace hq2 := hd_i hq2
  refine Tr.aload_n (pc := 0) (i := 0) d_X12_asked_0 rfl rfl ?_
  refine Tr.getf (pc := 1) d_X12_asked_1 f_12_36 (by decide) (by decide) (ty_120 hS.1.1) ?_
  refine Tr.tp g120_8 eg120_8 ?_
  refine Tr.if_le (pc := 4) (tgt := 9) d_X12_asked_4 rfl (fun c4 => ?_) (fun c4 => ?_)
  · refine Tr.aload_n (pc := 9) (i := 0) d_X12_asked_9 rfl rfl ?_
    refine Tr.getf (pc := 10) d_X12_asked_10 f_12_20 (by decide) (by decide) (ty_120 hS.1.1) ?_
    refine Tr.tp g120_3 eg120_3 ?_
    refine Tr.iconst (pc := 13) d_X12_asked_13 (by decide) ?_
    have J37 : ∀ (M : Mem) (u37_120_8 : Int), St Pm1 ws_X12_asked_120 as_X12_asked_120 M0 M → (0 ≤ u37_120_8 ∧ u37_120_8 ≤ 5) → rd M 120 3 = g120_3 → rd M 120 4 = g120_4 → rd M 120 5 = g120_5 → rd M 120 7 = g120_7 → rd M 120 8 = u37_120_8 → tav M = g9010_0 → (u37_120_8 ≠ 0 ∨ g120_3 ≠ 0) → (g120_8 = 0) → Tr l K 2 mX12_asked 37 [(0, (2, 120)), (1, (0, a1))] [] M (q_X12_asked_120 a1 M0) := by
      intro M u37_120_8 hS bu37_120_8 k37_120_3 k37_120_4 k37_120_5 k37_120_7 k37_120_8 k37_9010_0 t37_0 t37_1
      replace t37_0 := hd_i t37_0
      refine Tr.aload_n (pc := 37) (i := 0) d_X12_asked_37 rfl rfl ?_
      refine Tr.getf (pc := 38) d_X12_asked_38 f_12_36 (by decide) (by decide) (ty_120 hS.1.1) ?_
      refine Tr.tp u37_120_8 k37_120_8 ?_
      have J71 : ∀ (M : Mem) (q71_0 : Int), St Pm1 ws_X12_asked_120 as_X12_asked_120 M0 M → ((-1) ≤ q71_0 ∧ q71_0 ≤ 5) → rd M 120 3 = g120_3 → rd M 120 4 = g120_4 → rd M 120 5 = g120_5 → rd M 120 7 = g120_7 → rd M 120 8 = u37_120_8 → tav M = g9010_0 → (u37_120_8 ≠ 0 ∨ g120_3 ≠ 0) → (g120_8 = 0) → (u37_120_8 ≠ 0 ∨ (-1 ≤ q71_0 ∧ q71_0 ≤ 5)) → Tr l K 2 mX12_asked 71 [(0, (2, 120))] [(0, q71_0)] M (q_X12_asked_120 a1 M0) := by
        intro M q71_0 hS bq71_0 k71_120_3 k71_120_4 k71_120_5 k71_120_7 k71_120_8 k71_9010_0 t71_0 t71_1 t71_2
        clear k37_120_3 k37_120_4 k37_120_5 k37_120_7 k37_120_8 k37_9010_0
        replace t71_0 := hd_i t71_0
        replace t71_2 := hd_i t71_2
        refine Tr.istore_n (pc := 71) (i := 2) (ls2 := [(2, (0, q71_0)), (0, (2, 120))]) d_X12_asked_71 rfl (by decide) rfl ?_
        refine Tr.aload_n (pc := 72) (i := 0) d_X12_asked_72 rfl rfl ?_
        refine Tr.getf (pc := 73) d_X12_asked_73 f_12_36 (by decide) (by decide) (ty_120 hS.1.1) ?_
        refine Tr.tp u37_120_8 k71_120_8 ?_
        have J93 : ∀ (M : Mem) (u93_120_8 : Int), St Pm1 ws_X12_asked_120 as_X12_asked_120 M0 M → (0 ≤ u93_120_8 ∧ u93_120_8 ≤ 5) → rd M 120 3 = g120_3 → rd M 120 4 = g120_4 → rd M 120 5 = g120_5 → rd M 120 7 = g120_7 → rd M 120 8 = u93_120_8 → tav M = g9010_0 → (u93_120_8 ≠ 0 ∨ g120_3 ≠ 0) → (g120_8 = 0) → (u93_120_8 ≠ 0 ∨ (0 ≤ q71_0 ∧ q71_0 ≤ 5)) → Tr l K 2 mX12_asked 93 [(0, (2, 120)), (2, (0, q71_0))] [] M (q_X12_asked_120 a1 M0) := by
          intro M u93_120_8 hS bu93_120_8 k93_120_3 k93_120_4 k93_120_5 k93_120_7 k93_120_8 k93_9010_0 t93_0 t93_1 t93_2
          clear k71_120_3 k71_120_4 k71_120_5 k71_120_7 k71_120_8 k71_9010_0
          replace t93_0 := hd_i t93_0
          replace t93_2 := hd_i t93_2
          refine Tr.aload_n (pc := 93) (i := 0) d_X12_asked_93 rfl rfl ?_
          refine Tr.getf (pc := 94) d_X12_asked_94 f_12_36 (by decide) (by decide) (ty_120 hS.1.1) ?_
          refine Tr.tp u93_120_8 k93_120_8 ?_
          refine Tr.if_ne (pc := 97) (tgt := 104) d_X12_asked_97 rfl (fun c97 => ?_) (fun c97 => ?_)
          · have c97b : 1 ≤ u93_120_8 ∧ u93_120_8 ≤ 5 := by omega
            replace c97 := hd_i c97
            refine Tr.iload_n (pc := 104) (i := 2) d_X12_asked_104 rfl rfl ?_
            have kr_120_3 : rd M 120 3 = g120_3 := k93_120_3
            have kr_120_4 : rd M 120 4 = g120_4 := k93_120_4
            have kr_120_5 : rd M 120 5 = g120_5 := k93_120_5
            have kr_120_7 : rd M 120 7 = g120_7 := k93_120_7
            have kr_120_8 : rd M 120 8 = u93_120_8 := k93_120_8
            have kr_9010_0 : tav M = g9010_0 := k93_9010_0
            exact Tr.iret (pc := 105) d_X12_asked_105 rfl ⟨hS, _, rfl, (by omega), (by omega), (by first | exact (hd_o hq0) | exact (hd_o hq0).elim (fun h1 => by omega) (fun h1 => by omega)), (by omega), (by first | exact (hd_o hq2) | exact (hd_o hq2).elim (fun h1 => by omega) (fun h1 => h1.elim (fun h1 => by omega) (fun h1 => by omega))), (by and_intros <;> omega), (by omega), (by omega), (by omega)⟩
          · refine Tr.aload_n (pc := 100) (i := 0) d_X12_asked_100 rfl rfl ?_
            refine Tr.callV (pc := 101) (as := []) d_X12_asked_101 s_12_396 ok_X12_next rfl rfl (Nat.le_of_ble_eq_true rfl) (Nat.le_of_ble_eq_true rfl) (by decide) (ty_120 hS.1.1) ?_
            have kb101_120_3 : rd M 120 3 = g120_3 := k93_120_3
            have kb101_120_5 : rd M 120 5 = g120_5 := k93_120_5
            have kb101_120_8 : rd M 120 8 = u93_120_8 := k93_120_8
            have kb101_9010_0 : tav M = g9010_0 := k93_9010_0
            refine Tr.imp (Tr.deep (by decide) (sp_X12_next_120 hS.1 )) ?_
            rintro M101 _ ⟨h101, rfl, z101_0, z101_1, z101_2, z101_3, z101_4, z101_5, z101_6⟩
            have hS := St.tr hS h101 (by decide) (by decide)
            obtain ⟨s101_120_3, es101_120_3⟩ : ∃ v, rd M101 120 3 = v := ⟨_, rfl⟩
            have bs101_120_3 : 0 ≤ s101_120_3 ∧ s101_120_3 ≤ 3 := by rw [← es101_120_3]; exact ir_120_3 hS.1.2.1
            obtain ⟨s101_120_4, es101_120_4⟩ : ∃ v, rd M101 120 4 = v := ⟨_, rfl⟩
            have bs101_120_4 : 0 ≤ s101_120_4 ∧ s101_120_4 ≤ 900 := by rw [← es101_120_4]; exact ir_120_4 hS.1.2.1
            obtain ⟨s101_120_5, es101_120_5⟩ : ∃ v, rd M101 120 5 = v := ⟨_, rfl⟩
            have bs101_120_5 : 0 ≤ s101_120_5 ∧ s101_120_5 ≤ 900 := by rw [← es101_120_5]; exact ir_120_5 hS.1.2.1
            obtain ⟨s101_120_7, es101_120_7⟩ : ∃ v, rd M101 120 7 = v := ⟨_, rfl⟩
            have bs101_120_7 : (-9223372036854775808) ≤ s101_120_7 ∧ s101_120_7 ≤ 9223372036854775807 := by rw [← es101_120_7]; exact ir_120_7 hS.1.2.1
            obtain ⟨s101_120_8, es101_120_8⟩ : ∃ v, rd M101 120 8 = v := ⟨_, rfl⟩
            have bs101_120_8 : 0 ≤ s101_120_8 ∧ s101_120_8 ≤ 5 := by rw [← es101_120_8]; exact ir_120_8 hS.1.2.1
            obtain ⟨s101_9010_0, es101_9010_0⟩ : ∃ v, tav M101 = v := ⟨_, rfl⟩
            have bs101_9010_0 : (-1) ≤ s101_9010_0 ∧ s101_9010_0 ≤ 1800 := by rw [← es101_9010_0]; exact (tav_b hS.1.2.1)
            replace z101_0 := hd_i z101_0
            replace z101_2 := hd_i z101_2
            replace z101_5 := hd_i z101_5
            replace z101_6 := hd_i z101_6
            refine Tr.sc [] rfl ?_
            refine Tr.iload_n (pc := 104) (i := 2) d_X12_asked_104 rfl rfl ?_
            have kr_120_3 : rd M101 120 3 = s101_120_3 := es101_120_3
            have kr_120_4 : rd M101 120 4 = s101_120_4 := es101_120_4
            have kr_120_5 : rd M101 120 5 = s101_120_5 := es101_120_5
            have kr_120_7 : rd M101 120 7 = s101_120_7 := es101_120_7
            have kr_120_8 : rd M101 120 8 = s101_120_8 := es101_120_8
            have kr_9010_0 : tav M101 = s101_9010_0 := es101_9010_0
            exact Tr.iret (pc := 105) d_X12_asked_105 rfl ⟨hS, _, rfl, (by omega), (by omega), (by first | exact (hd_o z101_0) | exact (hd_o z101_0).elim (fun h1 => by omega) (fun h1 => by omega)), (by omega), (by first | exact (hd_o z101_2) | exact (hd_o z101_2).elim (fun h1 => by omega) (fun h1 => h1.elim (fun h1 => by omega) (fun h1 => by omega))), (by and_intros <;> omega), (by omega), (by exact (hd_o t93_0).elim (fun h1 => (ne_o h1).elim (fun h2 => by omega) (fun h2 => by omega)) (fun h1 => (ne_o h1).elim (fun h2 => by omega) (fun h2 => (hd_o z101_5).elim (fun h3 => by omega) (fun h3 => by omega)))), (by exact (hd_o t93_2).elim (fun h1 => (ne_o h1).elim (fun h2 => by omega) (fun h2 => by omega)) (fun h1 => by omega))⟩
        refine Tr.if_ne (pc := 76) (tgt := 93) d_X12_asked_76 rfl (fun c76 => ?_) (fun c76 => ?_)
        · have c76b : 1 ≤ u37_120_8 ∧ u37_120_8 ≤ 5 := by omega
          replace c76 := hd_i c76
          refine Tr.pick [1, 0] (ls2 := [(0, (2, 120)), (2, (0, q71_0))]) rfl ?_
          exact J93 _ _ hS (by and_intros <;> omega) k71_120_3 k71_120_4 k71_120_5 k71_120_7 k71_120_8 k71_9010_0 (by first | exact (hd_o t71_0) | exact (hd_o t71_0).elim (fun h1 => by omega) (fun h1 => by omega)) (by omega) (by omega)
        · refine Tr.iload_n (pc := 79) (i := 2) d_X12_asked_79 rfl rfl ?_
          refine Tr.iconst (pc := 80) d_X12_asked_80 (by decide) ?_
          refine Tr.icmp_ne (pc := 81) (tgt := 93) d_X12_asked_81 rfl (fun c81 => ?_) (fun c81 => ?_)
          · have c81b : 0 ≤ q71_0 ∧ q71_0 ≤ 5 := by omega
            replace c81 := hd_i c81
            refine Tr.pick [1, 0] (ls2 := [(0, (2, 120)), (2, (0, q71_0))]) rfl ?_
            exact J93 _ _ hS (by and_intros <;> omega) k71_120_3 k71_120_4 k71_120_5 k71_120_7 k71_120_8 k71_9010_0 (by first | exact (hd_o t71_0) | exact (hd_o t71_0).elim (fun h1 => by omega) (fun h1 => by omega)) (by omega) (by omega)
          · refine Tr.aload_n (pc := 84) (i := 0) d_X12_asked_84 rfl rfl ?_
            refine Tr.iconst (pc := 85) d_X12_asked_85 (by decide) ?_
            refine Tr.aload_n (pc := 86) (i := 0) d_X12_asked_86 rfl rfl ?_
            refine Tr.getf (pc := 87) d_X12_asked_87 f_12_23 (by decide) (by decide) (ty_120 hS.1.1) ?_
            refine Tr.tp g120_4 k71_120_4 ?_
            refine Tr.callV (pc := 90) (as := [_, _]) d_X12_asked_90 s_12_389 ok_X12_blame rfl rfl (Nat.le_of_ble_eq_true rfl) (Nat.le_of_ble_eq_true rfl) (by decide) (ty_120 hS.1.1) ?_
            have kb90_120_8 : rd M 120 8 = u37_120_8 := k71_120_8
            refine Tr.imp (Tr.deep (by decide) (sp_X12_blame_120 hS.1 3 (by omega) g120_4 (by and_intros <;> omega))) ?_
            rintro M90 _ ⟨h90, rfl, z90_0⟩
            have hS := St.tr hS h90 (by decide) (by decide)
            obtain ⟨s90_120_8, es90_120_8⟩ : ∃ v, rd M90 120 8 = v := ⟨_, rfl⟩
            have bs90_120_8 : 0 ≤ s90_120_8 ∧ s90_120_8 ≤ 5 := by rw [← es90_120_8]; exact ir_120_8 hS.1.2.1
            replace z90_0 := hd_i z90_0
            refine Tr.sc [] rfl ?_
            refine Tr.pick [1, 0] (ls2 := [(0, (2, 120)), (2, (0, q71_0))]) rfl ?_
            exact J93 _ _ hS (by and_intros <;> omega) ((St.kp h90 (by decide) (by decide) (by decide)).trans k71_120_3) ((St.kp h90 (by decide) (by decide) (by decide)).trans k71_120_4) ((St.kp h90 (by decide) (by decide) (by decide)).trans k71_120_5) ((St.kp h90 (by decide) (by decide) (by decide)).trans k71_120_7) es90_120_8 ((tav_of ((St.kp h90 (by decide) (by decide) (by decide)).trans rfl) ((St.kp h90 (by decide) (by decide) (by decide)).trans rfl)).trans k71_9010_0) (by exact (hd_o z90_0).elim (fun h1 => by omega) (fun h1 => by omega)) (by omega) (by exact (hd_o z90_0).elim (fun h1 => by omega) (fun h1 => by omega))
      refine Tr.if_le (pc := 41) (tgt := 48) d_X12_asked_41 rfl (fun c41 => ?_) (fun c41 => ?_)
      · refine Tr.iload_n (pc := 48) (i := 1) d_X12_asked_48 rfl rfl ?_
        refine Tr.if_ne (pc := 49) (tgt := 63) d_X12_asked_49 rfl (fun c49 => ?_) (fun c49 => ?_)
        · have c49b : 1 ≤ a1 ∧ a1 ≤ 1 := by omega
          replace c49 := hd_i c49
          refine Tr.aload_n (pc := 63) (i := 0) d_X12_asked_63 rfl rfl ?_
          refine Tr.aload_n (pc := 64) (i := 0) d_X12_asked_64 rfl rfl ?_
          refine Tr.getf (pc := 65) d_X12_asked_65 f_12_32 (by decide) (by decide) (ty_120 hS.1.1) ?_
          refine Tr.tp g120_7 k37_120_7 ?_
          refine Tr.callV (pc := 68) (as := [_]) d_X12_asked_68 s_12_464 ok_X12_varOf rfl rfl (Nat.le_of_ble_eq_true rfl) (Nat.le_of_ble_eq_true rfl) (by decide) (ty_120 hS.1.1) ?_
          refine Tr.imp (Tr.deep (by decide) (sp_X12_varOf_120 hS.1.wk ((St.kp hS (by decide) (by decide) (by decide)).trans en_120_37) g120_7 (by omega))) ?_
          rintro M68 _ ⟨h68, r68, rfl, lr68, ur68⟩
          have h68 := St.rn h68 (Pm1.of hS.1.2.2.2.2 (fun _ => St.ka h68 (by decide) (by decide) (by decide)) (fun _ => St.ka h68 (by decide) (by decide) (by decide)) (fun _ => St.ka h68 (by decide) (by decide) (by decide)) (fun _ => St.ka h68 (by decide) (by decide) (by decide)) (fun _ => St.ka h68 (by decide) (by decide) (by decide)) (fun _ => St.ka h68 (by decide) (by decide) (by decide)) (fun _ => St.ka h68 (by decide) (by decide) (by decide)) (fun _ => St.ka h68 (by decide) (by decide) (by decide)) (fun _ => St.ka h68 (by decide) (by decide) (by decide)) (fun _ => St.ka h68 (by decide) (by decide) (by decide)) (St.kp h68 (by decide) (by decide) (by decide)) (St.kp h68 (by decide) (by decide) (by decide)) (St.kp h68 (by decide) (by decide) (by decide)) (St.kp h68 (by decide) (by decide) (by decide)) (St.kp h68 (by decide) (by decide) (by decide)) (St.kp h68 (by decide) (by decide) (by decide)) (St.kp h68 (by decide) (by decide) (by decide)) (St.kp h68 (by decide) (by decide) (by decide)) (St.kp h68 (by decide) (by decide) (by decide)) (St.kp h68 (by decide) (by decide) (by decide)) (St.kp h68 (by decide) (by decide) (by decide)))
          have hS := St.tr hS h68 (by decide) (by decide)
          refine Tr.sc [(0, r68)] rfl ?_
          refine Tr.pick [0] (ls2 := [(0, (2, 120))]) rfl ?_
          exact J71 _ _ hS (by and_intros <;> omega) ((St.kp h68 (by decide) (by decide) (by decide)).trans k37_120_3) ((St.kp h68 (by decide) (by decide) (by decide)).trans k37_120_4) ((St.kp h68 (by decide) (by decide) (by decide)).trans k37_120_5) ((St.kp h68 (by decide) (by decide) (by decide)).trans k37_120_7) ((St.kp h68 (by decide) (by decide) (by decide)).trans k37_120_8) ((tav_of ((St.kp h68 (by decide) (by decide) (by decide)).trans rfl) ((St.kp h68 (by decide) (by decide) (by decide)).trans rfl)).trans k37_9010_0) (by first | exact (hd_o t37_0) | exact (hd_o t37_0).elim (fun h1 => by omega) (fun h1 => by omega)) (by omega) (by omega)
        · refine Tr.aload_n (pc := 52) (i := 0) d_X12_asked_52 rfl rfl ?_
          refine Tr.aload_n (pc := 53) (i := 0) d_X12_asked_53 rfl rfl ?_
          refine Tr.getf (pc := 54) d_X12_asked_54 f_12_32 (by decide) (by decide) (ty_120 hS.1.1) ?_
          refine Tr.tp g120_7 k37_120_7 ?_
          refine Tr.callV (pc := 57) (as := [_]) d_X12_asked_57 s_12_457 ok_X12_partOf rfl rfl (Nat.le_of_ble_eq_true rfl) (Nat.le_of_ble_eq_true rfl) (by decide) (ty_120 hS.1.1) ?_
          refine Tr.imp (Tr.deep (by decide) (sp_X12_partOf_120 hS.1.wk ((St.kp hS (by decide) (by decide) (by decide)).trans en_120_37) g120_7 (by omega))) ?_
          rintro M57 _ ⟨h57, r57, rfl, lr57, ur57⟩
          have h57 := St.rn h57 (Pm1.of hS.1.2.2.2.2 (fun _ => St.ka h57 (by decide) (by decide) (by decide)) (fun _ => St.ka h57 (by decide) (by decide) (by decide)) (fun _ => St.ka h57 (by decide) (by decide) (by decide)) (fun _ => St.ka h57 (by decide) (by decide) (by decide)) (fun _ => St.ka h57 (by decide) (by decide) (by decide)) (fun _ => St.ka h57 (by decide) (by decide) (by decide)) (fun _ => St.ka h57 (by decide) (by decide) (by decide)) (fun _ => St.ka h57 (by decide) (by decide) (by decide)) (fun _ => St.ka h57 (by decide) (by decide) (by decide)) (fun _ => St.ka h57 (by decide) (by decide) (by decide)) (St.kp h57 (by decide) (by decide) (by decide)) (St.kp h57 (by decide) (by decide) (by decide)) (St.kp h57 (by decide) (by decide) (by decide)) (St.kp h57 (by decide) (by decide) (by decide)) (St.kp h57 (by decide) (by decide) (by decide)) (St.kp h57 (by decide) (by decide) (by decide)) (St.kp h57 (by decide) (by decide) (by decide)) (St.kp h57 (by decide) (by decide) (by decide)) (St.kp h57 (by decide) (by decide) (by decide)) (St.kp h57 (by decide) (by decide) (by decide)) (St.kp h57 (by decide) (by decide) (by decide)))
          have hS := St.tr hS h57 (by decide) (by decide)
          refine Tr.sc [(0, r57)] rfl ?_
          refine Tr.goto (pc := 60) (tgt := 71) d_X12_asked_60 rfl ?_
          refine Tr.pick [0] (ls2 := [(0, (2, 120))]) rfl ?_
          exact J71 _ _ hS (by and_intros <;> omega) ((St.kp h57 (by decide) (by decide) (by decide)).trans k37_120_3) ((St.kp h57 (by decide) (by decide) (by decide)).trans k37_120_4) ((St.kp h57 (by decide) (by decide) (by decide)).trans k37_120_5) ((St.kp h57 (by decide) (by decide) (by decide)).trans k37_120_7) ((St.kp h57 (by decide) (by decide) (by decide)).trans k37_120_8) ((tav_of ((St.kp h57 (by decide) (by decide) (by decide)).trans rfl) ((St.kp h57 (by decide) (by decide) (by decide)).trans rfl)).trans k37_9010_0) (by first | exact (hd_o t37_0) | exact (hd_o t37_0).elim (fun h1 => by omega) (fun h1 => by omega)) (by omega) (by omega)
      · refine Tr.iconst (pc := 44) d_X12_asked_44 (by decide) ?_
        refine Tr.goto (pc := 45) (tgt := 71) d_X12_asked_45 rfl ?_
        refine Tr.pick [0] (ls2 := [(0, (2, 120))]) rfl ?_
        exact J71 _ _ hS (by omega) k37_120_3 k37_120_4 k37_120_5 k37_120_7 k37_120_8 k37_9010_0 (by first | exact (hd_o t37_0) | exact (hd_o t37_0).elim (fun h1 => by omega) (fun h1 => by omega)) (by omega) (by omega)
    have J28 : ∀ (M : Mem), St Pm1 ws_X12_asked_120 as_X12_asked_120 M0 M → rd M 120 3 = g120_3 → rd M 120 4 = g120_4 → rd M 120 5 = g120_5 → rd M 120 7 = g120_7 → rd M 120 8 = g120_8 → tav M = g9010_0 → (g120_8 = 0) → (g120_8 = 0) → Tr l K 2 mX12_asked 28 [(0, (2, 120)), (1, (0, a1))] [] M (q_X12_asked_120 a1 M0) := by
      intro M  hS  k28_120_3 k28_120_4 k28_120_5 k28_120_7 k28_120_8 k28_9010_0 t28_0 t28_1
      refine Tr.aload_n (pc := 28) (i := 0) d_X12_asked_28 rfl rfl ?_
      refine Tr.iconst (pc := 29) d_X12_asked_29 (by decide) ?_
      refine Tr.aload_n (pc := 30) (i := 0) d_X12_asked_30 rfl rfl ?_
      refine Tr.getf (pc := 31) d_X12_asked_31 f_12_23 (by decide) (by decide) (ty_120 hS.1.1) ?_
      refine Tr.tp g120_4 k28_120_4 ?_
      refine Tr.callV (pc := 34) (as := [_, _]) d_X12_asked_34 s_12_389 ok_X12_blame rfl rfl (Nat.le_of_ble_eq_true rfl) (Nat.le_of_ble_eq_true rfl) (by decide) (ty_120 hS.1.1) ?_
      have kb34_120_8 : rd M 120 8 = g120_8 := k28_120_8
      refine Tr.imp (Tr.deep (by decide) (sp_X12_blame_120 hS.1 1 (by omega) g120_4 (by and_intros <;> omega))) ?_
      rintro M34 _ ⟨h34, rfl, z34_0⟩
      have hS := St.tr hS h34 (by decide) (by decide)
      obtain ⟨s34_120_8, es34_120_8⟩ : ∃ v, rd M34 120 8 = v := ⟨_, rfl⟩
      have bs34_120_8 : 0 ≤ s34_120_8 ∧ s34_120_8 ≤ 5 := by rw [← es34_120_8]; exact ir_120_8 hS.1.2.1
      replace z34_0 := hd_i z34_0
      refine Tr.sc [] rfl ?_
      refine Tr.pick [0, 1] (ls2 := [(0, (2, 120)), (1, (0, a1))]) rfl ?_
      exact J37 _ _ hS (by and_intros <;> omega) ((St.kp h34 (by decide) (by decide) (by decide)).trans k28_120_3) ((St.kp h34 (by decide) (by decide) (by decide)).trans k28_120_4) ((St.kp h34 (by decide) (by decide) (by decide)).trans k28_120_5) ((St.kp h34 (by decide) (by decide) (by decide)).trans k28_120_7) es34_120_8 ((tav_of ((St.kp h34 (by decide) (by decide) (by decide)).trans rfl) ((St.kp h34 (by decide) (by decide) (by decide)).trans rfl)).trans k28_9010_0) (by exact (hd_o z34_0).elim (fun h1 => by omega) (fun h1 => by omega)) (by omega)
    refine Tr.icmp_ne (pc := 14) (tgt := 28) d_X12_asked_14 rfl (fun c14 => ?_) (fun c14 => ?_)
    · replace c14 := hd_i c14
      refine Tr.pick [0, 1] (ls2 := [(0, (2, 120)), (1, (0, a1))]) rfl ?_
      exact J28 _ hS eg120_3 eg120_4 eg120_5 eg120_7 eg120_8 eg9010_0 (by omega) (by omega)
    · refine Tr.aload_n (pc := 17) (i := 0) d_X12_asked_17 rfl rfl ?_
      refine Tr.aload_n (pc := 18) (i := 0) d_X12_asked_18 rfl rfl ?_
      refine Tr.getf (pc := 19) d_X12_asked_19 f_12_32 (by decide) (by decide) (ty_120 hS.1.1) ?_
      refine Tr.tp g120_7 eg120_7 ?_
      refine Tr.callV (pc := 22) (as := [_]) d_X12_asked_22 s_12_453 ok_X12_isOwn rfl rfl (Nat.le_of_ble_eq_true rfl) (Nat.le_of_ble_eq_true rfl) (by decide) (ty_120 hS.1.1) ?_
      refine Tr.imp (Tr.deep (by decide) (sp_X12_isOwn_120 hS.1.wk g120_7 (by omega))) ?_
      rintro M22 _ ⟨h22, r22, rfl, lr22, ur22⟩
      have h22 := St.rn h22 (Pm1.of hS.1.2.2.2.2 (fun _ => St.ka h22 (by decide) (by decide) (by decide)) (fun _ => St.ka h22 (by decide) (by decide) (by decide)) (fun _ => St.ka h22 (by decide) (by decide) (by decide)) (fun _ => St.ka h22 (by decide) (by decide) (by decide)) (fun _ => St.ka h22 (by decide) (by decide) (by decide)) (fun _ => St.ka h22 (by decide) (by decide) (by decide)) (fun _ => St.ka h22 (by decide) (by decide) (by decide)) (fun _ => St.ka h22 (by decide) (by decide) (by decide)) (fun _ => St.ka h22 (by decide) (by decide) (by decide)) (fun _ => St.ka h22 (by decide) (by decide) (by decide)) (St.kp h22 (by decide) (by decide) (by decide)) (St.kp h22 (by decide) (by decide) (by decide)) (St.kp h22 (by decide) (by decide) (by decide)) (St.kp h22 (by decide) (by decide) (by decide)) (St.kp h22 (by decide) (by decide) (by decide)) (St.kp h22 (by decide) (by decide) (by decide)) (St.kp h22 (by decide) (by decide) (by decide)) (St.kp h22 (by decide) (by decide) (by decide)) (St.kp h22 (by decide) (by decide) (by decide)) (St.kp h22 (by decide) (by decide) (by decide)) (St.kp h22 (by decide) (by decide) (by decide)))
      have hS := St.tr hS h22 (by decide) (by decide)
      refine Tr.sc [(0, r22)] rfl ?_
      refine Tr.if_eq (pc := 25) (tgt := 37) d_X12_asked_25 rfl (fun c25 => ?_) (fun c25 => ?_)
      · refine Tr.pick [0, 1] (ls2 := [(0, (2, 120)), (1, (0, a1))]) rfl ?_
        exact J37 _ _ hS (by and_intros <;> omega) ((St.kp h22 (by decide) (by decide) (by decide)).trans eg120_3) ((St.kp h22 (by decide) (by decide) (by decide)).trans eg120_4) ((St.kp h22 (by decide) (by decide) (by decide)).trans eg120_5) ((St.kp h22 (by decide) (by decide) (by decide)).trans eg120_7) ((St.kp h22 (by decide) (by decide) (by decide)).trans eg120_8) ((tav_of ((St.kp h22 (by decide) (by decide) (by decide)).trans rfl) ((St.kp h22 (by decide) (by decide) (by decide)).trans rfl)).trans eg9010_0) (by omega) (by omega)
      · have c25b : 1 ≤ r22 ∧ r22 ≤ 1 := by omega
        replace c25 := hd_i c25
        refine Tr.pick [0, 1] (ls2 := [(0, (2, 120)), (1, (0, a1))]) rfl ?_
        exact J28 _ hS ((St.kp h22 (by decide) (by decide) (by decide)).trans eg120_3) ((St.kp h22 (by decide) (by decide) (by decide)).trans eg120_4) ((St.kp h22 (by decide) (by decide) (by decide)).trans eg120_5) ((St.kp h22 (by decide) (by decide) (by decide)).trans eg120_7) ((St.kp h22 (by decide) (by decide) (by decide)).trans eg120_8) ((tav_of ((St.kp h22 (by decide) (by decide) (by decide)).trans rfl) ((St.kp h22 (by decide) (by decide) (by decide)).trans rfl)).trans eg9010_0) (by omega) (by omega)
  · refine Tr.iconst (pc := 7) d_X12_asked_7 (by decide) ?_
    have kr_120_3 : rd M0 120 3 = g120_3 := eg120_3
    have kr_120_4 : rd M0 120 4 = g120_4 := eg120_4
    have kr_120_5 : rd M0 120 5 = g120_5 := eg120_5
    have kr_120_7 : rd M0 120 7 = g120_7 := eg120_7
    have kr_120_8 : rd M0 120 8 = g120_8 := eg120_8
    have kr_9010_0 : tav M0 = g9010_0 := eg9010_0
    exact Tr.iret (pc := 8) d_X12_asked_8 rfl ⟨hS, _, rfl, by omega, by omega, (by first | exact (hd_o hq0) | exact (hd_o hq0).elim (fun h1 => by omega) (fun h1 => by omega)), (by omega), (by first | exact (hd_o hq2) | exact (hd_o hq2).elim (fun h1 => by omega) (fun h1 => h1.elim (fun h1 => by omega) (fun h1 => by omega))), (by and_intros <;> omega), (by omega), (by omega), (by omega)⟩

def ws_X12_pushes_120 : List (Int × Int) := [(120, 43)]
def as_X12_pushes_120 : List Int := [145, 146, 147, 149]
def q_X12_pushes_120 (a1 : Int) (M0 M' : Mem) (r : Option PV) : Prop := St Pm1 ws_X12_pushes_120 as_X12_pushes_120 M0 M' ∧ r = none ∧ (rd M' 120 43 = rd M0 120 43 + 1) ∧ (n4v M' = n4v M0) ∧ (fr0 M' ≤ 1)
set_option maxRecDepth 100000 in
set_option maxHeartbeats 4000000 in
theorem sp_X12_pushes_120 {l : Launch} {K : EC} {M0 : Mem} (hI : In Pm1 M0)  (a1 : Int) (ha1 : 0 ≤ a1 ∧ a1 ≤ 5)  (hq0 : rd M0 120 43 ≤ 19) (hq1 : a1 ≠ 4) (hq2 : 1 ≤ rd M0 120 43 ∨ a1 ≤ 1) (hq3 : fr0 M0 ≤ 1 ∨ rd M0 120 43 = 0) : Tr l K 0 mX12_pushes 0 [(0, (2, 120)), (1, (0, a1))] [] M0 (q_X12_pushes_120 a1 M0) := by
  have hS : St Pm1 ws_X12_pushes_120 as_X12_pushes_120 M0 M0 := St.rf hI
  obtain ⟨g120_43, eg120_43⟩ : ∃ v, rd M0 120 43 = v := ⟨_, rfl⟩
  have bg120_43 : 0 ≤ g120_43 ∧ g120_43 ≤ 20 := by rw [← eg120_43]; exact ir_120_43 hI.2.1
  obtain ⟨g9002_0, eg9002_0⟩ : ∃ v, n4v M0 = v := ⟨_, rfl⟩
  have bg9002_0 : 0 ≤ g9002_0 ∧ g9002_0 ≤ 20 := by rw [← eg9002_0]; exact (n4v_b hI.2.1)
  obtain ⟨g9005_0, eg9005_0⟩ : ∃ v, fr0 M0 = v := ⟨_, rfl⟩
  have bg9005_0 : 0 ≤ g9005_0 ∧ g9005_0 ≤ 5 := by rw [← eg9005_0]; exact (fr0_b hI.2.1)
  obtain ⟨g120_46, eg120_46⟩ : ∃ v, rd M0 120 46 = v := ⟨_, rfl⟩
  have bg120_46 : 0 ≤ g120_46 ∧ g120_46 ≤ 500 := by rw [← eg120_46]; exact ir_120_46 hI.2.1
  replace hq1 := hd_i hq1
  replace hq2 := hd_i hq2
  replace hq3 := hd_i hq3
  refine Tr.aload_n (pc := 0) (i := 0) d_X12_pushes_0 rfl rfl ?_
  refine Tr.getf (pc := 1) d_X12_pushes_1 f_12_127 (by decide) (by decide) (ty_120 hS.1.1) ?_
  refine Tr.tp 145 (fx_120_38 hS.1.1) ?_
  refine Tr.aload_n (pc := 4) (i := 0) d_X12_pushes_4 rfl rfl ?_
  refine Tr.getf (pc := 5) d_X12_pushes_5 f_12_143 (by decide) (by decide) (ty_120 hS.1.1) ?_
  refine Tr.tp g120_43 eg120_43 ?_
  refine Tr.iload_n (pc := 8) (i := 1) d_X12_pushes_8 rfl rfl ?_
  refine Tr.iastS (pc := 9) (P := St Pm1 ws_X12_pushes_120 as_X12_pushes_120 M0) d_X12_pushes_9 (ty_145 hS.1.1) (by omega) (by omega) (sa_145 hS (by decide) (by and_intros <;> omega) (Pm1.of hS.1.2.2.2.2 (fun _ => rd_wb _ rfl) (fun _ => rd_wb _ rfl) (fun _ => rd_wb _ rfl) (fun _ => rd_wb _ rfl) (fun _ => rd_wb _ rfl) (fun _ => rd_wb _ rfl) (fun _ => rd_wb _ rfl) (fun _ => rd_wb _ rfl) (fun _ => rd_wb _ rfl) (fun _ => rd_wb _ rfl) (rd_wb _ rfl) (rd_wb _ rfl) (rd_wb _ rfl) (rd_wb _ rfl) (rd_wb _ rfl) (rd_wb _ rfl) (rd_wb _ rfl) (rd_wb _ rfl) (rd_wb _ rfl) (rd_wb _ rfl) (rd_wb _ rfl))) (fun M9 hS w9 => ?_)
  obtain ⟨v9_9005, ev9_9005⟩ : ∃ v, fr0 M9 = v := ⟨_, rfl⟩
  have bv9_9005 : 0 ≤ v9_9005 ∧ v9_9005 ≤ 5 := by rw [← ev9_9005]; exact (fr0_b hS.1.2.1)
  have fv9_9005 : (g120_43 = 0 ∧ v9_9005 = a1) ∨ (g120_43 ≠ 0 ∧ v9_9005 = g9005_0) := by have h8 := fr0_w w9; have h7 : fr0 M9 = v9_9005 := ev9_9005; have h6 := eg9005_0; omega
  replace fv9_9005 := hd_i fv9_9005
  refine Tr.aload_n (pc := 10) (i := 0) d_X12_pushes_10 rfl rfl ?_
  refine Tr.getf (pc := 11) d_X12_pushes_11 f_12_130 (by decide) (by decide) (ty_120 hS.1.1) ?_
  refine Tr.tp 146 (fx_120_39 hS.1.1) ?_
  refine Tr.aload_n (pc := 14) (i := 0) d_X12_pushes_14 rfl rfl ?_
  refine Tr.getf (pc := 15) d_X12_pushes_15 f_12_143 (by decide) (by decide) (ty_120 hS.1.1) ?_
  refine Tr.tp g120_43 ((Wr.b w9 rfl).trans eg120_43) ?_
  refine Tr.iconst (pc := 18) d_X12_pushes_18 (by decide) ?_
  refine Tr.iastS (pc := 19) (P := St Pm1 ws_X12_pushes_120 as_X12_pushes_120 M0) d_X12_pushes_19 (ty_146 hS.1.1) (by omega) (by omega) (sa_146 hS (by decide) (by omega) (Pm1.of hS.1.2.2.2.2 (fun _ => rd_wb _ rfl) (fun _ => rd_wb _ rfl) (fun _ => rd_wb _ rfl) (fun _ => rd_wb _ rfl) (fun _ => rd_wb _ rfl) (fun _ => rd_wb _ rfl) (fun _ => rd_wb _ rfl) (fun _ => rd_wb _ rfl) (fun _ => rd_wb _ rfl) (fun _ => rd_wb _ rfl) (rd_wb _ rfl) (rd_wb _ rfl) (rd_wb _ rfl) (rd_wb _ rfl) (rd_wb _ rfl) (rd_wb _ rfl) (rd_wb _ rfl) (rd_wb _ rfl) (rd_wb _ rfl) (rd_wb _ rfl) (rd_wb _ rfl))) (fun M19 hS w19 => ?_)
  refine Tr.aload_n (pc := 20) (i := 0) d_X12_pushes_20 rfl rfl ?_
  refine Tr.getf (pc := 21) d_X12_pushes_21 f_12_133 (by decide) (by decide) (ty_120 hS.1.1) ?_
  refine Tr.tp 147 (fx_120_40 hS.1.1) ?_
  refine Tr.aload_n (pc := 24) (i := 0) d_X12_pushes_24 rfl rfl ?_
  refine Tr.getf (pc := 25) d_X12_pushes_25 f_12_143 (by decide) (by decide) (ty_120 hS.1.1) ?_
  refine Tr.tp g120_43 ((Wr.b w19 rfl).trans ((Wr.b w9 rfl).trans eg120_43)) ?_
  refine Tr.iconst (pc := 28) d_X12_pushes_28 (by decide) ?_
  refine Tr.zastS (pc := 29) (P := St Pm1 ws_X12_pushes_120 as_X12_pushes_120 M0) d_X12_pushes_29 (ty_147 hS.1.1) (by omega) (by omega) (by omega) (sa_147 hS (by decide) (by omega) (Pm1.of hS.1.2.2.2.2 (fun _ => rd_wb _ rfl) (fun _ => rd_wb _ rfl) (fun _ => rd_wb _ rfl) (fun _ => rd_wb _ rfl) (fun _ => rd_wb _ rfl) (fun _ => rd_wb _ rfl) (fun _ => rd_wb _ rfl) (fun _ => rd_wb _ rfl) (fun _ => rd_wb _ rfl) (fun _ => rd_wb _ rfl) (rd_wb _ rfl) (rd_wb _ rfl) (rd_wb _ rfl) (rd_wb _ rfl) (rd_wb _ rfl) (rd_wb _ rfl) (rd_wb _ rfl) (rd_wb _ rfl) (rd_wb _ rfl) (rd_wb _ rfl) (rd_wb _ rfl))) (fun M29 hS w29 => ?_)
  refine Tr.aload_n (pc := 30) (i := 0) d_X12_pushes_30 rfl rfl ?_
  refine Tr.getf (pc := 31) d_X12_pushes_31 f_12_140 (by decide) (by decide) (ty_120 hS.1.1) ?_
  refine Tr.tp 149 (fx_120_42 hS.1.1) ?_
  refine Tr.aload_n (pc := 34) (i := 0) d_X12_pushes_34 rfl rfl ?_
  refine Tr.getf (pc := 35) d_X12_pushes_35 f_12_143 (by decide) (by decide) (ty_120 hS.1.1) ?_
  refine Tr.tp g120_43 ((Wr.b w29 rfl).trans ((Wr.b w19 rfl).trans ((Wr.b w9 rfl).trans eg120_43))) ?_
  refine Tr.aload_n (pc := 38) (i := 0) d_X12_pushes_38 rfl rfl ?_
  refine Tr.getf (pc := 39) d_X12_pushes_39 f_12_152 (by decide) (by decide) (ty_120 hS.1.1) ?_
  refine Tr.tp g120_46 ((Wr.b w29 rfl).trans ((Wr.b w19 rfl).trans ((Wr.b w9 rfl).trans eg120_46))) ?_
  refine Tr.iastS (pc := 42) (P := St Pm1 ws_X12_pushes_120 as_X12_pushes_120 M0) d_X12_pushes_42 (ty_149 hS.1.1) (by omega) (by omega) (sa_149 hS (by decide) (by and_intros <;> omega) (Pm1.of hS.1.2.2.2.2 (fun _ => rd_wb _ rfl) (fun _ => rd_wb _ rfl) (fun _ => rd_wb _ rfl) (fun _ => rd_wb _ rfl) (fun _ => rd_wb _ rfl) (fun _ => rd_wb _ rfl) (fun _ => rd_wb _ rfl) (fun _ => rd_wb _ rfl) (fun _ => rd_wb _ rfl) (fun _ => rd_wb _ rfl) (rd_wb _ rfl) (rd_wb _ rfl) (rd_wb _ rfl) (rd_wb _ rfl) (rd_wb _ rfl) (rd_wb _ rfl) (rd_wb _ rfl) (rd_wb _ rfl) (rd_wb _ rfl) (rd_wb _ rfl) (rd_wb _ rfl))) (fun M42 hS w42 => ?_)
  refine Tr.aload_n (pc := 43) (i := 0) d_X12_pushes_43 rfl rfl ?_
  refine Tr.dup (pc := 44) d_X12_pushes_44 ne21 ?_
  refine Tr.getf (pc := 45) d_X12_pushes_45 f_12_143 (by decide) (by decide) (ty_120 hS.1.1) ?_
  refine Tr.tp g120_43 ((Wr.b w42 rfl).trans ((Wr.b w29 rfl).trans ((Wr.b w19 rfl).trans ((Wr.b w9 rfl).trans eg120_43)))) ?_
  refine Tr.iconst (pc := 48) d_X12_pushes_48 (by decide) ?_
  refine Tr.iadd (pc := 49) d_X12_pushes_49 ?_
  refine Tr.tp (g120_43 + 1) ((w32_id (by and_intros <;> omega)).trans (by omega)) ?_
  refine Tr.putfS (pc := 50) (P := St Pm1 ws_X12_pushes_120 as_X12_pushes_120 M0) d_X12_pushes_50 f_12_143 (by decide) (by decide) (ty_120 hS.1.1) (st_120_43 hS (by decide) (by and_intros <;> omega) (Pm1.of hS.1.2.2.2.2 (fun _ => rd_wb _ rfl) (fun _ => rd_wb _ rfl) (fun _ => rd_wb _ rfl) (fun _ => rd_wb _ rfl) (fun _ => rd_wb _ rfl) (fun _ => rd_wb _ rfl) (fun _ => rd_wb _ rfl) (fun _ => rd_wb _ rfl) (fun _ => rd_wb _ rfl) (fun _ => rd_wb _ rfl) (rd_wb _ rfl) (rd_wb _ rfl) (rd_wb _ rfl) (rd_wb _ rfl) (rd_wb _ rfl) (rd_wb _ rfl) (rd_wb _ rfl) (rd_wb _ rfl) (rd_wb _ rfl) (rd_wb _ rfl) (rd_wb _ rfl))) (fun M50 hS w50 => ?_)
  obtain ⟨v50_9002, ev50_9002⟩ : ∃ v, n4v M50 = v := ⟨_, rfl⟩
  have bv50_9002 : 0 ≤ v50_9002 ∧ v50_9002 ≤ 20 := by rw [← ev50_9002]; exact (n4v_b hS.1.2.1)
  have fv50_9002 : v50_9002 = g9002_0 := by have h8 := ct_push (x := 145) (j := 43) (e := 4) (a := 1) (b := 0) (M := M0) (M2 := M50) (n := g120_43) (v := a1) eg120_43 (w50.1.trans (by omega)) ((Wr.b w50 rfl).trans ((Wr.b w42 rfl).trans ((Wr.b w29 rfl).trans ((Wr.b w19 rfl).trans w9.1)))) (fun i hi => (Wr.b w50 rfl).trans ((Wr.b w42 rfl).trans ((Wr.b w29 rfl).trans ((Wr.b w19 rfl).trans (w9.2 _ _ (fun c => hi c.2)))))) (by omega); have h7 : ctV 145 43 4 1 0 M50 = v50_9002 := ev50_9002; have h6 : ctV 145 43 4 1 0 M0 = g9002_0 := eg9002_0; omega
  have kr_120_43 : rd M50 120 43 = (g120_43 + 1) := w50.1
  have kr_9002_0 : n4v M50 = v50_9002 := ev50_9002
  have kr_9005_0 : fr0 M50 = v9_9005 := ((fr0_of (fun j => ((Wr.b w50 rfl).trans ((Wr.b w42 rfl).trans ((Wr.b w29 rfl).trans ((Wr.b w19 rfl).trans rfl)))))).trans ev9_9005)
  exact Tr.vret (pc := 53) d_X12_pushes_53 rfl ⟨hS, rfl, (by omega), (by omega), (by exact (hd_o fv9_9005).elim (fun h1 => (hd_o hq2).elim (fun h2 => by omega) (fun h2 => by omega)) (fun h1 => (ne_o h1.1).elim (fun h2 => by omega) (fun h2 => (hd_o hq3).elim (fun h3 => by omega) (fun h3 => by omega))))⟩

def ws_X12_holdsBack_120 : List (Int × Int) := [(120, 46)]
def as_X12_holdsBack_120 : List Int := [150]
def q_X12_holdsBack_120 (a1 : Int) (M0 M' : Mem) (r : Option PV) : Prop := St Pm1 ws_X12_holdsBack_120 as_X12_holdsBack_120 M0 M' ∧ r = none ∧ (rd M' 120 46 = rd M0 120 46 + 1) ∧ ((a1 = 18 ∧ nb2v M' = nb2v M0) ∨ (a1 ≠ 18 ∧ nb2v M' = nb2v M0 + 1))
set_option maxRecDepth 100000 in
set_option maxHeartbeats 4000000 in
theorem sp_X12_holdsBack_120 {l : Launch} {K : EC} {M0 : Mem} (hI : In Pm1 M0)  (a1 : Int) (ha1 : 6 ≤ a1 ∧ a1 ≤ 18)  (hq0 : rd M0 120 46 ≤ 499) : Tr l K 0 mX12_holdsBack 0 [(0, (2, 120)), (1, (0, a1))] [] M0 (q_X12_holdsBack_120 a1 M0) := by
  have hS : St Pm1 ws_X12_holdsBack_120 as_X12_holdsBack_120 M0 M0 := St.rf hI
  obtain ⟨g120_46, eg120_46⟩ : ∃ v, rd M0 120 46 = v := ⟨_, rfl⟩
  have bg120_46 : 0 ≤ g120_46 ∧ g120_46 ≤ 500 := by rw [← eg120_46]; exact ir_120_46 hI.2.1
  obtain ⟨g9001_0, eg9001_0⟩ : ∃ v, nb2v M0 = v := ⟨_, rfl⟩
  have bg9001_0 : 0 ≤ g9001_0 ∧ g9001_0 ≤ 1000000 := by rw [← eg9001_0]; exact (nb2v_b hI.2.1)
  refine Tr.aload_n (pc := 0) (i := 0) d_X12_holdsBack_0 rfl rfl ?_
  refine Tr.getf (pc := 1) d_X12_holdsBack_1 f_12_149 (by decide) (by decide) (ty_120 hS.1.1) ?_
  refine Tr.tp 150 (fx_120_45 hS.1.1) ?_
  refine Tr.aload_n (pc := 4) (i := 0) d_X12_holdsBack_4 rfl rfl ?_
  refine Tr.getf (pc := 5) d_X12_holdsBack_5 f_12_152 (by decide) (by decide) (ty_120 hS.1.1) ?_
  refine Tr.tp g120_46 eg120_46 ?_
  refine Tr.iload_n (pc := 8) (i := 1) d_X12_holdsBack_8 rfl rfl ?_
  refine Tr.iastS (pc := 9) (P := St Pm1 ws_X12_holdsBack_120 as_X12_holdsBack_120 M0) d_X12_holdsBack_9 (ty_150 hS.1.1) (by omega) (by omega) (sa_150 hS (by decide) (by and_intros <;> omega) (Pm1.of hS.1.2.2.2.2 (fun _ => rd_wb _ rfl) (fun _ => rd_wb _ rfl) (fun _ => rd_wb _ rfl) (fun _ => rd_wb _ rfl) (fun _ => rd_wb _ rfl) (fun _ => rd_wb _ rfl) (fun _ => rd_wb _ rfl) (fun _ => rd_wb _ rfl) (fun _ => rd_wb _ rfl) (fun _ => rd_wb _ rfl) (rd_wb _ rfl) (rd_wb _ rfl) (rd_wb _ rfl) (rd_wb _ rfl) (rd_wb _ rfl) (rd_wb _ rfl) (rd_wb _ rfl) (rd_wb _ rfl) (rd_wb _ rfl) (rd_wb _ rfl) (rd_wb _ rfl))) (fun M9 hS w9 => ?_)
  refine Tr.aload_n (pc := 10) (i := 0) d_X12_holdsBack_10 rfl rfl ?_
  refine Tr.dup (pc := 11) d_X12_holdsBack_11 ne21 ?_
  refine Tr.getf (pc := 12) d_X12_holdsBack_12 f_12_152 (by decide) (by decide) (ty_120 hS.1.1) ?_
  refine Tr.tp g120_46 ((Wr.b w9 rfl).trans eg120_46) ?_
  refine Tr.iconst (pc := 15) d_X12_holdsBack_15 (by decide) ?_
  refine Tr.iadd (pc := 16) d_X12_holdsBack_16 ?_
  refine Tr.tp (g120_46 + 1) ((w32_id (by and_intros <;> omega)).trans (by omega)) ?_
  refine Tr.putfS (pc := 17) (P := St Pm1 ws_X12_holdsBack_120 as_X12_holdsBack_120 M0) d_X12_holdsBack_17 f_12_152 (by decide) (by decide) (ty_120 hS.1.1) (st_120_46 hS (by decide) (by and_intros <;> omega) (Pm1.of hS.1.2.2.2.2 (fun _ => rd_wb _ rfl) (fun _ => rd_wb _ rfl) (fun _ => rd_wb _ rfl) (fun _ => rd_wb _ rfl) (fun _ => rd_wb _ rfl) (fun _ => rd_wb _ rfl) (fun _ => rd_wb _ rfl) (fun _ => rd_wb _ rfl) (fun _ => rd_wb _ rfl) (fun _ => rd_wb _ rfl) (rd_wb _ rfl) (rd_wb _ rfl) (rd_wb _ rfl) (rd_wb _ rfl) (rd_wb _ rfl) (rd_wb _ rfl) (rd_wb _ rfl) (rd_wb _ rfl) (rd_wb _ rfl) (rd_wb _ rfl) (rd_wb _ rfl))) (fun M17 hS w17 => ?_)
  obtain ⟨v17_9001, ev17_9001⟩ : ∃ v, nb2v M17 = v := ⟨_, rfl⟩
  have bv17_9001 : 0 ≤ v17_9001 ∧ v17_9001 ≤ 1000000 := by rw [← ev17_9001]; exact (nb2v_b hS.1.2.1)
  have fv17_9001 : (a1 = 18 ∧ v17_9001 = g9001_0) ∨ (a1 ≤ 5 ∧ v17_9001 = g9001_0 + 2000) ∨ (5 < a1 ∧ a1 ≠ 18 ∧ v17_9001 = g9001_0 + 1) := by have h8 := nb2_push (M := M0) (M2 := M17) (n := g120_46) (v := a1) eg120_46 (w17.1.trans (by omega)) ((Wr.b w17 rfl).trans w9.1) (fun i hi => (Wr.b w17 rfl).trans (w9.2 _ _ (fun c => hi c.2))) (by omega); have h7 : nb2v M17 = v17_9001 := ev17_9001; have h6 : nb2v M0 = g9001_0 := eg9001_0; rw [h7, h6] at h8; exact h8
  replace fv17_9001 := hd_i fv17_9001
  have kr_120_46 : rd M17 120 46 = (g120_46 + 1) := w17.1
  have kr_9001_0 : nb2v M17 = v17_9001 := ev17_9001
  exact Tr.vret (pc := 20) d_X12_holdsBack_20 rfl ⟨hS, rfl, (by omega), (by exact (hd_o fv17_9001).elim (fun h1 => by omega) (fun h1 => h1.elim (fun h1 => by omega) (fun h1 => (ne_o h1.2.1).elim (fun h2 => by omega) (fun h2 => by omega))))⟩

def ws_X12_opens_120 : List (Int × Int) := [(120, 3), (120, 4), (120, 5), (120, 6), (120, 7), (120, 8), (120, 9), (120, 43), (120, 44)]
def as_X12_opens_120 : List Int := [145, 146, 147, 149]
def q_X12_opens_120 (a1 : Int) (M0 M' : Mem) (r : Option PV) : Prop := St Pm1 ws_X12_opens_120 as_X12_opens_120 M0 M' ∧ r = none ∧ (rd M' 120 3 = 0 ∨ rd M' 120 4 + 1 ≤ rd M' 120 5) ∧ (rd M' 120 4 ≤ rd M' 120 5) ∧ (rd M' 120 3 ≠ 1 ∨ rd M' 120 4 + 2 ≤ rd M' 120 5 ∨ rd M' 120 7 < 256) ∧ (rd M0 120 4 ≤ rd M' 120 4 ∧ rd M0 120 5 ≤ rd M' 120 5 ∧ tav M0 ≤ tav M') ∧ (rd M0 120 8 = 0 ∨ rd M' 120 8 = rd M0 120 8) ∧ (1 ≤ rd M' 120 8 ∨ tav M0 < tav M') ∧ (rd M' 120 43 - rd M0 120 43 = rd M' 120 44 - rd M0 120 44 ∧ rd M0 120 44 ≤ rd M' 120 44 ∧ rd M' 120 44 ≤ rd M0 120 44 + 1) ∧ (rd M' 120 44 = rd M0 120 44 ∨ rd M0 120 5 ≤ rd M' 120 4) ∧ (n4v M' = n4v M0) ∧ (fr0 M' ≤ 1) ∧ (rd M' 120 44 = rd M0 120 44 + 1 ∨ 1 ≤ rd M' 120 8)
set_option maxRecDepth 100000 in
set_option maxHeartbeats 4000000 in
theorem sp_X12_opens_120 {l : Launch} {K : EC} {M0 : Mem} (hI : In Pm1 M0)  (a1 : Int) (ha1 : 2 ≤ a1 ∧ a1 ≤ 5)  (hq0 : rd M0 120 3 = 0 ∨ rd M0 120 4 + 1 ≤ rd M0 120 5) (hq1 : rd M0 120 4 ≤ rd M0 120 5) (hq2 : rd M0 120 3 ≠ 1 ∨ rd M0 120 4 + 2 ≤ rd M0 120 5 ∨ rd M0 120 7 < 256) (hq3 : 1 ≤ rd M0 120 43 ∧ rd M0 120 43 ≤ 19) (hq4 : rd M0 120 3 ≠ 0 ∨ 1 ≤ rd M0 120 8) (hq5 : fr0 M0 ≤ 1) (hq6 : a1 ≠ 4) : Tr l K 2 mX12_opens 0 [(0, (2, 120)), (1, (0, a1))] [] M0 (q_X12_opens_120 a1 M0) := by
  have hS : St Pm1 ws_X12_opens_120 as_X12_opens_120 M0 M0 := St.rf hI
  obtain ⟨g120_8, eg120_8⟩ : ∃ v, rd M0 120 8 = v := ⟨_, rfl⟩
  have bg120_8 : 0 ≤ g120_8 ∧ g120_8 ≤ 5 := by rw [← eg120_8]; exact ir_120_8 hI.2.1
  obtain ⟨g120_3, eg120_3⟩ : ∃ v, rd M0 120 3 = v := ⟨_, rfl⟩
  have bg120_3 : 0 ≤ g120_3 ∧ g120_3 ≤ 3 := by rw [← eg120_3]; exact ir_120_3 hI.2.1
  obtain ⟨g120_4, eg120_4⟩ : ∃ v, rd M0 120 4 = v := ⟨_, rfl⟩
  have bg120_4 : 0 ≤ g120_4 ∧ g120_4 ≤ 900 := by rw [← eg120_4]; exact ir_120_4 hI.2.1
  obtain ⟨g120_5, eg120_5⟩ : ∃ v, rd M0 120 5 = v := ⟨_, rfl⟩
  have bg120_5 : 0 ≤ g120_5 ∧ g120_5 ≤ 900 := by rw [← eg120_5]; exact ir_120_5 hI.2.1
  obtain ⟨g120_7, eg120_7⟩ : ∃ v, rd M0 120 7 = v := ⟨_, rfl⟩
  have bg120_7 : (-9223372036854775808) ≤ g120_7 ∧ g120_7 ≤ 9223372036854775807 := by rw [← eg120_7]; exact ir_120_7 hI.2.1
  obtain ⟨g9010_0, eg9010_0⟩ : ∃ v, tav M0 = v := ⟨_, rfl⟩
  have bg9010_0 : (-1) ≤ g9010_0 ∧ g9010_0 ≤ 1800 := by rw [← eg9010_0]; exact (tav_b hI.2.1)
  obtain ⟨g120_44, eg120_44⟩ : ∃ v, rd M0 120 44 = v := ⟨_, rfl⟩
  have bg120_44 : 0 ≤ g120_44 ∧ g120_44 ≤ 8 := by rw [← eg120_44]; exact ir_120_44 hI.2.1
  obtain ⟨g120_43, eg120_43⟩ : ∃ v, rd M0 120 43 = v := ⟨_, rfl⟩
  have bg120_43 : 0 ≤ g120_43 ∧ g120_43 ≤ 20 := by rw [← eg120_43]; exact ir_120_43 hI.2.1
  obtain ⟨g9002_0, eg9002_0⟩ : ∃ v, n4v M0 = v := ⟨_, rfl⟩
  have bg9002_0 : 0 ≤ g9002_0 ∧ g9002_0 ≤ 20 := by rw [← eg9002_0]; exact (n4v_b hI.2.1)
  obtain ⟨g9005_0, eg9005_0⟩ : ∃ v, fr0 M0 = v := ⟨_, rfl⟩
  have bg9005_0 : 0 ≤ g9005_0 ∧ g9005_0 ≤ 5 := by rw [← eg9005_0]; exact (fr0_b hI.2.1)
  obtain ⟨g120_46, eg120_46⟩ : ∃ v, rd M0 120 46 = v := ⟨_, rfl⟩
  have bg120_46 : 0 ≤ g120_46 ∧ g120_46 ≤ 500 := by rw [← eg120_46]; exact ir_120_46 hI.2.1
  replace hq0 := hd_i hq0
  replace hq2 := hd_i hq2
  replace hq4 := hd_i hq4
  replace hq6 := hd_i hq6
  refine Tr.aload_n (pc := 0) (i := 0) d_X12_opens_0 rfl rfl ?_
  refine Tr.getf (pc := 1) d_X12_opens_1 f_12_146 (by decide) (by decide) (ty_120 hS.1.1) ?_
  refine Tr.tp g120_44 eg120_44 ?_
  refine Tr.bipush (pc := 4) d_X12_opens_4 rfl (by decide) ?_
  have J18 : ∀ (M : Mem) (u18_120_8 : Int), St Pm1 ws_X12_opens_120 as_X12_opens_120 M0 M → (0 ≤ u18_120_8 ∧ u18_120_8 ≤ 5) → rd M 120 3 = g120_3 → rd M 120 4 = g120_4 → rd M 120 43 = g120_43 → rd M 120 44 = g120_44 → rd M 120 46 = g120_46 → rd M 120 5 = g120_5 → rd M 120 7 = g120_7 → rd M 120 8 = u18_120_8 → n4v M = g9002_0 → fr0 M = g9005_0 → tav M = g9010_0 → ((u18_120_8 = 0 ∧ g120_44 ≤ 7) ∨ 1 ≤ u18_120_8) → (g120_8 = 0 ∨ u18_120_8 = g120_8) → Tr l K 2 mX12_opens 18 [(0, (2, 120)), (1, (0, a1))] [] M (q_X12_opens_120 a1 M0) := by
    intro M u18_120_8 hS bu18_120_8 k18_120_3 k18_120_4 k18_120_43 k18_120_44 k18_120_46 k18_120_5 k18_120_7 k18_120_8 k18_9002_0 k18_9005_0 k18_9010_0 t18_0 t18_1
    replace t18_0 := hd_i t18_0
    replace t18_1 := hd_i t18_1
    refine Tr.aload_n (pc := 18) (i := 0) d_X12_opens_18 rfl rfl ?_
    refine Tr.getf (pc := 19) d_X12_opens_19 f_12_36 (by decide) (by decide) (ty_120 hS.1.1) ?_
    refine Tr.tp u18_120_8 k18_120_8 ?_
    refine Tr.if_le (pc := 22) (tgt := 26) d_X12_opens_22 rfl (fun c22 => ?_) (fun c22 => ?_)
    · refine Tr.aload_n (pc := 26) (i := 0) d_X12_opens_26 rfl rfl ?_
      refine Tr.dup (pc := 27) d_X12_opens_27 ne21 ?_
      refine Tr.getf (pc := 28) d_X12_opens_28 f_12_146 (by decide) (by decide) (ty_120 hS.1.1) ?_
      refine Tr.tp g120_44 k18_120_44 ?_
      refine Tr.iconst (pc := 31) d_X12_opens_31 (by decide) ?_
      refine Tr.iadd (pc := 32) d_X12_opens_32 ?_
      refine Tr.tp (g120_44 + 1) ((w32_id (by and_intros <;> omega)).trans (by omega)) ?_
      refine Tr.putfS (pc := 33) (P := St Pm1 ws_X12_opens_120 as_X12_opens_120 M0) d_X12_opens_33 f_12_146 (by decide) (by decide) (ty_120 hS.1.1) (st_120_44 hS (by decide) (by exact (hd_o t18_0).elim (fun h1 => by omega) (fun h1 => by omega)) (Pm1.of hS.1.2.2.2.2 (fun _ => rd_wb _ rfl) (fun _ => rd_wb _ rfl) (fun _ => rd_wb _ rfl) (fun _ => rd_wb _ rfl) (fun _ => rd_wb _ rfl) (fun _ => rd_wb _ rfl) (fun _ => rd_wb _ rfl) (fun _ => rd_wb _ rfl) (fun _ => rd_wb _ rfl) (fun _ => rd_wb _ rfl) (rd_wb _ rfl) (rd_wb _ rfl) (rd_wb _ rfl) (rd_wb _ rfl) (rd_wb _ rfl) (rd_wb _ rfl) (rd_wb _ rfl) (rd_wb _ rfl) (rd_wb _ rfl) (rd_wb _ rfl) (rd_wb _ rfl))) (fun M33 hS w33 => ?_)
      refine Tr.aload_n (pc := 36) (i := 0) d_X12_opens_36 rfl rfl ?_
      refine Tr.callV (pc := 37) (as := []) d_X12_opens_37 s_12_396 ok_X12_next rfl rfl (Nat.le_of_ble_eq_true rfl) (Nat.le_of_ble_eq_true rfl) (by decide) (ty_120 hS.1.1) ?_
      have kb37_120_3 : rd M33 120 3 = g120_3 := ((Wr.b w33 rfl).trans k18_120_3)
      have kb37_120_5 : rd M33 120 5 = g120_5 := ((Wr.b w33 rfl).trans k18_120_5)
      have kb37_120_8 : rd M33 120 8 = u18_120_8 := ((Wr.b w33 rfl).trans k18_120_8)
      have kb37_9010_0 : tav M33 = g9010_0 := ((tav_of ((Wr.b w33 rfl).trans rfl) ((Wr.b w33 rfl).trans rfl)).trans k18_9010_0)
      refine Tr.imp (Tr.deep (by decide) (sp_X12_next_120 hS.1 )) ?_
      rintro M37 _ ⟨h37, rfl, z37_0, z37_1, z37_2, z37_3, z37_4, z37_5, z37_6⟩
      have hS := St.tr hS h37 (by decide) (by decide)
      obtain ⟨s37_120_3, es37_120_3⟩ : ∃ v, rd M37 120 3 = v := ⟨_, rfl⟩
      have bs37_120_3 : 0 ≤ s37_120_3 ∧ s37_120_3 ≤ 3 := by rw [← es37_120_3]; exact ir_120_3 hS.1.2.1
      obtain ⟨s37_120_4, es37_120_4⟩ : ∃ v, rd M37 120 4 = v := ⟨_, rfl⟩
      have bs37_120_4 : 0 ≤ s37_120_4 ∧ s37_120_4 ≤ 900 := by rw [← es37_120_4]; exact ir_120_4 hS.1.2.1
      obtain ⟨s37_120_5, es37_120_5⟩ : ∃ v, rd M37 120 5 = v := ⟨_, rfl⟩
      have bs37_120_5 : 0 ≤ s37_120_5 ∧ s37_120_5 ≤ 900 := by rw [← es37_120_5]; exact ir_120_5 hS.1.2.1
      obtain ⟨s37_120_7, es37_120_7⟩ : ∃ v, rd M37 120 7 = v := ⟨_, rfl⟩
      have bs37_120_7 : (-9223372036854775808) ≤ s37_120_7 ∧ s37_120_7 ≤ 9223372036854775807 := by rw [← es37_120_7]; exact ir_120_7 hS.1.2.1
      obtain ⟨s37_120_8, es37_120_8⟩ : ∃ v, rd M37 120 8 = v := ⟨_, rfl⟩
      have bs37_120_8 : 0 ≤ s37_120_8 ∧ s37_120_8 ≤ 5 := by rw [← es37_120_8]; exact ir_120_8 hS.1.2.1
      obtain ⟨s37_9010_0, es37_9010_0⟩ : ∃ v, tav M37 = v := ⟨_, rfl⟩
      have bs37_9010_0 : (-1) ≤ s37_9010_0 ∧ s37_9010_0 ≤ 1800 := by rw [← es37_9010_0]; exact (tav_b hS.1.2.1)
      replace z37_0 := hd_i z37_0
      replace z37_2 := hd_i z37_2
      replace z37_5 := hd_i z37_5
      replace z37_6 := hd_i z37_6
      refine Tr.sc [] rfl ?_
      refine Tr.aload_n (pc := 40) (i := 0) d_X12_opens_40 rfl rfl ?_
      refine Tr.iload_n (pc := 41) (i := 1) d_X12_opens_41 rfl rfl ?_
      refine Tr.callV (pc := 42) (as := [_]) d_X12_opens_42 s_12_478 ok_X12_pushes rfl rfl (Nat.le_of_ble_eq_true rfl) (Nat.le_of_ble_eq_true rfl) (by decide) (ty_120 hS.1.1) ?_
      have kb42_120_43 : rd M37 120 43 = g120_43 := ((St.kp h37 (by decide) (by decide) (by decide)).trans ((Wr.b w33 rfl).trans k18_120_43))
      have kb42_9002_0 : n4v M37 = g9002_0 := ((n4v_of (fun j => ((St.ka h37 (by decide) (by decide) (by decide)).trans ((Wr.b w33 rfl).trans rfl))) ((St.kp h37 (by decide) (by decide) (by decide)).trans ((Wr.b w33 rfl).trans rfl))).trans k18_9002_0)
      have kb42_9005_0 : fr0 M37 = g9005_0 := ((fr0_of (fun j => ((St.ka h37 (by decide) (by decide) (by decide)).trans ((Wr.b w33 rfl).trans rfl)))).trans k18_9005_0)
      refine Tr.imp (Tr.deep (by decide) (sp_X12_pushes_120 hS.1 a1 (by and_intros <;> omega) (by omega) (by have h1 := (hd_o hq6); omega) (by omega) (by omega))) ?_
      rintro M42 _ ⟨h42, rfl, z42_0, z42_1, z42_2⟩
      have hS := St.tr hS h42 (by decide) (by decide)
      obtain ⟨s42_120_43, es42_120_43⟩ : ∃ v, rd M42 120 43 = v := ⟨_, rfl⟩
      have bs42_120_43 : 0 ≤ s42_120_43 ∧ s42_120_43 ≤ 20 := by rw [← es42_120_43]; exact ir_120_43 hS.1.2.1
      obtain ⟨s42_9002_0, es42_9002_0⟩ : ∃ v, n4v M42 = v := ⟨_, rfl⟩
      have bs42_9002_0 : 0 ≤ s42_9002_0 ∧ s42_9002_0 ≤ 20 := by rw [← es42_9002_0]; exact (n4v_b hS.1.2.1)
      obtain ⟨s42_9005_0, es42_9005_0⟩ : ∃ v, fr0 M42 = v := ⟨_, rfl⟩
      have bs42_9005_0 : 0 ≤ s42_9005_0 ∧ s42_9005_0 ≤ 5 := by rw [← es42_9005_0]; exact (fr0_b hS.1.2.1)
      refine Tr.sc [] rfl ?_
      have kr_120_3 : rd M42 120 3 = s37_120_3 := ((St.kp h42 (by decide) (by decide) (by decide)).trans es37_120_3)
      have kr_120_4 : rd M42 120 4 = s37_120_4 := ((St.kp h42 (by decide) (by decide) (by decide)).trans es37_120_4)
      have kr_120_5 : rd M42 120 5 = s37_120_5 := ((St.kp h42 (by decide) (by decide) (by decide)).trans es37_120_5)
      have kr_120_7 : rd M42 120 7 = s37_120_7 := ((St.kp h42 (by decide) (by decide) (by decide)).trans es37_120_7)
      have kr_120_8 : rd M42 120 8 = s37_120_8 := ((St.kp h42 (by decide) (by decide) (by decide)).trans es37_120_8)
      have kr_120_43 : rd M42 120 43 = s42_120_43 := es42_120_43
      have kr_120_44 : rd M42 120 44 = (g120_44 + 1) := ((St.kp h42 (by decide) (by decide) (by decide)).trans ((St.kp h37 (by decide) (by decide) (by decide)).trans w33.1))
      have kr_9002_0 : n4v M42 = s42_9002_0 := es42_9002_0
      have kr_9005_0 : fr0 M42 = s42_9005_0 := es42_9005_0
      have kr_9010_0 : tav M42 = s37_9010_0 := ((tav_of ((St.kp h42 (by decide) (by decide) (by decide)).trans rfl) ((St.kp h42 (by decide) (by decide) (by decide)).trans rfl)).trans es37_9010_0)
      exact Tr.vret (pc := 45) d_X12_opens_45 rfl ⟨hS, rfl, (by first | exact (hd_o z37_0) | exact (hd_o z37_0).elim (fun h1 => by omega) (fun h1 => by omega)), (by omega), (by first | exact (hd_o z37_2) | exact (hd_o z37_2).elim (fun h1 => by omega) (fun h1 => h1.elim (fun h1 => by omega) (fun h1 => by omega))), (by and_intros <;> omega), (by exact (hd_o t18_1).elim (fun h1 => by omega) (fun h1 => by omega)), (by exact (hd_o hq4).elim (fun h1 => (ne_o h1).elim (fun h2 => by omega) (fun h2 => (hd_o z37_5).elim (fun h3 => by omega) (fun h3 => by omega))) (fun h1 => (hd_o t18_1).elim (fun h2 => by omega) (fun h2 => by omega))), (by and_intros <;> omega), (by omega), (by omega), (by omega), (by omega)⟩
    · have kr_120_3 : rd M 120 3 = g120_3 := k18_120_3
      have kr_120_4 : rd M 120 4 = g120_4 := k18_120_4
      have kr_120_5 : rd M 120 5 = g120_5 := k18_120_5
      have kr_120_7 : rd M 120 7 = g120_7 := k18_120_7
      have kr_120_8 : rd M 120 8 = u18_120_8 := k18_120_8
      have kr_120_43 : rd M 120 43 = g120_43 := k18_120_43
      have kr_120_44 : rd M 120 44 = g120_44 := k18_120_44
      have kr_9002_0 : n4v M = g9002_0 := k18_9002_0
      have kr_9005_0 : fr0 M = g9005_0 := k18_9005_0
      have kr_9010_0 : tav M = g9010_0 := k18_9010_0
      exact Tr.vret (pc := 25) d_X12_opens_25 rfl ⟨hS, rfl, (by first | exact (hd_o hq0) | exact (hd_o hq0).elim (fun h1 => by omega) (fun h1 => by omega)), (by omega), (by first | exact (hd_o hq2) | exact (hd_o hq2).elim (fun h1 => by omega) (fun h1 => h1.elim (fun h1 => by omega) (fun h1 => by omega))), (by and_intros <;> omega), (by first | exact (hd_o t18_1) | exact (hd_o t18_1).elim (fun h1 => by omega) (fun h1 => by omega)), (by omega), (by and_intros <;> omega), (by omega), (by omega), (by omega), (by omega)⟩
  refine Tr.icmp_ne (pc := 6) (tgt := 18) d_X12_opens_6 rfl (fun c6 => ?_) (fun c6 => ?_)
  · have c6b : 0 ≤ g120_44 ∧ g120_44 ≤ 7 := by omega
    replace c6 := hd_i c6
    refine Tr.pick [0, 1] (ls2 := [(0, (2, 120)), (1, (0, a1))]) rfl ?_
    exact J18 _ _ hS (by and_intros <;> omega) eg120_3 eg120_4 eg120_43 eg120_44 eg120_46 eg120_5 eg120_7 eg120_8 eg9002_0 eg9005_0 eg9010_0 (by omega) (by omega)
  · refine Tr.aload_n (pc := 9) (i := 0) d_X12_opens_9 rfl rfl ?_
    refine Tr.iconst (pc := 10) d_X12_opens_10 (by decide) ?_
    refine Tr.aload_n (pc := 11) (i := 0) d_X12_opens_11 rfl rfl ?_
    refine Tr.getf (pc := 12) d_X12_opens_12 f_12_23 (by decide) (by decide) (ty_120 hS.1.1) ?_
    refine Tr.tp g120_4 eg120_4 ?_
    refine Tr.callV (pc := 15) (as := [_, _]) d_X12_opens_15 s_12_389 ok_X12_blame rfl rfl (Nat.le_of_ble_eq_true rfl) (Nat.le_of_ble_eq_true rfl) (by decide) (ty_120 hS.1.1) ?_
    have kb15_120_8 : rd M0 120 8 = g120_8 := eg120_8
    refine Tr.imp (Tr.deep (by decide) (sp_X12_blame_120 hS.1 5 (by omega) g120_4 (by and_intros <;> omega))) ?_
    rintro M15 _ ⟨h15, rfl, z15_0⟩
    have hS := St.tr hS h15 (by decide) (by decide)
    obtain ⟨s15_120_8, es15_120_8⟩ : ∃ v, rd M15 120 8 = v := ⟨_, rfl⟩
    have bs15_120_8 : 0 ≤ s15_120_8 ∧ s15_120_8 ≤ 5 := by rw [← es15_120_8]; exact ir_120_8 hS.1.2.1
    replace z15_0 := hd_i z15_0
    refine Tr.sc [] rfl ?_
    refine Tr.pick [0, 1] (ls2 := [(0, (2, 120)), (1, (0, a1))]) rfl ?_
    exact J18 _ _ hS (by and_intros <;> omega) ((St.kp h15 (by decide) (by decide) (by decide)).trans eg120_3) ((St.kp h15 (by decide) (by decide) (by decide)).trans eg120_4) ((St.kp h15 (by decide) (by decide) (by decide)).trans eg120_43) ((St.kp h15 (by decide) (by decide) (by decide)).trans eg120_44) ((St.kp h15 (by decide) (by decide) (by decide)).trans eg120_46) ((St.kp h15 (by decide) (by decide) (by decide)).trans eg120_5) ((St.kp h15 (by decide) (by decide) (by decide)).trans eg120_7) es15_120_8 ((n4v_of (fun j => ((St.ka h15 (by decide) (by decide) (by decide)).trans rfl)) ((St.kp h15 (by decide) (by decide) (by decide)).trans rfl)).trans eg9002_0) ((fr0_of (fun j => ((St.ka h15 (by decide) (by decide) (by decide)).trans rfl))).trans eg9005_0) ((tav_of ((St.kp h15 (by decide) (by decide) (by decide)).trans rfl) ((St.kp h15 (by decide) (by decide) (by decide)).trans rfl)).trans eg9010_0) (by exact (hd_o z15_0).elim (fun h1 => by omega) (fun h1 => by omega)) (by exact (hd_o z15_0).elim (fun h1 => by omega) (fun h1 => by omega))

def ws_X12_add_120 : List (Int × Int) := [(120, 36)]
def as_X12_add_120 : List Int := [143, 144]
def q_X12_add_120 (a1 a2 : Int) (M0 M' : Mem) (r : Option PV) : Prop := St Pm1 ws_X12_add_120 as_X12_add_120 M0 M' ∧ r = none ∧ (rd M' 120 36 = rd M0 120 36 + 1) ∧ ((a1 ≤ 5 ∧ Dv1 M' = Dv1 M0 + 1) ∨ (a1 = 18 ∧ Dv1 M' = Dv1 M0) ∨ (5 < a1 ∧ a1 ≠ 18 ∧ Dv1 M' = Dv1 M0 - 1))
set_option maxRecDepth 100000 in
set_option maxHeartbeats 4000000 in
theorem sp_X12_add_120 {l : Launch} {K : EC} {M0 : Mem} (hI : In Pm1 M0) (en_120_37 : rd M0 120 37 = 1) (a1 : Int) (ha1 : -2147483648 ≤ a1 ∧ a1 ≤ 2147483647) (a2 : Int) (ha2 : -2147483648 ≤ a2 ∧ a2 ≤ 2147483647) (hp0 : (a1 = 1 → 0 ≤ a2 ∧ a2 ≤ 2) ∧ (a1 = 2 ∨ a1 = 4 → 0 ≤ a2 ∧ a2 ≤ 5)) (hq0 : rd M0 120 36 ≤ 899) (hq1 : 1 ≤ rd M0 136 1) (hq2 : a1 ≤ 5 ∨ 1 ≤ Dv1 M0) (hq3 : a1 ≤ 5 ∨ a1 = 18 ∨ 2 ≤ Dv1 M0) : Tr l K 0 mX12_add 0 [(0, (2, 120)), (1, (0, a1)), (2, (0, a2))] [] M0 (q_X12_add_120 a1 a2 M0) := by
  have hS : St Pm1 ws_X12_add_120 as_X12_add_120 M0 M0 := St.rf hI
  obtain ⟨n, hn⟩ : ∃ v, rd M0 120 36 = v := ⟨_, rfl⟩
  have hb := ir_120_36 hI.2.1
  refine Tr.aload_n (pc := 0) (i := 0) d_X12_add_0 rfl rfl ?_
  refine Tr.getf (pc := 1) d_X12_add_1 f_12_115 (by decide) (by decide) (ty_120 hS.1.1) ?_
  refine Tr.tp 143 (fx_120_34 hS.1.1) ?_
  refine Tr.sipush (pc := 4) d_X12_add_4 rfl (by decide) ?_
  refine Tr.aload_n (pc := 7) (i := 0) d_X12_add_7 rfl rfl ?_
  refine Tr.getf (pc := 8) d_X12_add_8 f_12_124 (by decide) (by decide) (ty_120 hS.1.1) ?_
  refine Tr.tp 1 en_120_37 ?_
  refine Tr.imul (pc := 11) d_X12_add_11 ?_
  refine Tr.tp 900 (by decide) ?_
  refine Tr.aload_n (pc := 12) (i := 0) d_X12_add_12 rfl rfl ?_
  refine Tr.getf (pc := 13) d_X12_add_13 f_12_121 (by decide) (by decide) (ty_120 hS.1.1) ?_
  refine Tr.tp n hn ?_
  refine Tr.iadd (pc := 16) d_X12_add_16 ?_
  refine Tr.tp (900 + n) (w32_id (by omega)) ?_
  refine Tr.iload_n (pc := 17) (i := 1) d_X12_add_17 rfl rfl ?_
  refine Tr.iast (pc := 18) d_X12_add_18 (ty_143 hS.1.1) (by omega) (by omega) ?_
  refine Tr.aload_n (pc := 19) (i := 0) d_X12_add_19 rfl rfl ?_
  refine Tr.getf (pc := 20) d_X12_add_20 f_12_118 (by decide) (by decide) (show mT (wr M0 143 (900 + n) a1) 120 = (12, 121) from ty_120 (M := M0) hS.1.1) ?_
  refine Tr.tp 144 ((rd_wb _ rfl).trans (fx_120_35 (M := M0) hS.1.1)) ?_
  refine Tr.sipush (pc := 23) d_X12_add_23 rfl (by decide) ?_
  refine Tr.aload_n (pc := 26) (i := 0) d_X12_add_26 rfl rfl ?_
  refine Tr.getf (pc := 27) d_X12_add_27 f_12_124 (by decide) (by decide) (show mT (wr M0 143 (900 + n) a1) 120 = (12, 121) from ty_120 (M := M0) hS.1.1) ?_
  refine Tr.tp 1 ((rd_wb _ rfl).trans en_120_37) ?_
  refine Tr.imul (pc := 30) d_X12_add_30 ?_
  refine Tr.tp 900 (by decide) ?_
  refine Tr.aload_n (pc := 31) (i := 0) d_X12_add_31 rfl rfl ?_
  refine Tr.getf (pc := 32) d_X12_add_32 f_12_121 (by decide) (by decide) (show mT (wr M0 143 (900 + n) a1) 120 = (12, 121) from ty_120 (M := M0) hS.1.1) ?_
  refine Tr.tp n ((rd_wb _ rfl).trans hn) ?_
  refine Tr.iadd (pc := 35) d_X12_add_35 ?_
  refine Tr.tp (900 + n) (w32_id (by omega)) ?_
  refine Tr.iload_n (pc := 36) (i := 2) d_X12_add_36 rfl rfl ?_
  refine Tr.iastS (pc := 37) (P := fun M1 => St Tru ws_X12_add_120 as_X12_add_120 M0 M1) d_X12_add_37 (show mT (wr M0 143 (900 + n) a1) 144 = (20, 1800) from ty_144 (M := M0) hS.1.1) (by omega) (by omega) (St.two (x := 143) (y := 144) 96 97 hS.wk (by decide) hp0 (by decide) (by decide) rfl (by decide +kernel) (by decide +kernel) (by decide +kernel) (by omega) rfl (by decide +kernel) (by decide +kernel) (by decide +kernel) (by omega) trivial) (fun M37 hS9 w37 => ?_)
  have ho : ∀ y j : Int, ¬ (y = 143 ∧ j = 900 + n) → y ≠ 144 → rd M37 y j = rd M0 y j := fun y j c1 c2 => by rw [w37.2 _ _ (fun d => c2 d.1), rd_wn _ c1]
  have e1 : rd M37 143 (900 + n) = a1 := by rw [w37.2 _ _ (fun d => absurd d.1 (by decide)), rd_ws]
  have hA := Pm1_add hI.2.2.2.2 hI.2.1 hn (by omega) (by omega) e1 ho (fun c => by omega) (fun c c2 => by omega)
  refine Tr.aload_n (pc := 38) (i := 0) d_X12_add_38 rfl rfl ?_
  refine Tr.dup (pc := 39) d_X12_add_39 ne21 ?_
  refine Tr.getf (pc := 40) d_X12_add_40 f_12_121 (by decide) (by decide) (ty_120 hS9.1.1) ?_
  refine Tr.tp n ((ho 120 36 (fun d => absurd d.1 (by decide)) (by decide)).trans hn) ?_
  refine Tr.iconst (pc := 43) d_X12_add_43 (by decide) ?_
  refine Tr.iadd (pc := 44) d_X12_add_44 ?_
  refine Tr.tp (n + 1) (w32_id (by omega)) ?_
  have hS8 : St Tru ws_X12_add_120 as_X12_add_120 M0 (wr M37 120 36 (n + 1)) := st_120_36 hS9 (by decide) (by omega) trivial
  have hq := hA.2
  have hl := dl_c a1
  have hc : rd (wr M37 120 36 (n + 1)) 120 36 = n + 1 := rd_ws _ _ _ _
  refine Tr.putf (pc := 45) d_X12_add_45 f_12_121 (by decide) (by decide) (ty_120 hS9.1.1) ?_
  exact Tr.vret (pc := 48) d_X12_add_48 rfl ⟨St.rn hS8 hA.1, rfl, by omega, by omega⟩

def ws_X12_add_120_w1 : List (Int × Int) := [(120, 36)]
def as_X12_add_120_w1 : List Int := [143, 144]
def q_X12_add_120_w1 (a1 a2 : Int) (M0 M' : Mem) (r : Option PV) : Prop := St Pm1 ws_X12_add_120_w1 as_X12_add_120_w1 M0 M' ∧ r = none ∧ (rd M' 120 36 = rd M0 120 36 + 1) ∧ ((a1 ≤ 5 ∧ Dv1 M' = Dv1 M0 + 1) ∨ (a1 = 18 ∧ Dv1 M' = Dv1 M0) ∨ (5 < a1 ∧ a1 ≠ 18 ∧ Dv1 M' = Dv1 M0 - 1))
set_option maxRecDepth 100000 in
set_option maxHeartbeats 4000000 in
theorem sp_X12_add_120_w1 {l : Launch} {K : EC} {M0 : Mem} (hI : In Pm1 M0) (en_120_37 : rd M0 120 37 = 1) (a1 : Int) (ha1 : -2147483648 ≤ a1 ∧ a1 ≤ 2147483647) (a2 : Int) (ha2 : -2147483648 ≤ a2 ∧ a2 ≤ 2147483647) (hp0 : (a1 = 1 → 0 ≤ a2 ∧ a2 ≤ 2) ∧ (a1 = 2 ∨ a1 = 4 → 0 ≤ a2 ∧ a2 ≤ 5)) (hq0 : rd M0 120 36 ≤ 899) (hq1 : 1 ≤ rd M0 136 1) (hq2 : a1 ≤ 5 ∨ 1 ≤ Dv1 M0) (hq3 : a1 ≤ 5 ∨ a1 = 18 ∨ 2 ≤ Dv1 M0) : Tr l K 0 mX12_add 0 [(0, (2, 120)), (1, (0, a1)), (2, (0, a2))] [] M0 (q_X12_add_120_w1 a1 a2 M0) := by
  have hS : St Pm1 ws_X12_add_120_w1 as_X12_add_120_w1 M0 M0 := St.rf hI
  obtain ⟨n, hn⟩ : ∃ v, rd M0 120 36 = v := ⟨_, rfl⟩
  have hb := ir_120_36 hI.2.1
  refine Tr.aload_n (pc := 0) (i := 0) d_X12_add_0 rfl rfl ?_
  refine Tr.getf (pc := 1) d_X12_add_1 f_12_115 (by decide) (by decide) (ty_120 hS.1.1) ?_
  refine Tr.tp 143 (fx_120_34 hS.1.1) ?_
  refine Tr.sipush (pc := 4) d_X12_add_4 rfl (by decide) ?_
  refine Tr.aload_n (pc := 7) (i := 0) d_X12_add_7 rfl rfl ?_
  refine Tr.getf (pc := 8) d_X12_add_8 f_12_124 (by decide) (by decide) (ty_120 hS.1.1) ?_
  refine Tr.tp 1 en_120_37 ?_
  refine Tr.imul (pc := 11) d_X12_add_11 ?_
  refine Tr.tp 900 (by decide) ?_
  refine Tr.aload_n (pc := 12) (i := 0) d_X12_add_12 rfl rfl ?_
  refine Tr.getf (pc := 13) d_X12_add_13 f_12_121 (by decide) (by decide) (ty_120 hS.1.1) ?_
  refine Tr.tp n hn ?_
  refine Tr.iadd (pc := 16) d_X12_add_16 ?_
  refine Tr.tp (900 + n) (w32_id (by omega)) ?_
  refine Tr.iload_n (pc := 17) (i := 1) d_X12_add_17 rfl rfl ?_
  refine Tr.iast (pc := 18) d_X12_add_18 (ty_143 hS.1.1) (by omega) (by omega) ?_
  refine Tr.aload_n (pc := 19) (i := 0) d_X12_add_19 rfl rfl ?_
  refine Tr.getf (pc := 20) d_X12_add_20 f_12_118 (by decide) (by decide) (show mT (wr M0 143 (900 + n) a1) 120 = (12, 121) from ty_120 (M := M0) hS.1.1) ?_
  refine Tr.tp 144 ((rd_wb _ rfl).trans (fx_120_35 (M := M0) hS.1.1)) ?_
  refine Tr.sipush (pc := 23) d_X12_add_23 rfl (by decide) ?_
  refine Tr.aload_n (pc := 26) (i := 0) d_X12_add_26 rfl rfl ?_
  refine Tr.getf (pc := 27) d_X12_add_27 f_12_124 (by decide) (by decide) (show mT (wr M0 143 (900 + n) a1) 120 = (12, 121) from ty_120 (M := M0) hS.1.1) ?_
  refine Tr.tp 1 ((rd_wb _ rfl).trans en_120_37) ?_
  refine Tr.imul (pc := 30) d_X12_add_30 ?_
  refine Tr.tp 900 (by decide) ?_
  refine Tr.aload_n (pc := 31) (i := 0) d_X12_add_31 rfl rfl ?_
  refine Tr.getf (pc := 32) d_X12_add_32 f_12_121 (by decide) (by decide) (show mT (wr M0 143 (900 + n) a1) 120 = (12, 121) from ty_120 (M := M0) hS.1.1) ?_
  refine Tr.tp n ((rd_wb _ rfl).trans hn) ?_
  refine Tr.iadd (pc := 35) d_X12_add_35 ?_
  refine Tr.tp (900 + n) (w32_id (by omega)) ?_
  refine Tr.iload_n (pc := 36) (i := 2) d_X12_add_36 rfl rfl ?_
  refine Tr.iastS (pc := 37) (P := fun M1 => St Tru ws_X12_add_120_w1 as_X12_add_120_w1 M0 M1) d_X12_add_37 (show mT (wr M0 143 (900 + n) a1) 144 = (20, 1800) from ty_144 (M := M0) hS.1.1) (by omega) (by omega) (St.two (x := 143) (y := 144) 96 97 hS.wk (by decide) hp0 (by decide) (by decide) rfl (by decide +kernel) (by decide +kernel) (by decide +kernel) (by omega) rfl (by decide +kernel) (by decide +kernel) (by decide +kernel) (by omega) trivial) (fun M37 hS9 w37 => ?_)
  have ho : ∀ y j : Int, ¬ (y = 143 ∧ j = 900 + n) → y ≠ 144 → rd M37 y j = rd M0 y j := fun y j c1 c2 => by rw [w37.2 _ _ (fun d => c2 d.1), rd_wn _ c1]
  have e1 : rd M37 143 (900 + n) = a1 := by rw [w37.2 _ _ (fun d => absurd d.1 (by decide)), rd_ws]
  have hA := Pm1_add hI.2.2.2.2 hI.2.1 hn (by omega) (by omega) e1 ho (fun c => by omega) (fun c c2 => by omega)
  refine Tr.aload_n (pc := 38) (i := 0) d_X12_add_38 rfl rfl ?_
  refine Tr.dup (pc := 39) d_X12_add_39 ne21 ?_
  refine Tr.getf (pc := 40) d_X12_add_40 f_12_121 (by decide) (by decide) (ty_120 hS9.1.1) ?_
  refine Tr.tp n ((ho 120 36 (fun d => absurd d.1 (by decide)) (by decide)).trans hn) ?_
  refine Tr.iconst (pc := 43) d_X12_add_43 (by decide) ?_
  refine Tr.iadd (pc := 44) d_X12_add_44 ?_
  refine Tr.tp (n + 1) (w32_id (by omega)) ?_
  have hS8 : St Tru ws_X12_add_120_w1 as_X12_add_120_w1 M0 (wr M37 120 36 (n + 1)) := st_120_36 hS9 (by decide) (by omega) trivial
  have hq := hA.2
  have hl := dl_c a1
  have hc : rd (wr M37 120 36 (n + 1)) 120 36 = n + 1 := rd_ws _ _ _ _
  refine Tr.putf (pc := 45) d_X12_add_45 f_12_121 (by decide) (by decide) (ty_120 hS9.1.1) ?_
  exact Tr.vret (pc := 48) d_X12_add_48 rfl ⟨St.rn hS8 hA.1, rfl, by omega, by omega⟩

def ws_X12_add_120_w2 : List (Int × Int) := [(120, 36)]
def as_X12_add_120_w2 : List Int := [143, 144]
def q_X12_add_120_w2 (a1 a2 : Int) (M0 M' : Mem) (r : Option PV) : Prop := St Pm1 ws_X12_add_120_w2 as_X12_add_120_w2 M0 M' ∧ r = none ∧ (rd M' 120 36 = rd M0 120 36 + 1) ∧ ((a1 ≤ 5 ∧ Dv1 M' = Dv1 M0 + 1) ∨ (a1 = 18 ∧ Dv1 M' = Dv1 M0) ∨ (5 < a1 ∧ a1 ≠ 18 ∧ Dv1 M' = Dv1 M0 - 1))
set_option maxRecDepth 100000 in
set_option maxHeartbeats 4000000 in
theorem sp_X12_add_120_w2 {l : Launch} {K : EC} {M0 : Mem} (hI : In Pm1 M0) (en_120_37 : rd M0 120 37 = 1) (a1 : Int) (ha1 : -2147483648 ≤ a1 ∧ a1 ≤ 2147483647) (a2 : Int) (ha2 : -2147483648 ≤ a2 ∧ a2 ≤ 2147483647) (hp0 : (a1 = 1 → 0 ≤ a2 ∧ a2 ≤ 2) ∧ (a1 = 2 ∨ a1 = 4 → 0 ≤ a2 ∧ a2 ≤ 5)) (hq0 : rd M0 120 36 ≤ 899) (hq1 : 1 ≤ rd M0 136 1) (hq2 : a1 ≤ 5 ∨ 1 ≤ Dv1 M0) (hq3 : a1 ≤ 5 ∨ a1 = 18 ∨ 2 ≤ Dv1 M0) : Tr l K 0 mX12_add 0 [(0, (2, 120)), (1, (0, a1)), (2, (0, a2))] [] M0 (q_X12_add_120_w2 a1 a2 M0) := by
  have hS : St Pm1 ws_X12_add_120_w2 as_X12_add_120_w2 M0 M0 := St.rf hI
  obtain ⟨n, hn⟩ : ∃ v, rd M0 120 36 = v := ⟨_, rfl⟩
  have hb := ir_120_36 hI.2.1
  refine Tr.aload_n (pc := 0) (i := 0) d_X12_add_0 rfl rfl ?_
  refine Tr.getf (pc := 1) d_X12_add_1 f_12_115 (by decide) (by decide) (ty_120 hS.1.1) ?_
  refine Tr.tp 143 (fx_120_34 hS.1.1) ?_
  refine Tr.sipush (pc := 4) d_X12_add_4 rfl (by decide) ?_
  refine Tr.aload_n (pc := 7) (i := 0) d_X12_add_7 rfl rfl ?_
  refine Tr.getf (pc := 8) d_X12_add_8 f_12_124 (by decide) (by decide) (ty_120 hS.1.1) ?_
  refine Tr.tp 1 en_120_37 ?_
  refine Tr.imul (pc := 11) d_X12_add_11 ?_
  refine Tr.tp 900 (by decide) ?_
  refine Tr.aload_n (pc := 12) (i := 0) d_X12_add_12 rfl rfl ?_
  refine Tr.getf (pc := 13) d_X12_add_13 f_12_121 (by decide) (by decide) (ty_120 hS.1.1) ?_
  refine Tr.tp n hn ?_
  refine Tr.iadd (pc := 16) d_X12_add_16 ?_
  refine Tr.tp (900 + n) (w32_id (by omega)) ?_
  refine Tr.iload_n (pc := 17) (i := 1) d_X12_add_17 rfl rfl ?_
  refine Tr.iast (pc := 18) d_X12_add_18 (ty_143 hS.1.1) (by omega) (by omega) ?_
  refine Tr.aload_n (pc := 19) (i := 0) d_X12_add_19 rfl rfl ?_
  refine Tr.getf (pc := 20) d_X12_add_20 f_12_118 (by decide) (by decide) (show mT (wr M0 143 (900 + n) a1) 120 = (12, 121) from ty_120 (M := M0) hS.1.1) ?_
  refine Tr.tp 144 ((rd_wb _ rfl).trans (fx_120_35 (M := M0) hS.1.1)) ?_
  refine Tr.sipush (pc := 23) d_X12_add_23 rfl (by decide) ?_
  refine Tr.aload_n (pc := 26) (i := 0) d_X12_add_26 rfl rfl ?_
  refine Tr.getf (pc := 27) d_X12_add_27 f_12_124 (by decide) (by decide) (show mT (wr M0 143 (900 + n) a1) 120 = (12, 121) from ty_120 (M := M0) hS.1.1) ?_
  refine Tr.tp 1 ((rd_wb _ rfl).trans en_120_37) ?_
  refine Tr.imul (pc := 30) d_X12_add_30 ?_
  refine Tr.tp 900 (by decide) ?_
  refine Tr.aload_n (pc := 31) (i := 0) d_X12_add_31 rfl rfl ?_
  refine Tr.getf (pc := 32) d_X12_add_32 f_12_121 (by decide) (by decide) (show mT (wr M0 143 (900 + n) a1) 120 = (12, 121) from ty_120 (M := M0) hS.1.1) ?_
  refine Tr.tp n ((rd_wb _ rfl).trans hn) ?_
  refine Tr.iadd (pc := 35) d_X12_add_35 ?_
  refine Tr.tp (900 + n) (w32_id (by omega)) ?_
  refine Tr.iload_n (pc := 36) (i := 2) d_X12_add_36 rfl rfl ?_
  refine Tr.iastS (pc := 37) (P := fun M1 => St Tru ws_X12_add_120_w2 as_X12_add_120_w2 M0 M1) d_X12_add_37 (show mT (wr M0 143 (900 + n) a1) 144 = (20, 1800) from ty_144 (M := M0) hS.1.1) (by omega) (by omega) (St.two (x := 143) (y := 144) 96 97 hS.wk (by decide) hp0 (by decide) (by decide) rfl (by decide +kernel) (by decide +kernel) (by decide +kernel) (by omega) rfl (by decide +kernel) (by decide +kernel) (by decide +kernel) (by omega) trivial) (fun M37 hS9 w37 => ?_)
  have ho : ∀ y j : Int, ¬ (y = 143 ∧ j = 900 + n) → y ≠ 144 → rd M37 y j = rd M0 y j := fun y j c1 c2 => by rw [w37.2 _ _ (fun d => c2 d.1), rd_wn _ c1]
  have e1 : rd M37 143 (900 + n) = a1 := by rw [w37.2 _ _ (fun d => absurd d.1 (by decide)), rd_ws]
  have hA := Pm1_add hI.2.2.2.2 hI.2.1 hn (by omega) (by omega) e1 ho (fun c => by omega) (fun c c2 => by omega)
  refine Tr.aload_n (pc := 38) (i := 0) d_X12_add_38 rfl rfl ?_
  refine Tr.dup (pc := 39) d_X12_add_39 ne21 ?_
  refine Tr.getf (pc := 40) d_X12_add_40 f_12_121 (by decide) (by decide) (ty_120 hS9.1.1) ?_
  refine Tr.tp n ((ho 120 36 (fun d => absurd d.1 (by decide)) (by decide)).trans hn) ?_
  refine Tr.iconst (pc := 43) d_X12_add_43 (by decide) ?_
  refine Tr.iadd (pc := 44) d_X12_add_44 ?_
  refine Tr.tp (n + 1) (w32_id (by omega)) ?_
  have hS8 : St Tru ws_X12_add_120_w2 as_X12_add_120_w2 M0 (wr M37 120 36 (n + 1)) := st_120_36 hS9 (by decide) (by omega) trivial
  have hq := hA.2
  have hl := dl_c a1
  have hc : rd (wr M37 120 36 (n + 1)) 120 36 = n + 1 := rd_ws _ _ _ _
  refine Tr.putf (pc := 45) d_X12_add_45 f_12_121 (by decide) (by decide) (ty_120 hS9.1.1) ?_
  exact Tr.vret (pc := 48) d_X12_add_48 rfl ⟨St.rn hS8 hA.1, rfl, by omega, by omega⟩

def ws_X12_operand_120 : List (Int × Int) := [(120, 3), (120, 4), (120, 5), (120, 6), (120, 7), (120, 8), (120, 9), (120, 36), (120, 43), (120, 44), (120, 46)]
def as_X12_operand_120 : List Int := [143, 144, 145, 146, 147, 148, 149, 150]
def q_X12_operand_120 (M0 M' : Mem) (r : Option PV) : Prop := St Pm1 ws_X12_operand_120 as_X12_operand_120 M0 M' ∧ ∃ v : Int, r = some (0, v) ∧ 0 ≤ v ∧ v ≤ 1 ∧ (rd M' 120 3 = 0 ∨ rd M' 120 4 + 1 ≤ rd M' 120 5) ∧ (rd M' 120 4 ≤ rd M' 120 5) ∧ (rd M' 120 3 ≠ 1 ∨ rd M' 120 4 + 2 ≤ rd M' 120 5 ∨ rd M' 120 7 < 256) ∧ (rd M0 120 4 ≤ rd M' 120 4 ∧ rd M0 120 5 ≤ rd M' 120 5 ∧ tav M0 ≤ tav M') ∧ (rd M0 120 8 = 0 ∨ rd M' 120 8 = rd M0 120 8) ∧ (1 ≤ rd M' 120 8 ∨ tav M0 < tav M') ∧ (rd M' 120 36 + rd M' 120 46 + rd M' 120 44 ≤ rd M' 120 4) ∧ (1 ≤ rd M' 120 43) ∧ (rd M' 120 50 + rd M' 120 43 ≤ rd M' 120 44 + 1) ∧ (fr0 M' ≤ 1) ∧ (1 ≤ rd M' 136 1) ∧ (1 ≤ rd M' 120 8 ∨ 2 * rd M' 120 46 + v ≤ rd M' 120 4) ∧ (1 ≤ rd M' 120 8 ∨ nb2v M' + n4v M' + v ≤ Dv1 M')
set_option maxRecDepth 100000 in
set_option maxHeartbeats 4000000 in
theorem sp_X12_operand_120 {l : Launch} {K : EC} {M0 : Mem} (hI : In Pm1 M0) (en_120_37 : rd M0 120 37 = 1)   (hq0 : rd M0 120 3 = 0 ∨ rd M0 120 4 + 1 ≤ rd M0 120 5) (hq1 : rd M0 120 4 ≤ rd M0 120 5) (hq2 : rd M0 120 3 ≠ 1 ∨ rd M0 120 4 + 2 ≤ rd M0 120 5 ∨ rd M0 120 7 < 256) (hq3 : rd M0 120 8 = 0) (hq4 : 2 * rd M0 120 46 ≤ rd M0 120 4) (hq5 : nb2v M0 + n4v M0 ≤ Dv1 M0) (hq6 : rd M0 120 36 + rd M0 120 46 + rd M0 120 44 ≤ rd M0 120 4) (hq7 : 1 ≤ rd M0 120 43) (hq8 : rd M0 120 50 + rd M0 120 43 ≤ rd M0 120 44 + 1) (hq9 : fr0 M0 ≤ 1) (hq10 : 1 ≤ rd M0 136 1) : Tr l K 3 mX12_operand 0 [(0, (2, 120))] [] M0 (q_X12_operand_120 M0) := by
  have hS : St Pm1 ws_X12_operand_120 as_X12_operand_120 M0 M0 := St.rf hI
  obtain ⟨g120_8, eg120_8⟩ : ∃ v, rd M0 120 8 = v := ⟨_, rfl⟩
  have bg120_8 : 0 ≤ g120_8 ∧ g120_8 ≤ 5 := by rw [← eg120_8]; exact ir_120_8 hI.2.1
  obtain ⟨g120_3, eg120_3⟩ : ∃ v, rd M0 120 3 = v := ⟨_, rfl⟩
  have bg120_3 : 0 ≤ g120_3 ∧ g120_3 ≤ 3 := by rw [← eg120_3]; exact ir_120_3 hI.2.1
  obtain ⟨g120_4, eg120_4⟩ : ∃ v, rd M0 120 4 = v := ⟨_, rfl⟩
  have bg120_4 : 0 ≤ g120_4 ∧ g120_4 ≤ 900 := by rw [← eg120_4]; exact ir_120_4 hI.2.1
  obtain ⟨g120_5, eg120_5⟩ : ∃ v, rd M0 120 5 = v := ⟨_, rfl⟩
  have bg120_5 : 0 ≤ g120_5 ∧ g120_5 ≤ 900 := by rw [← eg120_5]; exact ir_120_5 hI.2.1
  obtain ⟨g120_7, eg120_7⟩ : ∃ v, rd M0 120 7 = v := ⟨_, rfl⟩
  have bg120_7 : (-9223372036854775808) ≤ g120_7 ∧ g120_7 ≤ 9223372036854775807 := by rw [← eg120_7]; exact ir_120_7 hI.2.1
  obtain ⟨g9010_0, eg9010_0⟩ : ∃ v, tav M0 = v := ⟨_, rfl⟩
  have bg9010_0 : (-1) ≤ g9010_0 ∧ g9010_0 ≤ 1800 := by rw [← eg9010_0]; exact (tav_b hI.2.1)
  obtain ⟨g120_6, eg120_6⟩ : ∃ v, rd M0 120 6 = v := ⟨_, rfl⟩
  have bg120_6 : (-2147483648) ≤ g120_6 ∧ g120_6 ≤ 2147483647 := by rw [← eg120_6]; exact ir_120_6 hI.2.1
  obtain ⟨g120_36, eg120_36⟩ : ∃ v, rd M0 120 36 = v := ⟨_, rfl⟩
  have bg120_36 : 0 ≤ g120_36 ∧ g120_36 ≤ 900 := by rw [← eg120_36]; exact ir_120_36 hI.2.1
  obtain ⟨g120_46, eg120_46⟩ : ∃ v, rd M0 120 46 = v := ⟨_, rfl⟩
  have bg120_46 : 0 ≤ g120_46 ∧ g120_46 ≤ 500 := by rw [← eg120_46]; exact ir_120_46 hI.2.1
  obtain ⟨g120_44, eg120_44⟩ : ∃ v, rd M0 120 44 = v := ⟨_, rfl⟩
  have bg120_44 : 0 ≤ g120_44 ∧ g120_44 ≤ 8 := by rw [← eg120_44]; exact ir_120_44 hI.2.1
  obtain ⟨g120_43, eg120_43⟩ : ∃ v, rd M0 120 43 = v := ⟨_, rfl⟩
  have bg120_43 : 0 ≤ g120_43 ∧ g120_43 ≤ 20 := by rw [← eg120_43]; exact ir_120_43 hI.2.1
  obtain ⟨g120_50, eg120_50⟩ : ∃ v, rd M0 120 50 = v := ⟨_, rfl⟩
  have bg120_50 : 0 ≤ g120_50 ∧ g120_50 ≤ 20 := by rw [← eg120_50]; exact ir_120_50 hI.2.1
  obtain ⟨g9001_0, eg9001_0⟩ : ∃ v, nb2v M0 = v := ⟨_, rfl⟩
  have bg9001_0 : 0 ≤ g9001_0 ∧ g9001_0 ≤ 1000000 := by rw [← eg9001_0]; exact (nb2v_b hI.2.1)
  obtain ⟨g9002_0, eg9002_0⟩ : ∃ v, n4v M0 = v := ⟨_, rfl⟩
  have bg9002_0 : 0 ≤ g9002_0 ∧ g9002_0 ≤ 20 := by rw [← eg9002_0]; exact (n4v_b hI.2.1)
  obtain ⟨g9005_0, eg9005_0⟩ : ∃ v, fr0 M0 = v := ⟨_, rfl⟩
  have bg9005_0 : 0 ≤ g9005_0 ∧ g9005_0 ≤ 5 := by rw [← eg9005_0]; exact (fr0_b hI.2.1)
  obtain ⟨g9004_0, eg9004_0⟩ : ∃ v, Dv1 M0 = v := ⟨_, rfl⟩
  have bg9004_0 : (-1000) ≤ g9004_0 ∧ g9004_0 ≤ 1000 := by rw [← eg9004_0]; exact (Dv1_b hI.2.1)
  obtain ⟨g136_1, eg136_1⟩ : ∃ v, rd M0 136 1 = v := ⟨_, rfl⟩
  have bg136_1 : 0 ≤ g136_1 ∧ g136_1 ≤ 200 := by rw [← eg136_1]; exact ir_136_1 hI.2.1
  replace hq0 := hd_i hq0
  replace hq2 := hd_i hq2
  refine Tr.aload_n (pc := 0) (i := 0) d_X12_operand_0 rfl rfl ?_
  refine Tr.getf (pc := 1) d_X12_operand_1 f_12_143 (by decide) (by decide) (ty_120 hS.1.1) ?_
  refine Tr.tp g120_43 eg120_43 ?_
  refine Tr.iconst (pc := 4) d_X12_operand_4 (by decide) ?_
  refine Tr.isub (pc := 5) d_X12_operand_5 ?_
  refine Tr.tp (g120_43 - 1) ((w32_id (by and_intros <;> omega)).trans (by omega)) ?_
  refine Tr.istore_n (pc := 6) (i := 1) (ls2 := [(1, (0, (g120_43 - 1))), (0, (2, 120))]) d_X12_operand_6 rfl (by decide) rfl ?_
  refine Tr.aload_n (pc := 7) (i := 0) d_X12_operand_7 rfl rfl ?_
  refine Tr.getf (pc := 8) d_X12_operand_8 f_12_127 (by decide) (by decide) (ty_120 hS.1.1) ?_
  refine Tr.tp 145 (fx_120_38 hS.1.1) ?_
  refine Tr.iload_n (pc := 11) (i := 1) d_X12_operand_11 rfl rfl ?_
  refine Tr.iald (pc := 12) d_X12_operand_12 (ty_145 hS.1.1) (by omega) (by omega) ?_
  refine Tr.gen (P := fun v => (0 ≤ v ∧ v ≤ 5) ∧ ((g120_43 - 1) ≠ 0 ∨ v = g9005_0)) (by have h9 := (ar_145 hS.1.2.1 ((g120_43 - 1))); have h8 : fr0 M0 = g9005_0 := eg9005_0; refine ⟨h9, ?_⟩; by_cases c : (g120_43 - 1) = 0; (refine Or.inr ?_; rw [c]; exact h8); exact Or.inl c) (fun r12 er12 br12 => ?_)
  have br12d0 := hd_i br12.2
  replace br12 := And.intro br12.1.1  (br12.1.2)
  refine Tr.callS (pc := 13) (as := [_]) d_X12_operand_13 s_12_481 ok_X12_isTest rfl rfl (Nat.le_of_ble_eq_true rfl) (Nat.le_of_ble_eq_true rfl) ?_
  refine Tr.imp (Tr.deep (by decide) (sp_X12_isTest hS.1.wk r12 (by and_intros <;> omega))) ?_
  rintro M13 _ ⟨h13, r13, rfl, lr13, ur13, wr13⟩
  have h13 := St.rn h13 (Pm1.of hS.1.2.2.2.2 (fun _ => St.ka h13 (by decide) (by decide) (by decide)) (fun _ => St.ka h13 (by decide) (by decide) (by decide)) (fun _ => St.ka h13 (by decide) (by decide) (by decide)) (fun _ => St.ka h13 (by decide) (by decide) (by decide)) (fun _ => St.ka h13 (by decide) (by decide) (by decide)) (fun _ => St.ka h13 (by decide) (by decide) (by decide)) (fun _ => St.ka h13 (by decide) (by decide) (by decide)) (fun _ => St.ka h13 (by decide) (by decide) (by decide)) (fun _ => St.ka h13 (by decide) (by decide) (by decide)) (fun _ => St.ka h13 (by decide) (by decide) (by decide)) (St.kp h13 (by decide) (by decide) (by decide)) (St.kp h13 (by decide) (by decide) (by decide)) (St.kp h13 (by decide) (by decide) (by decide)) (St.kp h13 (by decide) (by decide) (by decide)) (St.kp h13 (by decide) (by decide) (by decide)) (St.kp h13 (by decide) (by decide) (by decide)) (St.kp h13 (by decide) (by decide) (by decide)) (St.kp h13 (by decide) (by decide) (by decide)) (St.kp h13 (by decide) (by decide) (by decide)) (St.kp h13 (by decide) (by decide) (by decide)) (St.kp h13 (by decide) (by decide) (by decide)))
  have hS := St.tr hS h13 (by decide) (by decide)
  replace wr13 := hd_i wr13
  refine Tr.sc [(0, r13)] rfl ?_
  have J33 : ∀ (M : Mem) (q33_0 : Int), St Pm1 ws_X12_operand_120 as_X12_operand_120 M0 M → (0 ≤ q33_0 ∧ q33_0 ≤ 1) → rd M 120 3 = g120_3 → rd M 120 36 = g120_36 → rd M 120 4 = g120_4 → rd M 120 43 = g120_43 → rd M 120 44 = g120_44 → rd M 120 46 = g120_46 → rd M 120 5 = g120_5 → rd M 120 50 = g120_50 → rd M 120 6 = g120_6 → rd M 120 7 = g120_7 → rd M 120 8 = g120_8 → rd M 136 1 = g136_1 → rd M 145 (g120_43 - 1) = r12 → nb2v M = g9001_0 → n4v M = g9002_0 → Dv1 M = g9004_0 → fr0 M = g9005_0 → tav M = g9010_0 → (g120_3 = 0 ∨ g120_4 + 1 ≤ g120_5) → (g120_4 ≤ g120_5) → (g120_3 ≠ 1 ∨ g120_4 + 2 ≤ g120_5 ∨ g120_7 < 256) → (g120_4 ≤ g120_4 ∧ g120_5 ≤ g120_5 ∧ g9010_0 ≤ g9010_0) → (g120_8 = 0 ∨ g120_8 = g120_8) → Tr l K 3 mX12_operand 33 [(0, (2, 120)), (1, (0, (g120_43 - 1)))] [(0, q33_0)] M (q_X12_operand_120 M0) := by
    intro M q33_0 hS bq33_0 k33_120_3 k33_120_36 k33_120_4 k33_120_43 k33_120_44 k33_120_46 k33_120_5 k33_120_50 k33_120_6 k33_120_7 k33_120_8 k33_136_1 k33_145_g120_431n1 k33_9001_0 k33_9002_0 k33_9004_0 k33_9005_0 k33_9010_0 t33_0 t33_1 t33_2 t33_3 t33_4
    clear er12
    replace t33_0 := hd_i t33_0
    replace t33_2 := hd_i t33_2
    replace t33_4 := hd_i t33_4
    refine Tr.istore_n (pc := 33) (i := 2) (ls2 := [(2, (0, q33_0)), (0, (2, 120)), (1, (0, (g120_43 - 1)))]) d_X12_operand_33 rfl (by decide) rfl ?_
    refine Tr.iload_n (pc := 34) (i := 2) d_X12_operand_34 rfl rfl ?_
    have J60 : ∀ (M : Mem), St Pm1 ws_X12_operand_120 as_X12_operand_120 M0 M → rd M 120 3 = g120_3 → rd M 120 36 = g120_36 → rd M 120 4 = g120_4 → rd M 120 43 = g120_43 → rd M 120 44 = g120_44 → rd M 120 46 = g120_46 → rd M 120 5 = g120_5 → rd M 120 50 = g120_50 → rd M 120 6 = g120_6 → rd M 120 7 = g120_7 → rd M 120 8 = g120_8 → rd M 136 1 = g136_1 → rd M 145 (g120_43 - 1) = r12 → nb2v M = g9001_0 → n4v M = g9002_0 → Dv1 M = g9004_0 → fr0 M = g9005_0 → tav M = g9010_0 → (g120_3 = 0 ∨ g120_4 + 1 ≤ g120_5) → (g120_4 ≤ g120_5) → (g120_3 ≠ 1 ∨ g120_4 + 2 ≤ g120_5 ∨ g120_7 < 256) → (g120_4 ≤ g120_4 ∧ g120_5 ≤ g120_5 ∧ g9010_0 ≤ g9010_0) → (g120_8 = 0 ∨ g120_8 = g120_8) → Tr l K 3 mX12_operand 60 [(0, (2, 120)), (1, (0, (g120_43 - 1))), (2, (0, q33_0))] [] M (q_X12_operand_120 M0) := by
      intro M  hS  k60_120_3 k60_120_36 k60_120_4 k60_120_43 k60_120_44 k60_120_46 k60_120_5 k60_120_50 k60_120_6 k60_120_7 k60_120_8 k60_136_1 k60_145_g120_431n1 k60_9001_0 k60_9002_0 k60_9004_0 k60_9005_0 k60_9010_0 t60_0 t60_1 t60_2 t60_3 t60_4
      clear k33_120_3 k33_120_36 k33_120_4 k33_120_43 k33_120_44 k33_120_46 k33_120_5 k33_120_50 k33_120_6 k33_120_7 k33_120_8 k33_136_1 k33_145_g120_431n1 k33_9001_0 k33_9002_0 k33_9004_0 k33_9005_0 k33_9010_0
      replace t60_0 := hd_i t60_0
      replace t60_2 := hd_i t60_2
      replace t60_4 := hd_i t60_4
      refine Tr.aload_n (pc := 60) (i := 0) d_X12_operand_60 rfl rfl ?_
      refine Tr.getf (pc := 61) d_X12_operand_61 f_12_133 (by decide) (by decide) (ty_120 hS.1.1) ?_
      refine Tr.tp 147 (fx_120_40 hS.1.1) ?_
      refine Tr.iload_n (pc := 64) (i := 1) d_X12_operand_64 rfl rfl ?_
      refine Tr.iconst (pc := 65) d_X12_operand_65 (by decide) ?_
      refine Tr.zastS (pc := 66) (P := St Pm1 ws_X12_operand_120 as_X12_operand_120 M0) d_X12_operand_66 (ty_147 hS.1.1) (by omega) (by omega) (by omega) (sa_147 hS (by decide) (by omega) (Pm1.of hS.1.2.2.2.2 (fun _ => rd_wb _ rfl) (fun _ => rd_wb _ rfl) (fun _ => rd_wb _ rfl) (fun _ => rd_wb _ rfl) (fun _ => rd_wb _ rfl) (fun _ => rd_wb _ rfl) (fun _ => rd_wb _ rfl) (fun _ => rd_wb _ rfl) (fun _ => rd_wb _ rfl) (fun _ => rd_wb _ rfl) (rd_wb _ rfl) (rd_wb _ rfl) (rd_wb _ rfl) (rd_wb _ rfl) (rd_wb _ rfl) (rd_wb _ rfl) (rd_wb _ rfl) (rd_wb _ rfl) (rd_wb _ rfl) (rd_wb _ rfl) (rd_wb _ rfl))) (fun M66 hS w66 => ?_)
      refine Tr.iload_n (pc := 67) (i := 2) d_X12_operand_67 rfl rfl ?_
      have J87 : ∀ (M : Mem), St Pm1 ws_X12_operand_120 as_X12_operand_120 M0 M → rd M 120 3 = g120_3 → rd M 120 36 = g120_36 → rd M 120 4 = g120_4 → rd M 120 43 = g120_43 → rd M 120 44 = g120_44 → rd M 120 46 = g120_46 → rd M 120 5 = g120_5 → rd M 120 50 = g120_50 → rd M 120 6 = g120_6 → rd M 120 7 = g120_7 → rd M 120 8 = g120_8 → rd M 136 1 = g136_1 → rd M 145 (g120_43 - 1) = r12 → rd M 147 (g120_43 - 1) = 0 → nb2v M = g9001_0 → n4v M = g9002_0 → Dv1 M = g9004_0 → fr0 M = g9005_0 → tav M = g9010_0 → (g120_3 = 0 ∨ g120_4 + 1 ≤ g120_5) → (g120_4 ≤ g120_5) → (g120_3 ≠ 1 ∨ g120_4 + 2 ≤ g120_5 ∨ g120_7 < 256) → (g120_4 ≤ g120_4 ∧ g120_5 ≤ g120_5 ∧ g9010_0 ≤ g9010_0) → (g120_8 = 0 ∨ g120_8 = g120_8) → Tr l K 3 mX12_operand 87 [(0, (2, 120)), (1, (0, (g120_43 - 1))), (2, (0, q33_0))] [] M (q_X12_operand_120 M0) := by
        intro M  hS  k87_120_3 k87_120_36 k87_120_4 k87_120_43 k87_120_44 k87_120_46 k87_120_5 k87_120_50 k87_120_6 k87_120_7 k87_120_8 k87_136_1 k87_145_g120_431n1 k87_147_g120_431n1 k87_9001_0 k87_9002_0 k87_9004_0 k87_9005_0 k87_9010_0 t87_0 t87_1 t87_2 t87_3 t87_4
        clear k60_120_3 k60_120_36 k60_120_4 k60_120_43 k60_120_44 k60_120_46 k60_120_5 k60_120_50 k60_120_6 k60_120_7 k60_120_8 k60_136_1 k60_145_g120_431n1 k60_9001_0 k60_9002_0 k60_9004_0 k60_9005_0 k60_9010_0 w66
        replace t87_0 := hd_i t87_0
        replace t87_2 := hd_i t87_2
        replace t87_4 := hd_i t87_4
        refine Tr.iload_n (pc := 87) (i := 2) d_X12_operand_87 rfl rfl ?_
        have J120 : ∀ (M : Mem), St Pm1 ws_X12_operand_120 as_X12_operand_120 M0 M → rd M 120 3 = g120_3 → rd M 120 36 = g120_36 → rd M 120 4 = g120_4 → rd M 120 43 = g120_43 → rd M 120 44 = g120_44 → rd M 120 46 = g120_46 → rd M 120 5 = g120_5 → rd M 120 50 = g120_50 → rd M 120 6 = g120_6 → rd M 120 7 = g120_7 → rd M 120 8 = g120_8 → rd M 136 1 = g136_1 → rd M 145 (g120_43 - 1) = r12 → rd M 147 (g120_43 - 1) = 0 → nb2v M = g9001_0 → n4v M = g9002_0 → Dv1 M = g9004_0 → fr0 M = g9005_0 → tav M = g9010_0 → (g120_3 = 0 ∨ g120_4 + 1 ≤ g120_5) → (g120_4 ≤ g120_5) → (g120_3 ≠ 1 ∨ g120_4 + 2 ≤ g120_5 ∨ g120_7 < 256) → (g120_4 ≤ g120_4 ∧ g120_5 ≤ g120_5 ∧ g9010_0 ≤ g9010_0) → (g120_8 = 0 ∨ g120_8 = g120_8) → Tr l K 3 mX12_operand 120 [(0, (2, 120)), (1, (0, (g120_43 - 1))), (2, (0, q33_0))] [] M (q_X12_operand_120 M0) := by
          intro M  hS  k120_120_3 k120_120_36 k120_120_4 k120_120_43 k120_120_44 k120_120_46 k120_120_5 k120_120_50 k120_120_6 k120_120_7 k120_120_8 k120_136_1 k120_145_g120_431n1 k120_147_g120_431n1 k120_9001_0 k120_9002_0 k120_9004_0 k120_9005_0 k120_9010_0 t120_0 t120_1 t120_2 t120_3 t120_4
          clear k87_120_3 k87_120_36 k87_120_4 k87_120_43 k87_120_44 k87_120_46 k87_120_5 k87_120_50 k87_120_6 k87_120_7 k87_120_8 k87_136_1 k87_145_g120_431n1 k87_147_g120_431n1 k87_9001_0 k87_9002_0 k87_9004_0 k87_9005_0 k87_9010_0
          replace t120_0 := hd_i t120_0
          replace t120_2 := hd_i t120_2
          replace t120_4 := hd_i t120_4
          refine Tr.iload_n (pc := 120) (i := 2) d_X12_operand_120 rfl rfl ?_
          have J166 : ∀ (M : Mem), St Pm1 ws_X12_operand_120 as_X12_operand_120 M0 M → rd M 120 3 = g120_3 → rd M 120 36 = g120_36 → rd M 120 4 = g120_4 → rd M 120 43 = g120_43 → rd M 120 44 = g120_44 → rd M 120 46 = g120_46 → rd M 120 5 = g120_5 → rd M 120 50 = g120_50 → rd M 120 6 = g120_6 → rd M 120 7 = g120_7 → rd M 120 8 = g120_8 → rd M 136 1 = g136_1 → rd M 145 (g120_43 - 1) = r12 → rd M 147 (g120_43 - 1) = 0 → nb2v M = g9001_0 → n4v M = g9002_0 → Dv1 M = g9004_0 → fr0 M = g9005_0 → tav M = g9010_0 → (g120_3 = 0 ∨ g120_4 + 1 ≤ g120_5) → (g120_4 ≤ g120_5) → (g120_3 ≠ 1 ∨ g120_4 + 2 ≤ g120_5 ∨ g120_7 < 256) → (g120_4 ≤ g120_4 ∧ g120_5 ≤ g120_5 ∧ g9010_0 ≤ g9010_0) → (g120_8 = 0 ∨ g120_8 = g120_8) → Tr l K 3 mX12_operand 166 [(0, (2, 120))] [] M (q_X12_operand_120 M0) := by
            intro M  hS  k166_120_3 k166_120_36 k166_120_4 k166_120_43 k166_120_44 k166_120_46 k166_120_5 k166_120_50 k166_120_6 k166_120_7 k166_120_8 k166_136_1 k166_145_g120_431n1 k166_147_g120_431n1 k166_9001_0 k166_9002_0 k166_9004_0 k166_9005_0 k166_9010_0 t166_0 t166_1 t166_2 t166_3 t166_4
            clear k120_120_3 k120_120_36 k120_120_4 k120_120_43 k120_120_44 k120_120_46 k120_120_5 k120_120_50 k120_120_6 k120_120_7 k120_120_8 k120_136_1 k120_145_g120_431n1 k120_147_g120_431n1 k120_9001_0 k120_9002_0 k120_9004_0 k120_9005_0 k120_9010_0
            replace t166_0 := hd_i t166_0
            replace t166_2 := hd_i t166_2
            replace t166_4 := hd_i t166_4
            refine Tr.aload_n (pc := 166) (i := 0) d_X12_operand_166 rfl rfl ?_
            refine Tr.bipush (pc := 167) d_X12_operand_167 rfl (by decide) ?_
            refine Tr.callV (pc := 169) (as := [_]) d_X12_operand_169 s_12_393 ok_X12_isSign rfl rfl (Nat.le_of_ble_eq_true rfl) (Nat.le_of_ble_eq_true rfl) (by decide) (ty_120 hS.1.1) ?_
            refine Tr.imp (Tr.deep (by decide) (sp_X12_isSign_120 hS.1.wk 40 (by omega))) ?_
            rintro M169 _ ⟨h169, r169, rfl, lr169, ur169, z169_0⟩
            have h169 := St.rn h169 (Pm1.of hS.1.2.2.2.2 (fun _ => St.ka h169 (by decide) (by decide) (by decide)) (fun _ => St.ka h169 (by decide) (by decide) (by decide)) (fun _ => St.ka h169 (by decide) (by decide) (by decide)) (fun _ => St.ka h169 (by decide) (by decide) (by decide)) (fun _ => St.ka h169 (by decide) (by decide) (by decide)) (fun _ => St.ka h169 (by decide) (by decide) (by decide)) (fun _ => St.ka h169 (by decide) (by decide) (by decide)) (fun _ => St.ka h169 (by decide) (by decide) (by decide)) (fun _ => St.ka h169 (by decide) (by decide) (by decide)) (fun _ => St.ka h169 (by decide) (by decide) (by decide)) (St.kp h169 (by decide) (by decide) (by decide)) (St.kp h169 (by decide) (by decide) (by decide)) (St.kp h169 (by decide) (by decide) (by decide)) (St.kp h169 (by decide) (by decide) (by decide)) (St.kp h169 (by decide) (by decide) (by decide)) (St.kp h169 (by decide) (by decide) (by decide)) (St.kp h169 (by decide) (by decide) (by decide)) (St.kp h169 (by decide) (by decide) (by decide)) (St.kp h169 (by decide) (by decide) (by decide)) (St.kp h169 (by decide) (by decide) (by decide)) (St.kp h169 (by decide) (by decide) (by decide)))
            have hS := St.tr hS h169 (by decide) (by decide)
            have ka169_120_3 : rd M169 120 3 = g120_3 := ((St.kp h169 (by decide) (by decide) (by decide)).trans k166_120_3)
            have ka169_120_6 : rd M169 120 6 = g120_6 := ((St.kp h169 (by decide) (by decide) (by decide)).trans k166_120_6)
            replace z169_0 := hd_i z169_0
            refine Tr.sc [(0, r169)] rfl ?_
            refine Tr.if_eq (pc := 172) (tgt := 182) d_X12_operand_172 rfl (fun c172 => ?_) (fun c172 => ?_)
            · refine Tr.aload_n (pc := 182) (i := 0) d_X12_operand_182 rfl rfl ?_
              refine Tr.ldc2 (pc := 183) d_X12_operand_183 kl_12_449 (by decide) ?_
              refine Tr.callV (pc := 186) (as := [_]) d_X12_operand_186 s_12_484 ok_X12_isWord rfl rfl (Nat.le_of_ble_eq_true rfl) (Nat.le_of_ble_eq_true rfl) (by decide) (ty_120 hS.1.1) ?_
              refine Tr.imp (Tr.deep (by decide) (sp_X12_isWord_120 hS.1.wk 7170414 (by omega))) ?_
              rintro M186 _ ⟨h186, r186, rfl, lr186, ur186, z186_0⟩
              have h186 := St.rn h186 (Pm1.of hS.1.2.2.2.2 (fun _ => St.ka h186 (by decide) (by decide) (by decide)) (fun _ => St.ka h186 (by decide) (by decide) (by decide)) (fun _ => St.ka h186 (by decide) (by decide) (by decide)) (fun _ => St.ka h186 (by decide) (by decide) (by decide)) (fun _ => St.ka h186 (by decide) (by decide) (by decide)) (fun _ => St.ka h186 (by decide) (by decide) (by decide)) (fun _ => St.ka h186 (by decide) (by decide) (by decide)) (fun _ => St.ka h186 (by decide) (by decide) (by decide)) (fun _ => St.ka h186 (by decide) (by decide) (by decide)) (fun _ => St.ka h186 (by decide) (by decide) (by decide)) (St.kp h186 (by decide) (by decide) (by decide)) (St.kp h186 (by decide) (by decide) (by decide)) (St.kp h186 (by decide) (by decide) (by decide)) (St.kp h186 (by decide) (by decide) (by decide)) (St.kp h186 (by decide) (by decide) (by decide)) (St.kp h186 (by decide) (by decide) (by decide)) (St.kp h186 (by decide) (by decide) (by decide)) (St.kp h186 (by decide) (by decide) (by decide)) (St.kp h186 (by decide) (by decide) (by decide)) (St.kp h186 (by decide) (by decide) (by decide)) (St.kp h186 (by decide) (by decide) (by decide)))
              have hS := St.tr hS h186 (by decide) (by decide)
              have ka186_120_3 : rd M186 120 3 = g120_3 := ((St.kp h186 (by decide) (by decide) (by decide)).trans ((St.kp h169 (by decide) (by decide) (by decide)).trans k166_120_3))
              have ka186_120_7 : rd M186 120 7 = g120_7 := ((St.kp h186 (by decide) (by decide) (by decide)).trans ((St.kp h169 (by decide) (by decide) (by decide)).trans k166_120_7))
              replace z186_0 := hd_i z186_0
              refine Tr.sc [(0, r186)] rfl ?_
              have J202 : ∀ (M : Mem), St Pm1 ws_X12_operand_120 as_X12_operand_120 M0 M → rd M 120 3 = g120_3 → rd M 120 36 = g120_36 → rd M 120 4 = g120_4 → rd M 120 43 = g120_43 → rd M 120 44 = g120_44 → rd M 120 46 = g120_46 → rd M 120 5 = g120_5 → rd M 120 50 = g120_50 → rd M 120 6 = g120_6 → rd M 120 7 = g120_7 → rd M 120 8 = g120_8 → rd M 136 1 = g136_1 → rd M 145 (g120_43 - 1) = r12 → rd M 147 (g120_43 - 1) = 0 → nb2v M = g9001_0 → n4v M = g9002_0 → Dv1 M = g9004_0 → fr0 M = g9005_0 → tav M = g9010_0 → (g120_3 = 1) → Tr l K 3 mX12_operand 202 [(0, (2, 120))] [] M (q_X12_operand_120 M0) := by
                intro M  hS  k202_120_3 k202_120_36 k202_120_4 k202_120_43 k202_120_44 k202_120_46 k202_120_5 k202_120_50 k202_120_6 k202_120_7 k202_120_8 k202_136_1 k202_145_g120_431n1 k202_147_g120_431n1 k202_9001_0 k202_9002_0 k202_9004_0 k202_9005_0 k202_9010_0 t202_0
                clear k166_120_3 k166_120_36 k166_120_4 k166_120_43 k166_120_44 k166_120_46 k166_120_5 k166_120_50 k166_120_6 k166_120_7 k166_120_8 k166_136_1 k166_145_g120_431n1 k166_147_g120_431n1 k166_9001_0 k166_9002_0 k166_9004_0 k166_9005_0 k166_9010_0 ka169_120_3 ka169_120_6 ka186_120_3 ka186_120_7
                refine Tr.aload_n (pc := 202) (i := 0) d_X12_operand_202 rfl rfl ?_
                refine Tr.ldc2 (pc := 203) d_X12_operand_203 kl_12_449 (by decide) ?_
                refine Tr.callV (pc := 206) (as := [_]) d_X12_operand_206 s_12_484 ok_X12_isWord rfl rfl (Nat.le_of_ble_eq_true rfl) (Nat.le_of_ble_eq_true rfl) (by decide) (ty_120 hS.1.1) ?_
                refine Tr.imp (Tr.deep (by decide) (sp_X12_isWord_120 hS.1.wk 7170414 (by omega))) ?_
                rintro M206 _ ⟨h206, r206, rfl, lr206, ur206, z206_0⟩
                have h206 := St.rn h206 (Pm1.of hS.1.2.2.2.2 (fun _ => St.ka h206 (by decide) (by decide) (by decide)) (fun _ => St.ka h206 (by decide) (by decide) (by decide)) (fun _ => St.ka h206 (by decide) (by decide) (by decide)) (fun _ => St.ka h206 (by decide) (by decide) (by decide)) (fun _ => St.ka h206 (by decide) (by decide) (by decide)) (fun _ => St.ka h206 (by decide) (by decide) (by decide)) (fun _ => St.ka h206 (by decide) (by decide) (by decide)) (fun _ => St.ka h206 (by decide) (by decide) (by decide)) (fun _ => St.ka h206 (by decide) (by decide) (by decide)) (fun _ => St.ka h206 (by decide) (by decide) (by decide)) (St.kp h206 (by decide) (by decide) (by decide)) (St.kp h206 (by decide) (by decide) (by decide)) (St.kp h206 (by decide) (by decide) (by decide)) (St.kp h206 (by decide) (by decide) (by decide)) (St.kp h206 (by decide) (by decide) (by decide)) (St.kp h206 (by decide) (by decide) (by decide)) (St.kp h206 (by decide) (by decide) (by decide)) (St.kp h206 (by decide) (by decide) (by decide)) (St.kp h206 (by decide) (by decide) (by decide)) (St.kp h206 (by decide) (by decide) (by decide)) (St.kp h206 (by decide) (by decide) (by decide)))
                have hS := St.tr hS h206 (by decide) (by decide)
                have ka206_120_3 : rd M206 120 3 = g120_3 := ((St.kp h206 (by decide) (by decide) (by decide)).trans k202_120_3)
                have ka206_120_7 : rd M206 120 7 = g120_7 := ((St.kp h206 (by decide) (by decide) (by decide)).trans k202_120_7)
                replace z206_0 := hd_i z206_0
                refine Tr.sc [(0, r206)] rfl ?_
                have J219 : ∀ (M : Mem) (q219_0 : Int), St Pm1 ws_X12_operand_120 as_X12_operand_120 M0 M → (11 ≤ q219_0 ∧ q219_0 ≤ 12) → rd M 120 3 = g120_3 → rd M 120 36 = g120_36 → rd M 120 4 = g120_4 → rd M 120 43 = g120_43 → rd M 120 44 = g120_44 → rd M 120 46 = g120_46 → rd M 120 5 = g120_5 → rd M 120 50 = g120_50 → rd M 120 6 = g120_6 → rd M 120 7 = g120_7 → rd M 120 8 = g120_8 → rd M 136 1 = g136_1 → rd M 145 (g120_43 - 1) = r12 → rd M 147 (g120_43 - 1) = 0 → nb2v M = g9001_0 → n4v M = g9002_0 → Dv1 M = g9004_0 → fr0 M = g9005_0 → tav M = g9010_0 → (g120_3 = 0 ∨ g120_4 + 1 ≤ g120_5) → (g120_4 ≤ g120_5) → (g120_3 ≠ 1 ∨ g120_4 + 2 ≤ g120_5 ∨ g120_7 < 256) → (g120_4 ≤ g120_4 ∧ g120_5 ≤ g120_5 ∧ g9010_0 ≤ g9010_0) → (g120_8 = 0 ∨ g120_8 = g120_8) → Tr l K 3 mX12_operand 219 [(0, (2, 120))] [(0, q219_0)] M (q_X12_operand_120 M0) := by
                  intro M q219_0 hS bq219_0 k219_120_3 k219_120_36 k219_120_4 k219_120_43 k219_120_44 k219_120_46 k219_120_5 k219_120_50 k219_120_6 k219_120_7 k219_120_8 k219_136_1 k219_145_g120_431n1 k219_147_g120_431n1 k219_9001_0 k219_9002_0 k219_9004_0 k219_9005_0 k219_9010_0 t219_0 t219_1 t219_2 t219_3 t219_4
                  clear k202_120_3 k202_120_36 k202_120_4 k202_120_43 k202_120_44 k202_120_46 k202_120_5 k202_120_50 k202_120_6 k202_120_7 k202_120_8 k202_136_1 k202_145_g120_431n1 k202_147_g120_431n1 k202_9001_0 k202_9002_0 k202_9004_0 k202_9005_0 k202_9010_0 ka206_120_3 ka206_120_7
                  replace t219_0 := hd_i t219_0
                  replace t219_2 := hd_i t219_2
                  replace t219_4 := hd_i t219_4
                  refine Tr.istore_n (pc := 219) (i := 3) (ls2 := [(3, (0, q219_0)), (0, (2, 120))]) d_X12_operand_219 rfl (by decide) rfl ?_
                  refine Tr.aload_n (pc := 220) (i := 0) d_X12_operand_220 rfl rfl ?_
                  refine Tr.callV (pc := 221) (as := []) d_X12_operand_221 s_12_396 ok_X12_next rfl rfl (Nat.le_of_ble_eq_true rfl) (Nat.le_of_ble_eq_true rfl) (by decide) (ty_120 hS.1.1) ?_
                  have kb221_120_3 : rd M 120 3 = g120_3 := k219_120_3
                  have kb221_120_5 : rd M 120 5 = g120_5 := k219_120_5
                  have kb221_120_8 : rd M 120 8 = g120_8 := k219_120_8
                  have kb221_9010_0 : tav M = g9010_0 := k219_9010_0
                  refine Tr.imp (Tr.deep (by decide) (sp_X12_next_120 hS.1 )) ?_
                  rintro M221 _ ⟨h221, rfl, z221_0, z221_1, z221_2, z221_3, z221_4, z221_5, z221_6⟩
                  have hS := St.tr hS h221 (by decide) (by decide)
                  obtain ⟨s221_120_3, es221_120_3⟩ : ∃ v, rd M221 120 3 = v := ⟨_, rfl⟩
                  have bs221_120_3 : 0 ≤ s221_120_3 ∧ s221_120_3 ≤ 3 := by rw [← es221_120_3]; exact ir_120_3 hS.1.2.1
                  obtain ⟨s221_120_4, es221_120_4⟩ : ∃ v, rd M221 120 4 = v := ⟨_, rfl⟩
                  have bs221_120_4 : 0 ≤ s221_120_4 ∧ s221_120_4 ≤ 900 := by rw [← es221_120_4]; exact ir_120_4 hS.1.2.1
                  obtain ⟨s221_120_5, es221_120_5⟩ : ∃ v, rd M221 120 5 = v := ⟨_, rfl⟩
                  have bs221_120_5 : 0 ≤ s221_120_5 ∧ s221_120_5 ≤ 900 := by rw [← es221_120_5]; exact ir_120_5 hS.1.2.1
                  obtain ⟨s221_120_7, es221_120_7⟩ : ∃ v, rd M221 120 7 = v := ⟨_, rfl⟩
                  have bs221_120_7 : (-9223372036854775808) ≤ s221_120_7 ∧ s221_120_7 ≤ 9223372036854775807 := by rw [← es221_120_7]; exact ir_120_7 hS.1.2.1
                  obtain ⟨s221_120_8, es221_120_8⟩ : ∃ v, rd M221 120 8 = v := ⟨_, rfl⟩
                  have bs221_120_8 : 0 ≤ s221_120_8 ∧ s221_120_8 ≤ 5 := by rw [← es221_120_8]; exact ir_120_8 hS.1.2.1
                  obtain ⟨s221_9010_0, es221_9010_0⟩ : ∃ v, tav M221 = v := ⟨_, rfl⟩
                  have bs221_9010_0 : (-1) ≤ s221_9010_0 ∧ s221_9010_0 ≤ 1800 := by rw [← es221_9010_0]; exact (tav_b hS.1.2.1)
                  replace z221_0 := hd_i z221_0
                  replace z221_2 := hd_i z221_2
                  replace z221_5 := hd_i z221_5
                  replace z221_6 := hd_i z221_6
                  refine Tr.sc [] rfl ?_
                  refine Tr.aload_n (pc := 224) (i := 0) d_X12_operand_224 rfl rfl ?_
                  refine Tr.bipush (pc := 225) d_X12_operand_225 rfl (by decide) ?_
                  refine Tr.callV (pc := 227) (as := [_]) d_X12_operand_227 s_12_393 ok_X12_isSign rfl rfl (Nat.le_of_ble_eq_true rfl) (Nat.le_of_ble_eq_true rfl) (by decide) (ty_120 hS.1.1) ?_
                  refine Tr.imp (Tr.deep (by decide) (sp_X12_isSign_120 hS.1.wk 40 (by omega))) ?_
                  rintro M227 _ ⟨h227, r227, rfl, lr227, ur227, z227_0⟩
                  have h227 := St.rn h227 (Pm1.of hS.1.2.2.2.2 (fun _ => St.ka h227 (by decide) (by decide) (by decide)) (fun _ => St.ka h227 (by decide) (by decide) (by decide)) (fun _ => St.ka h227 (by decide) (by decide) (by decide)) (fun _ => St.ka h227 (by decide) (by decide) (by decide)) (fun _ => St.ka h227 (by decide) (by decide) (by decide)) (fun _ => St.ka h227 (by decide) (by decide) (by decide)) (fun _ => St.ka h227 (by decide) (by decide) (by decide)) (fun _ => St.ka h227 (by decide) (by decide) (by decide)) (fun _ => St.ka h227 (by decide) (by decide) (by decide)) (fun _ => St.ka h227 (by decide) (by decide) (by decide)) (St.kp h227 (by decide) (by decide) (by decide)) (St.kp h227 (by decide) (by decide) (by decide)) (St.kp h227 (by decide) (by decide) (by decide)) (St.kp h227 (by decide) (by decide) (by decide)) (St.kp h227 (by decide) (by decide) (by decide)) (St.kp h227 (by decide) (by decide) (by decide)) (St.kp h227 (by decide) (by decide) (by decide)) (St.kp h227 (by decide) (by decide) (by decide)) (St.kp h227 (by decide) (by decide) (by decide)) (St.kp h227 (by decide) (by decide) (by decide)) (St.kp h227 (by decide) (by decide) (by decide)))
                  have hS := St.tr hS h227 (by decide) (by decide)
                  have ka227_120_3 : rd M227 120 3 = s221_120_3 := ((St.kp h227 (by decide) (by decide) (by decide)).trans es221_120_3)
                  obtain ⟨w227_120_6, ew227_120_6⟩ : ∃ v, rd M227 120 6 = v := ⟨_, rfl⟩
                  have bw227_120_6 : (-2147483648) ≤ w227_120_6 ∧ w227_120_6 ≤ 2147483647 := by rw [← ew227_120_6]; exact ir_120_6 hS.1.2.1
                  have ka227_120_6 : rd M227 120 6 = w227_120_6 := ew227_120_6
                  replace z227_0 := hd_i z227_0
                  refine Tr.sc [(0, r227)] rfl ?_
                  have J242 : ∀ (M : Mem) (u242_120_8 : Int), St Pm1 ws_X12_operand_120 as_X12_operand_120 M0 M → (0 ≤ u242_120_8 ∧ u242_120_8 ≤ 5) → rd M 120 3 = s221_120_3 → rd M 120 36 = g120_36 → rd M 120 4 = s221_120_4 → rd M 120 43 = g120_43 → rd M 120 44 = g120_44 → rd M 120 46 = g120_46 → rd M 120 5 = s221_120_5 → rd M 120 50 = g120_50 → rd M 120 6 = w227_120_6 → rd M 120 7 = s221_120_7 → rd M 120 8 = u242_120_8 → rd M 136 1 = g136_1 → rd M 145 (g120_43 - 1) = r12 → rd M 147 (g120_43 - 1) = 0 → nb2v M = g9001_0 → n4v M = g9002_0 → Dv1 M = g9004_0 → fr0 M = g9005_0 → tav M = s221_9010_0 → (1 ≤ u242_120_8 ∨ s221_120_3 ≠ 0) → (g120_8 = 0 ∨ u242_120_8 = g120_8) → Tr l K 3 mX12_operand 242 [(0, (2, 120)), (3, (0, q219_0))] [] M (q_X12_operand_120 M0) := by
                    intro M u242_120_8 hS bu242_120_8 k242_120_3 k242_120_36 k242_120_4 k242_120_43 k242_120_44 k242_120_46 k242_120_5 k242_120_50 k242_120_6 k242_120_7 k242_120_8 k242_136_1 k242_145_g120_431n1 k242_147_g120_431n1 k242_9001_0 k242_9002_0 k242_9004_0 k242_9005_0 k242_9010_0 t242_0 t242_1
                    clear k219_120_3 k219_120_36 k219_120_4 k219_120_43 k219_120_44 k219_120_46 k219_120_5 k219_120_50 k219_120_6 k219_120_7 k219_120_8 k219_136_1 k219_145_g120_431n1 k219_147_g120_431n1 k219_9001_0 k219_9002_0 k219_9004_0 k219_9005_0 k219_9010_0 kb221_120_3 kb221_120_5 kb221_120_8 kb221_9010_0 es221_120_3 es221_120_4 es221_120_5 es221_120_7 es221_120_8 es221_9010_0 ka227_120_3 ew227_120_6 ka227_120_6
                    replace t242_0 := hd_i t242_0
                    replace t242_1 := hd_i t242_1
                    refine Tr.aload_n (pc := 242) (i := 0) d_X12_operand_242 rfl rfl ?_
                    refine Tr.iconst (pc := 243) d_X12_operand_243 (by decide) ?_
                    refine Tr.callV (pc := 244) (as := [_]) d_X12_operand_244 s_12_490 ok_X12_opens rfl rfl (Nat.le_of_ble_eq_true rfl) (Nat.le_of_ble_eq_true rfl) (by decide) (ty_120 hS.1.1) ?_
                    have kb244_120_3 : rd M 120 3 = s221_120_3 := k242_120_3
                    have kb244_120_4 : rd M 120 4 = s221_120_4 := k242_120_4
                    have kb244_120_5 : rd M 120 5 = s221_120_5 := k242_120_5
                    have kb244_120_7 : rd M 120 7 = s221_120_7 := k242_120_7
                    have kb244_120_8 : rd M 120 8 = u242_120_8 := k242_120_8
                    have kb244_120_43 : rd M 120 43 = g120_43 := k242_120_43
                    have kb244_120_44 : rd M 120 44 = g120_44 := k242_120_44
                    have kb244_9002_0 : n4v M = g9002_0 := k242_9002_0
                    have kb244_9005_0 : fr0 M = g9005_0 := k242_9005_0
                    have kb244_9010_0 : tav M = s221_9010_0 := k242_9010_0
                    refine Tr.imp (Tr.deep (by decide) (sp_X12_opens_120 hS.1 3 (by omega) (by first | exact (hd_o z221_0) | exact (hd_o z221_0).elim (fun h1 => by omega) (fun h1 => by omega)) (by omega) (by first | exact (hd_o z221_2) | exact (hd_o z221_2).elim (fun h1 => by omega) (fun h1 => h1.elim (fun h1 => by omega) (fun h1 => by omega))) (by and_intros <;> omega) (by exact (hd_o t242_0).elim (fun h1 => by omega) (fun h1 => (ne_o h1).elim (fun h2 => by omega) (fun h2 => by omega))) (by omega) (by omega))) ?_
                    rintro M244 _ ⟨h244, rfl, z244_0, z244_1, z244_2, z244_3, z244_4, z244_5, z244_6, z244_7, z244_8, z244_9, z244_10⟩
                    have hS := St.tr hS h244 (by decide) (by decide)
                    obtain ⟨s244_120_3, es244_120_3⟩ : ∃ v, rd M244 120 3 = v := ⟨_, rfl⟩
                    have bs244_120_3 : 0 ≤ s244_120_3 ∧ s244_120_3 ≤ 3 := by rw [← es244_120_3]; exact ir_120_3 hS.1.2.1
                    obtain ⟨s244_120_4, es244_120_4⟩ : ∃ v, rd M244 120 4 = v := ⟨_, rfl⟩
                    have bs244_120_4 : 0 ≤ s244_120_4 ∧ s244_120_4 ≤ 900 := by rw [← es244_120_4]; exact ir_120_4 hS.1.2.1
                    obtain ⟨s244_120_5, es244_120_5⟩ : ∃ v, rd M244 120 5 = v := ⟨_, rfl⟩
                    have bs244_120_5 : 0 ≤ s244_120_5 ∧ s244_120_5 ≤ 900 := by rw [← es244_120_5]; exact ir_120_5 hS.1.2.1
                    obtain ⟨s244_120_7, es244_120_7⟩ : ∃ v, rd M244 120 7 = v := ⟨_, rfl⟩
                    have bs244_120_7 : (-9223372036854775808) ≤ s244_120_7 ∧ s244_120_7 ≤ 9223372036854775807 := by rw [← es244_120_7]; exact ir_120_7 hS.1.2.1
                    obtain ⟨s244_120_8, es244_120_8⟩ : ∃ v, rd M244 120 8 = v := ⟨_, rfl⟩
                    have bs244_120_8 : 0 ≤ s244_120_8 ∧ s244_120_8 ≤ 5 := by rw [← es244_120_8]; exact ir_120_8 hS.1.2.1
                    obtain ⟨s244_120_43, es244_120_43⟩ : ∃ v, rd M244 120 43 = v := ⟨_, rfl⟩
                    have bs244_120_43 : 0 ≤ s244_120_43 ∧ s244_120_43 ≤ 20 := by rw [← es244_120_43]; exact ir_120_43 hS.1.2.1
                    obtain ⟨s244_120_44, es244_120_44⟩ : ∃ v, rd M244 120 44 = v := ⟨_, rfl⟩
                    have bs244_120_44 : 0 ≤ s244_120_44 ∧ s244_120_44 ≤ 8 := by rw [← es244_120_44]; exact ir_120_44 hS.1.2.1
                    obtain ⟨s244_9002_0, es244_9002_0⟩ : ∃ v, n4v M244 = v := ⟨_, rfl⟩
                    have bs244_9002_0 : 0 ≤ s244_9002_0 ∧ s244_9002_0 ≤ 20 := by rw [← es244_9002_0]; exact (n4v_b hS.1.2.1)
                    obtain ⟨s244_9005_0, es244_9005_0⟩ : ∃ v, fr0 M244 = v := ⟨_, rfl⟩
                    have bs244_9005_0 : 0 ≤ s244_9005_0 ∧ s244_9005_0 ≤ 5 := by rw [← es244_9005_0]; exact (fr0_b hS.1.2.1)
                    obtain ⟨s244_9010_0, es244_9010_0⟩ : ∃ v, tav M244 = v := ⟨_, rfl⟩
                    have bs244_9010_0 : (-1) ≤ s244_9010_0 ∧ s244_9010_0 ≤ 1800 := by rw [← es244_9010_0]; exact (tav_b hS.1.2.1)
                    replace z244_0 := hd_i z244_0
                    replace z244_2 := hd_i z244_2
                    replace z244_4 := hd_i z244_4
                    replace z244_5 := hd_i z244_5
                    replace z244_7 := hd_i z244_7
                    replace z244_10 := hd_i z244_10
                    refine Tr.sc [] rfl ?_
                    refine Tr.aload_n (pc := 247) (i := 0) d_X12_operand_247 rfl rfl ?_
                    refine Tr.getf (pc := 248) d_X12_operand_248 f_12_36 (by decide) (by decide) (ty_120 hS.1.1) ?_
                    refine Tr.tp s244_120_8 es244_120_8 ?_
                    refine Tr.if_ne (pc := 251) (tgt := 266) d_X12_operand_251 rfl (fun c251 => ?_) (fun c251 => ?_)
                    · have c251b : 1 ≤ s244_120_8 ∧ s244_120_8 ≤ 5 := by omega
                      replace c251 := hd_i c251
                      refine Tr.iconst (pc := 266) d_X12_operand_266 (by decide) ?_
                      have kr_120_3 : rd M244 120 3 = s244_120_3 := es244_120_3
                      have kr_120_4 : rd M244 120 4 = s244_120_4 := es244_120_4
                      have kr_120_5 : rd M244 120 5 = s244_120_5 := es244_120_5
                      have kr_120_7 : rd M244 120 7 = s244_120_7 := es244_120_7
                      have kr_120_8 : rd M244 120 8 = s244_120_8 := es244_120_8
                      have kr_120_36 : rd M244 120 36 = g120_36 := ((St.kp h244 (by decide) (by decide) (by decide)).trans k242_120_36)
                      have kr_120_43 : rd M244 120 43 = s244_120_43 := es244_120_43
                      have kr_120_44 : rd M244 120 44 = s244_120_44 := es244_120_44
                      have kr_120_46 : rd M244 120 46 = g120_46 := ((St.kp h244 (by decide) (by decide) (by decide)).trans k242_120_46)
                      have kr_120_50 : rd M244 120 50 = g120_50 := ((St.kp h244 (by decide) (by decide) (by decide)).trans k242_120_50)
                      have kr_136_1 : rd M244 136 1 = g136_1 := ((St.kp h244 (by decide) (by decide) (by decide)).trans k242_136_1)
                      have kr_9001_0 : nb2v M244 = g9001_0 := ((nb2v_of (fun j => ((St.ka h244 (by decide) (by decide) (by decide)).trans rfl)) ((St.kp h244 (by decide) (by decide) (by decide)).trans rfl)).trans k242_9001_0)
                      have kr_9002_0 : n4v M244 = s244_9002_0 := es244_9002_0
                      have kr_9004_0 : Dv1 M244 = g9004_0 := ((Dv1_of (fun j => ((St.ka h244 (by decide) (by decide) (by decide)).trans rfl)) (fun j => ((St.ka h244 (by decide) (by decide) (by decide)).trans rfl)) ((St.kp h244 (by decide) (by decide) (by decide)).trans rfl) ((St.kp h244 (by decide) (by decide) (by decide)).trans rfl)).trans k242_9004_0)
                      have kr_9005_0 : fr0 M244 = s244_9005_0 := es244_9005_0
                      have kr_9010_0 : tav M244 = s244_9010_0 := es244_9010_0
                      exact Tr.zret (pc := 267) d_X12_operand_267 rfl (by omega) ⟨hS, _, rfl, by omega, by omega, (by first | exact (hd_o z244_0) | exact (hd_o z244_0).elim (fun h1 => by omega) (fun h1 => by omega)), (by omega), (by first | exact (hd_o z244_2) | exact (hd_o z244_2).elim (fun h1 => by omega) (fun h1 => h1.elim (fun h1 => by omega) (fun h1 => by omega))), (by and_intros <;> omega), (by omega), (by omega), (by exact (hd_o t219_0).elim (fun h1 => by omega) (fun h1 => by omega)), (by omega), (by omega), (by omega), (by omega), (by omega), (by omega)⟩
                    · refine Tr.aload_n (pc := 254) (i := 0) d_X12_operand_254 rfl rfl ?_
                      refine Tr.getf (pc := 255) d_X12_operand_255 f_12_137 (by decide) (by decide) (ty_120 hS.1.1) ?_
                      refine Tr.tp 148 (fx_120_41 hS.1.1) ?_
                      refine Tr.aload_n (pc := 258) (i := 0) d_X12_operand_258 rfl rfl ?_
                      refine Tr.getf (pc := 259) d_X12_operand_259 f_12_143 (by decide) (by decide) (ty_120 hS.1.1) ?_
                      refine Tr.tp s244_120_43 es244_120_43 ?_
                      refine Tr.iconst (pc := 262) d_X12_operand_262 (by decide) ?_
                      refine Tr.isub (pc := 263) d_X12_operand_263 ?_
                      refine Tr.tp (s244_120_43 - 1) ((w32_id (by and_intros <;> omega)).trans (by omega)) ?_
                      refine Tr.iload_n (pc := 264) (i := 3) d_X12_operand_264 rfl rfl ?_
                      refine Tr.iastS (pc := 265) (P := St Pm1 ws_X12_operand_120 as_X12_operand_120 M0) d_X12_operand_265 (ty_148 hS.1.1) (by omega) (by omega) (sa_148 hS (by decide) (by and_intros <;> omega) (Pm1.of hS.1.2.2.2.2 (fun _ => rd_wb _ rfl) (fun _ => rd_wb _ rfl) (fun _ => rd_wb _ rfl) (fun _ => rd_wb _ rfl) (fun _ => rd_wb _ rfl) (fun _ => rd_wb _ rfl) (fun _ => rd_wb _ rfl) (fun _ => rd_wb _ rfl) (fun _ => rd_wb _ rfl) (fun _ => rd_wb _ rfl) (rd_wb _ rfl) (rd_wb _ rfl) (rd_wb _ rfl) (rd_wb _ rfl) (rd_wb _ rfl) (rd_wb _ rfl) (rd_wb _ rfl) (rd_wb _ rfl) (rd_wb _ rfl) (rd_wb _ rfl) (rd_wb _ rfl))) (fun M265 hS w265 => ?_)
                      refine Tr.iconst (pc := 266) d_X12_operand_266 (by decide) ?_
                      have kr_120_3 : rd M265 120 3 = s244_120_3 := ((Wr.b w265 rfl).trans es244_120_3)
                      have kr_120_4 : rd M265 120 4 = s244_120_4 := ((Wr.b w265 rfl).trans es244_120_4)
                      have kr_120_5 : rd M265 120 5 = s244_120_5 := ((Wr.b w265 rfl).trans es244_120_5)
                      have kr_120_7 : rd M265 120 7 = s244_120_7 := ((Wr.b w265 rfl).trans es244_120_7)
                      have kr_120_8 : rd M265 120 8 = s244_120_8 := ((Wr.b w265 rfl).trans es244_120_8)
                      have kr_120_36 : rd M265 120 36 = g120_36 := ((Wr.b w265 rfl).trans ((St.kp h244 (by decide) (by decide) (by decide)).trans k242_120_36))
                      have kr_120_43 : rd M265 120 43 = s244_120_43 := ((Wr.b w265 rfl).trans es244_120_43)
                      have kr_120_44 : rd M265 120 44 = s244_120_44 := ((Wr.b w265 rfl).trans es244_120_44)
                      have kr_120_46 : rd M265 120 46 = g120_46 := ((Wr.b w265 rfl).trans ((St.kp h244 (by decide) (by decide) (by decide)).trans k242_120_46))
                      have kr_120_50 : rd M265 120 50 = g120_50 := ((Wr.b w265 rfl).trans ((St.kp h244 (by decide) (by decide) (by decide)).trans k242_120_50))
                      have kr_136_1 : rd M265 136 1 = g136_1 := ((Wr.b w265 rfl).trans ((St.kp h244 (by decide) (by decide) (by decide)).trans k242_136_1))
                      have kr_9001_0 : nb2v M265 = g9001_0 := ((nb2v_of (fun j => ((Wr.b w265 rfl).trans ((St.ka h244 (by decide) (by decide) (by decide)).trans rfl))) ((Wr.b w265 rfl).trans ((St.kp h244 (by decide) (by decide) (by decide)).trans rfl))).trans k242_9001_0)
                      have kr_9002_0 : n4v M265 = s244_9002_0 := ((n4v_of (fun j => ((Wr.b w265 rfl).trans rfl)) ((Wr.b w265 rfl).trans rfl)).trans es244_9002_0)
                      have kr_9004_0 : Dv1 M265 = g9004_0 := ((Dv1_of (fun j => ((Wr.b w265 rfl).trans ((St.ka h244 (by decide) (by decide) (by decide)).trans rfl))) (fun j => ((Wr.b w265 rfl).trans ((St.ka h244 (by decide) (by decide) (by decide)).trans rfl))) ((Wr.b w265 rfl).trans ((St.kp h244 (by decide) (by decide) (by decide)).trans rfl)) ((Wr.b w265 rfl).trans ((St.kp h244 (by decide) (by decide) (by decide)).trans rfl))).trans k242_9004_0)
                      have kr_9005_0 : fr0 M265 = s244_9005_0 := ((fr0_of (fun j => ((Wr.b w265 rfl).trans rfl))).trans es244_9005_0)
                      have kr_9010_0 : tav M265 = s244_9010_0 := ((tav_of ((Wr.b w265 rfl).trans rfl) ((Wr.b w265 rfl).trans rfl)).trans es244_9010_0)
                      exact Tr.zret (pc := 267) d_X12_operand_267 rfl (by omega) ⟨hS, _, rfl, by omega, by omega, (by first | exact (hd_o z244_0) | exact (hd_o z244_0).elim (fun h1 => by omega) (fun h1 => by omega)), (by omega), (by first | exact (hd_o z244_2) | exact (hd_o z244_2).elim (fun h1 => by omega) (fun h1 => h1.elim (fun h1 => by omega) (fun h1 => by omega))), (by and_intros <;> omega), (by omega), (by exact (hd_o z244_5).elim (fun h1 => by omega) (fun h1 => by omega)), (by exact (hd_o z244_7).elim (fun h1 => by omega) (fun h1 => (hd_o t242_0).elim (fun h2 => (hd_o z244_4).elim (fun h3 => by omega) (fun h3 => by omega)) (fun h2 => (ne_o h2).elim (fun h3 => by omega) (fun h3 => (hd_o z221_0).elim (fun h4 => by omega) (fun h4 => by omega))))), (by omega), (by omega), (by omega), (by omega), (by omega), (by omega)⟩
                  refine Tr.if_ne (pc := 230) (tgt := 242) d_X12_operand_230 rfl (fun c230 => ?_) (fun c230 => ?_)
                  · have c230b : 1 ≤ r227 ∧ r227 ≤ 1 := by omega
                    replace c230 := hd_i c230
                    refine Tr.pick [1, 0] (ls2 := [(0, (2, 120)), (3, (0, q219_0))]) rfl ?_
                    exact J242 _ _ hS (by and_intros <;> omega) ((St.kp h227 (by decide) (by decide) (by decide)).trans es221_120_3) ((St.kp h227 (by decide) (by decide) (by decide)).trans ((St.kp h221 (by decide) (by decide) (by decide)).trans k219_120_36)) ((St.kp h227 (by decide) (by decide) (by decide)).trans es221_120_4) ((St.kp h227 (by decide) (by decide) (by decide)).trans ((St.kp h221 (by decide) (by decide) (by decide)).trans k219_120_43)) ((St.kp h227 (by decide) (by decide) (by decide)).trans ((St.kp h221 (by decide) (by decide) (by decide)).trans k219_120_44)) ((St.kp h227 (by decide) (by decide) (by decide)).trans ((St.kp h221 (by decide) (by decide) (by decide)).trans k219_120_46)) ((St.kp h227 (by decide) (by decide) (by decide)).trans es221_120_5) ((St.kp h227 (by decide) (by decide) (by decide)).trans ((St.kp h221 (by decide) (by decide) (by decide)).trans k219_120_50)) ew227_120_6 ((St.kp h227 (by decide) (by decide) (by decide)).trans es221_120_7) ((St.kp h227 (by decide) (by decide) (by decide)).trans es221_120_8) ((St.kp h227 (by decide) (by decide) (by decide)).trans ((St.kp h221 (by decide) (by decide) (by decide)).trans k219_136_1)) ((St.ka h227 (by decide) (by decide) (by decide)).trans ((St.ka h221 (by decide) (by decide) (by decide)).trans k219_145_g120_431n1)) ((St.ka h227 (by decide) (by decide) (by decide)).trans ((St.ka h221 (by decide) (by decide) (by decide)).trans k219_147_g120_431n1)) ((nb2v_of (fun j => ((St.ka h227 (by decide) (by decide) (by decide)).trans ((St.ka h221 (by decide) (by decide) (by decide)).trans rfl))) ((St.kp h227 (by decide) (by decide) (by decide)).trans ((St.kp h221 (by decide) (by decide) (by decide)).trans rfl))).trans k219_9001_0) ((n4v_of (fun j => ((St.ka h227 (by decide) (by decide) (by decide)).trans ((St.ka h221 (by decide) (by decide) (by decide)).trans rfl))) ((St.kp h227 (by decide) (by decide) (by decide)).trans ((St.kp h221 (by decide) (by decide) (by decide)).trans rfl))).trans k219_9002_0) ((Dv1_of (fun j => ((St.ka h227 (by decide) (by decide) (by decide)).trans ((St.ka h221 (by decide) (by decide) (by decide)).trans rfl))) (fun j => ((St.ka h227 (by decide) (by decide) (by decide)).trans ((St.ka h221 (by decide) (by decide) (by decide)).trans rfl))) ((St.kp h227 (by decide) (by decide) (by decide)).trans ((St.kp h221 (by decide) (by decide) (by decide)).trans rfl)) ((St.kp h227 (by decide) (by decide) (by decide)).trans ((St.kp h221 (by decide) (by decide) (by decide)).trans rfl))).trans k219_9004_0) ((fr0_of (fun j => ((St.ka h227 (by decide) (by decide) (by decide)).trans ((St.ka h221 (by decide) (by decide) (by decide)).trans rfl)))).trans k219_9005_0) ((tav_of ((St.kp h227 (by decide) (by decide) (by decide)).trans rfl) ((St.kp h227 (by decide) (by decide) (by decide)).trans rfl)).trans es221_9010_0) (by exact (hd_o z227_0).elim (fun h1 => by omega) (fun h1 => by omega)) (by first | exact (hd_o z221_6) | exact (hd_o z221_6).elim (fun h1 => by omega) (fun h1 => by omega))
                  · refine Tr.aload_n (pc := 233) (i := 0) d_X12_operand_233 rfl rfl ?_
                    refine Tr.iconst (pc := 234) d_X12_operand_234 (by decide) ?_
                    refine Tr.aload_n (pc := 235) (i := 0) d_X12_operand_235 rfl rfl ?_
                    refine Tr.getf (pc := 236) d_X12_operand_236 f_12_23 (by decide) (by decide) (ty_120 hS.1.1) ?_
                    refine Tr.tp s221_120_4 ((St.kp h227 (by decide) (by decide) (by decide)).trans es221_120_4) ?_
                    refine Tr.callV (pc := 239) (as := [_, _]) d_X12_operand_239 s_12_389 ok_X12_blame rfl rfl (Nat.le_of_ble_eq_true rfl) (Nat.le_of_ble_eq_true rfl) (by decide) (ty_120 hS.1.1) ?_
                    have kb239_120_8 : rd M227 120 8 = s221_120_8 := ((St.kp h227 (by decide) (by decide) (by decide)).trans es221_120_8)
                    refine Tr.imp (Tr.deep (by decide) (sp_X12_blame_120 hS.1 1 (by omega) s221_120_4 (by and_intros <;> omega))) ?_
                    rintro M239 _ ⟨h239, rfl, z239_0⟩
                    have hS := St.tr hS h239 (by decide) (by decide)
                    obtain ⟨s239_120_8, es239_120_8⟩ : ∃ v, rd M239 120 8 = v := ⟨_, rfl⟩
                    have bs239_120_8 : 0 ≤ s239_120_8 ∧ s239_120_8 ≤ 5 := by rw [← es239_120_8]; exact ir_120_8 hS.1.2.1
                    replace z239_0 := hd_i z239_0
                    refine Tr.sc [] rfl ?_
                    refine Tr.pick [1, 0] (ls2 := [(0, (2, 120)), (3, (0, q219_0))]) rfl ?_
                    exact J242 _ _ hS (by and_intros <;> omega) ((St.kp h239 (by decide) (by decide) (by decide)).trans ((St.kp h227 (by decide) (by decide) (by decide)).trans es221_120_3)) ((St.kp h239 (by decide) (by decide) (by decide)).trans ((St.kp h227 (by decide) (by decide) (by decide)).trans ((St.kp h221 (by decide) (by decide) (by decide)).trans k219_120_36))) ((St.kp h239 (by decide) (by decide) (by decide)).trans ((St.kp h227 (by decide) (by decide) (by decide)).trans es221_120_4)) ((St.kp h239 (by decide) (by decide) (by decide)).trans ((St.kp h227 (by decide) (by decide) (by decide)).trans ((St.kp h221 (by decide) (by decide) (by decide)).trans k219_120_43))) ((St.kp h239 (by decide) (by decide) (by decide)).trans ((St.kp h227 (by decide) (by decide) (by decide)).trans ((St.kp h221 (by decide) (by decide) (by decide)).trans k219_120_44))) ((St.kp h239 (by decide) (by decide) (by decide)).trans ((St.kp h227 (by decide) (by decide) (by decide)).trans ((St.kp h221 (by decide) (by decide) (by decide)).trans k219_120_46))) ((St.kp h239 (by decide) (by decide) (by decide)).trans ((St.kp h227 (by decide) (by decide) (by decide)).trans es221_120_5)) ((St.kp h239 (by decide) (by decide) (by decide)).trans ((St.kp h227 (by decide) (by decide) (by decide)).trans ((St.kp h221 (by decide) (by decide) (by decide)).trans k219_120_50))) ((St.kp h239 (by decide) (by decide) (by decide)).trans ew227_120_6) ((St.kp h239 (by decide) (by decide) (by decide)).trans ((St.kp h227 (by decide) (by decide) (by decide)).trans es221_120_7)) es239_120_8 ((St.kp h239 (by decide) (by decide) (by decide)).trans ((St.kp h227 (by decide) (by decide) (by decide)).trans ((St.kp h221 (by decide) (by decide) (by decide)).trans k219_136_1))) ((St.ka h239 (by decide) (by decide) (by decide)).trans ((St.ka h227 (by decide) (by decide) (by decide)).trans ((St.ka h221 (by decide) (by decide) (by decide)).trans k219_145_g120_431n1))) ((St.ka h239 (by decide) (by decide) (by decide)).trans ((St.ka h227 (by decide) (by decide) (by decide)).trans ((St.ka h221 (by decide) (by decide) (by decide)).trans k219_147_g120_431n1))) ((nb2v_of (fun j => ((St.ka h239 (by decide) (by decide) (by decide)).trans ((St.ka h227 (by decide) (by decide) (by decide)).trans ((St.ka h221 (by decide) (by decide) (by decide)).trans rfl)))) ((St.kp h239 (by decide) (by decide) (by decide)).trans ((St.kp h227 (by decide) (by decide) (by decide)).trans ((St.kp h221 (by decide) (by decide) (by decide)).trans rfl)))).trans k219_9001_0) ((n4v_of (fun j => ((St.ka h239 (by decide) (by decide) (by decide)).trans ((St.ka h227 (by decide) (by decide) (by decide)).trans ((St.ka h221 (by decide) (by decide) (by decide)).trans rfl)))) ((St.kp h239 (by decide) (by decide) (by decide)).trans ((St.kp h227 (by decide) (by decide) (by decide)).trans ((St.kp h221 (by decide) (by decide) (by decide)).trans rfl)))).trans k219_9002_0) ((Dv1_of (fun j => ((St.ka h239 (by decide) (by decide) (by decide)).trans ((St.ka h227 (by decide) (by decide) (by decide)).trans ((St.ka h221 (by decide) (by decide) (by decide)).trans rfl)))) (fun j => ((St.ka h239 (by decide) (by decide) (by decide)).trans ((St.ka h227 (by decide) (by decide) (by decide)).trans ((St.ka h221 (by decide) (by decide) (by decide)).trans rfl)))) ((St.kp h239 (by decide) (by decide) (by decide)).trans ((St.kp h227 (by decide) (by decide) (by decide)).trans ((St.kp h221 (by decide) (by decide) (by decide)).trans rfl))) ((St.kp h239 (by decide) (by decide) (by decide)).trans ((St.kp h227 (by decide) (by decide) (by decide)).trans ((St.kp h221 (by decide) (by decide) (by decide)).trans rfl)))).trans k219_9004_0) ((fr0_of (fun j => ((St.ka h239 (by decide) (by decide) (by decide)).trans ((St.ka h227 (by decide) (by decide) (by decide)).trans ((St.ka h221 (by decide) (by decide) (by decide)).trans rfl))))).trans k219_9005_0) ((tav_of ((St.kp h239 (by decide) (by decide) (by decide)).trans ((St.kp h227 (by decide) (by decide) (by decide)).trans rfl)) ((St.kp h239 (by decide) (by decide) (by decide)).trans ((St.kp h227 (by decide) (by decide) (by decide)).trans rfl))).trans es221_9010_0) (by exact (hd_o z239_0).elim (fun h1 => by omega) (fun h1 => by omega)) (by omega)
                refine Tr.if_eq (pc := 209) (tgt := 217) d_X12_operand_209 rfl (fun c209 => ?_) (fun c209 => ?_)
                · refine Tr.bipush (pc := 217) d_X12_operand_217 rfl (by decide) ?_
                  refine Tr.pick [0] (ls2 := [(0, (2, 120))]) rfl ?_
                  exact J219 _ _ hS (by omega) ((St.kp h206 (by decide) (by decide) (by decide)).trans k202_120_3) ((St.kp h206 (by decide) (by decide) (by decide)).trans k202_120_36) ((St.kp h206 (by decide) (by decide) (by decide)).trans k202_120_4) ((St.kp h206 (by decide) (by decide) (by decide)).trans k202_120_43) ((St.kp h206 (by decide) (by decide) (by decide)).trans k202_120_44) ((St.kp h206 (by decide) (by decide) (by decide)).trans k202_120_46) ((St.kp h206 (by decide) (by decide) (by decide)).trans k202_120_5) ((St.kp h206 (by decide) (by decide) (by decide)).trans k202_120_50) ((St.kp h206 (by decide) (by decide) (by decide)).trans k202_120_6) ((St.kp h206 (by decide) (by decide) (by decide)).trans k202_120_7) ((St.kp h206 (by decide) (by decide) (by decide)).trans k202_120_8) ((St.kp h206 (by decide) (by decide) (by decide)).trans k202_136_1) ((St.ka h206 (by decide) (by decide) (by decide)).trans k202_145_g120_431n1) ((St.ka h206 (by decide) (by decide) (by decide)).trans k202_147_g120_431n1) ((nb2v_of (fun j => ((St.ka h206 (by decide) (by decide) (by decide)).trans rfl)) ((St.kp h206 (by decide) (by decide) (by decide)).trans rfl)).trans k202_9001_0) ((n4v_of (fun j => ((St.ka h206 (by decide) (by decide) (by decide)).trans rfl)) ((St.kp h206 (by decide) (by decide) (by decide)).trans rfl)).trans k202_9002_0) ((Dv1_of (fun j => ((St.ka h206 (by decide) (by decide) (by decide)).trans rfl)) (fun j => ((St.ka h206 (by decide) (by decide) (by decide)).trans rfl)) ((St.kp h206 (by decide) (by decide) (by decide)).trans rfl) ((St.kp h206 (by decide) (by decide) (by decide)).trans rfl)).trans k202_9004_0) ((fr0_of (fun j => ((St.ka h206 (by decide) (by decide) (by decide)).trans rfl))).trans k202_9005_0) ((tav_of ((St.kp h206 (by decide) (by decide) (by decide)).trans rfl) ((St.kp h206 (by decide) (by decide) (by decide)).trans rfl)).trans k202_9010_0) (by first | exact (hd_o t166_0) | exact (hd_o t166_0).elim (fun h1 => by omega) (fun h1 => by omega)) (by omega) (by first | exact (hd_o t166_2) | exact (hd_o t166_2).elim (fun h1 => by omega) (fun h1 => h1.elim (fun h1 => by omega) (fun h1 => by omega))) (by and_intros <;> omega) (by first | exact (hd_o t166_4) | exact (hd_o t166_4).elim (fun h1 => by omega) (fun h1 => by omega))
                · have c209b : 1 ≤ r206 ∧ r206 ≤ 1 := by omega
                  replace c209 := hd_i c209
                  refine Tr.bipush (pc := 212) d_X12_operand_212 rfl (by decide) ?_
                  refine Tr.goto (pc := 214) (tgt := 219) d_X12_operand_214 rfl ?_
                  refine Tr.pick [0] (ls2 := [(0, (2, 120))]) rfl ?_
                  exact J219 _ _ hS (by omega) ((St.kp h206 (by decide) (by decide) (by decide)).trans k202_120_3) ((St.kp h206 (by decide) (by decide) (by decide)).trans k202_120_36) ((St.kp h206 (by decide) (by decide) (by decide)).trans k202_120_4) ((St.kp h206 (by decide) (by decide) (by decide)).trans k202_120_43) ((St.kp h206 (by decide) (by decide) (by decide)).trans k202_120_44) ((St.kp h206 (by decide) (by decide) (by decide)).trans k202_120_46) ((St.kp h206 (by decide) (by decide) (by decide)).trans k202_120_5) ((St.kp h206 (by decide) (by decide) (by decide)).trans k202_120_50) ((St.kp h206 (by decide) (by decide) (by decide)).trans k202_120_6) ((St.kp h206 (by decide) (by decide) (by decide)).trans k202_120_7) ((St.kp h206 (by decide) (by decide) (by decide)).trans k202_120_8) ((St.kp h206 (by decide) (by decide) (by decide)).trans k202_136_1) ((St.ka h206 (by decide) (by decide) (by decide)).trans k202_145_g120_431n1) ((St.ka h206 (by decide) (by decide) (by decide)).trans k202_147_g120_431n1) ((nb2v_of (fun j => ((St.ka h206 (by decide) (by decide) (by decide)).trans rfl)) ((St.kp h206 (by decide) (by decide) (by decide)).trans rfl)).trans k202_9001_0) ((n4v_of (fun j => ((St.ka h206 (by decide) (by decide) (by decide)).trans rfl)) ((St.kp h206 (by decide) (by decide) (by decide)).trans rfl)).trans k202_9002_0) ((Dv1_of (fun j => ((St.ka h206 (by decide) (by decide) (by decide)).trans rfl)) (fun j => ((St.ka h206 (by decide) (by decide) (by decide)).trans rfl)) ((St.kp h206 (by decide) (by decide) (by decide)).trans rfl) ((St.kp h206 (by decide) (by decide) (by decide)).trans rfl)).trans k202_9004_0) ((fr0_of (fun j => ((St.ka h206 (by decide) (by decide) (by decide)).trans rfl))).trans k202_9005_0) ((tav_of ((St.kp h206 (by decide) (by decide) (by decide)).trans rfl) ((St.kp h206 (by decide) (by decide) (by decide)).trans rfl)).trans k202_9010_0) (by first | exact (hd_o t166_0) | exact (hd_o t166_0).elim (fun h1 => by omega) (fun h1 => by omega)) (by omega) (by first | exact (hd_o t166_2) | exact (hd_o t166_2).elim (fun h1 => by omega) (fun h1 => h1.elim (fun h1 => by omega) (fun h1 => by omega))) (by and_intros <;> omega) (by first | exact (hd_o t166_4) | exact (hd_o t166_4).elim (fun h1 => by omega) (fun h1 => by omega))
              refine Tr.if_ne (pc := 189) (tgt := 202) d_X12_operand_189 rfl (fun c189 => ?_) (fun c189 => ?_)
              · have c189b : 1 ≤ r186 ∧ r186 ≤ 1 := by omega
                replace c189 := hd_i c189
                refine Tr.pick [0] (ls2 := [(0, (2, 120))]) rfl ?_
                exact J202 _ hS ((St.kp h186 (by decide) (by decide) (by decide)).trans ((St.kp h169 (by decide) (by decide) (by decide)).trans k166_120_3)) ((St.kp h186 (by decide) (by decide) (by decide)).trans ((St.kp h169 (by decide) (by decide) (by decide)).trans k166_120_36)) ((St.kp h186 (by decide) (by decide) (by decide)).trans ((St.kp h169 (by decide) (by decide) (by decide)).trans k166_120_4)) ((St.kp h186 (by decide) (by decide) (by decide)).trans ((St.kp h169 (by decide) (by decide) (by decide)).trans k166_120_43)) ((St.kp h186 (by decide) (by decide) (by decide)).trans ((St.kp h169 (by decide) (by decide) (by decide)).trans k166_120_44)) ((St.kp h186 (by decide) (by decide) (by decide)).trans ((St.kp h169 (by decide) (by decide) (by decide)).trans k166_120_46)) ((St.kp h186 (by decide) (by decide) (by decide)).trans ((St.kp h169 (by decide) (by decide) (by decide)).trans k166_120_5)) ((St.kp h186 (by decide) (by decide) (by decide)).trans ((St.kp h169 (by decide) (by decide) (by decide)).trans k166_120_50)) ((St.kp h186 (by decide) (by decide) (by decide)).trans ((St.kp h169 (by decide) (by decide) (by decide)).trans k166_120_6)) ((St.kp h186 (by decide) (by decide) (by decide)).trans ((St.kp h169 (by decide) (by decide) (by decide)).trans k166_120_7)) ((St.kp h186 (by decide) (by decide) (by decide)).trans ((St.kp h169 (by decide) (by decide) (by decide)).trans k166_120_8)) ((St.kp h186 (by decide) (by decide) (by decide)).trans ((St.kp h169 (by decide) (by decide) (by decide)).trans k166_136_1)) ((St.ka h186 (by decide) (by decide) (by decide)).trans ((St.ka h169 (by decide) (by decide) (by decide)).trans k166_145_g120_431n1)) ((St.ka h186 (by decide) (by decide) (by decide)).trans ((St.ka h169 (by decide) (by decide) (by decide)).trans k166_147_g120_431n1)) ((nb2v_of (fun j => ((St.ka h186 (by decide) (by decide) (by decide)).trans ((St.ka h169 (by decide) (by decide) (by decide)).trans rfl))) ((St.kp h186 (by decide) (by decide) (by decide)).trans ((St.kp h169 (by decide) (by decide) (by decide)).trans rfl))).trans k166_9001_0) ((n4v_of (fun j => ((St.ka h186 (by decide) (by decide) (by decide)).trans ((St.ka h169 (by decide) (by decide) (by decide)).trans rfl))) ((St.kp h186 (by decide) (by decide) (by decide)).trans ((St.kp h169 (by decide) (by decide) (by decide)).trans rfl))).trans k166_9002_0) ((Dv1_of (fun j => ((St.ka h186 (by decide) (by decide) (by decide)).trans ((St.ka h169 (by decide) (by decide) (by decide)).trans rfl))) (fun j => ((St.ka h186 (by decide) (by decide) (by decide)).trans ((St.ka h169 (by decide) (by decide) (by decide)).trans rfl))) ((St.kp h186 (by decide) (by decide) (by decide)).trans ((St.kp h169 (by decide) (by decide) (by decide)).trans rfl)) ((St.kp h186 (by decide) (by decide) (by decide)).trans ((St.kp h169 (by decide) (by decide) (by decide)).trans rfl))).trans k166_9004_0) ((fr0_of (fun j => ((St.ka h186 (by decide) (by decide) (by decide)).trans ((St.ka h169 (by decide) (by decide) (by decide)).trans rfl)))).trans k166_9005_0) ((tav_of ((St.kp h186 (by decide) (by decide) (by decide)).trans ((St.kp h169 (by decide) (by decide) (by decide)).trans rfl)) ((St.kp h186 (by decide) (by decide) (by decide)).trans ((St.kp h169 (by decide) (by decide) (by decide)).trans rfl))).trans k166_9010_0) (by exact (hd_o z186_0).elim (fun h1 => by omega) (fun h1 => by omega))
              · refine Tr.aload_n (pc := 192) (i := 0) d_X12_operand_192 rfl rfl ?_
                refine Tr.ldc2 (pc := 193) d_X12_operand_193 kl_12_451 (by decide) ?_
                refine Tr.callV (pc := 196) (as := [_]) d_X12_operand_196 s_12_484 ok_X12_isWord rfl rfl (Nat.le_of_ble_eq_true rfl) (Nat.le_of_ble_eq_true rfl) (by decide) (ty_120 hS.1.1) ?_
                refine Tr.imp (Tr.deep (by decide) (sp_X12_isWord_120 hS.1.wk 7168376 (by omega))) ?_
                rintro M196 _ ⟨h196, r196, rfl, lr196, ur196, z196_0⟩
                have h196 := St.rn h196 (Pm1.of hS.1.2.2.2.2 (fun _ => St.ka h196 (by decide) (by decide) (by decide)) (fun _ => St.ka h196 (by decide) (by decide) (by decide)) (fun _ => St.ka h196 (by decide) (by decide) (by decide)) (fun _ => St.ka h196 (by decide) (by decide) (by decide)) (fun _ => St.ka h196 (by decide) (by decide) (by decide)) (fun _ => St.ka h196 (by decide) (by decide) (by decide)) (fun _ => St.ka h196 (by decide) (by decide) (by decide)) (fun _ => St.ka h196 (by decide) (by decide) (by decide)) (fun _ => St.ka h196 (by decide) (by decide) (by decide)) (fun _ => St.ka h196 (by decide) (by decide) (by decide)) (St.kp h196 (by decide) (by decide) (by decide)) (St.kp h196 (by decide) (by decide) (by decide)) (St.kp h196 (by decide) (by decide) (by decide)) (St.kp h196 (by decide) (by decide) (by decide)) (St.kp h196 (by decide) (by decide) (by decide)) (St.kp h196 (by decide) (by decide) (by decide)) (St.kp h196 (by decide) (by decide) (by decide)) (St.kp h196 (by decide) (by decide) (by decide)) (St.kp h196 (by decide) (by decide) (by decide)) (St.kp h196 (by decide) (by decide) (by decide)) (St.kp h196 (by decide) (by decide) (by decide)))
                have hS := St.tr hS h196 (by decide) (by decide)
                have ka196_120_3 : rd M196 120 3 = g120_3 := ((St.kp h196 (by decide) (by decide) (by decide)).trans ((St.kp h186 (by decide) (by decide) (by decide)).trans ((St.kp h169 (by decide) (by decide) (by decide)).trans k166_120_3)))
                have ka196_120_7 : rd M196 120 7 = g120_7 := ((St.kp h196 (by decide) (by decide) (by decide)).trans ((St.kp h186 (by decide) (by decide) (by decide)).trans ((St.kp h169 (by decide) (by decide) (by decide)).trans k166_120_7)))
                replace z196_0 := hd_i z196_0
                refine Tr.sc [(0, r196)] rfl ?_
                refine Tr.if_eq (pc := 199) (tgt := 268) d_X12_operand_199 rfl (fun c199 => ?_) (fun c199 => ?_)
                · refine Tr.aload_n (pc := 268) (i := 0) d_X12_operand_268 rfl rfl ?_
                  refine Tr.getf (pc := 269) d_X12_operand_269 f_12_20 (by decide) (by decide) (ty_120 hS.1.1) ?_
                  refine Tr.tp g120_3 ((St.kp h196 (by decide) (by decide) (by decide)).trans ((St.kp h186 (by decide) (by decide) (by decide)).trans ((St.kp h169 (by decide) (by decide) (by decide)).trans k166_120_3))) ?_
                  refine Tr.iconst (pc := 272) d_X12_operand_272 (by decide) ?_
                  have J295 : ∀ (M : Mem) (q295_0 : Int), St Pm1 ws_X12_operand_120 as_X12_operand_120 M0 M → (0 ≤ q295_0 ∧ q295_0 ≤ 3) → rd M 120 3 = g120_3 → rd M 120 36 = g120_36 → rd M 120 4 = g120_4 → rd M 120 43 = g120_43 → rd M 120 44 = g120_44 → rd M 120 46 = g120_46 → rd M 120 5 = g120_5 → rd M 120 50 = g120_50 → rd M 120 6 = g120_6 → rd M 120 7 = g120_7 → rd M 120 8 = g120_8 → rd M 136 1 = g136_1 → rd M 145 (g120_43 - 1) = r12 → rd M 147 (g120_43 - 1) = 0 → nb2v M = g9001_0 → n4v M = g9002_0 → Dv1 M = g9004_0 → fr0 M = g9005_0 → tav M = g9010_0 → (q295_0 = 1 ∨ g120_3 ≠ 0) → (q295_0 = 0 ∨ q295_0 = 1 ∨ q295_0 = 3) → Tr l K 3 mX12_operand 295 [(0, (2, 120))] [(0, q295_0)] M (q_X12_operand_120 M0) := by
                    intro M q295_0 hS bq295_0 k295_120_3 k295_120_36 k295_120_4 k295_120_43 k295_120_44 k295_120_46 k295_120_5 k295_120_50 k295_120_6 k295_120_7 k295_120_8 k295_136_1 k295_145_g120_431n1 k295_147_g120_431n1 k295_9001_0 k295_9002_0 k295_9004_0 k295_9005_0 k295_9010_0 t295_0 t295_1
                    clear k166_120_3 k166_120_36 k166_120_4 k166_120_43 k166_120_44 k166_120_46 k166_120_5 k166_120_50 k166_120_6 k166_120_7 k166_120_8 k166_136_1 k166_145_g120_431n1 k166_147_g120_431n1 k166_9001_0 k166_9002_0 k166_9004_0 k166_9005_0 k166_9010_0 ka169_120_3 ka169_120_6 ka186_120_3 ka186_120_7 ka196_120_3 ka196_120_7
                    replace t295_0 := hd_i t295_0
                    replace t295_1 := hd_i t295_1
                    refine Tr.istore_n (pc := 295) (i := 3) (ls2 := [(3, (0, q295_0)), (0, (2, 120))]) d_X12_operand_295 rfl (by decide) rfl ?_
                    refine Tr.aload_n (pc := 296) (i := 0) d_X12_operand_296 rfl rfl ?_
                    refine Tr.getf (pc := 297) d_X12_operand_297 f_12_29 (by decide) (by decide) (ty_120 hS.1.1) ?_
                    refine Tr.tp g120_6 k295_120_6 ?_
                    refine Tr.istore (pc := 300) (i := 4) (ls2 := [(4, (0, g120_6)), (3, (0, q295_0)), (0, (2, 120))]) d_X12_operand_300 (by decide) rfl ?_
                    refine Tr.iload_n (pc := 302) (i := 3) d_X12_operand_302 rfl rfl ?_
                    refine Tr.iconst (pc := 303) d_X12_operand_303 (by decide) ?_
                    have J396 : ∀ (M : Mem) (p396_3 p396_4 u396_120_8 : Int), St Pm1 ws_X12_operand_120 as_X12_operand_120 M0 M → (0 ≤ p396_3 ∧ p396_3 ≤ 3) → ((-2147483648) ≤ p396_4 ∧ p396_4 ≤ 2147483647) → (0 ≤ u396_120_8 ∧ u396_120_8 ≤ 5) → rd M 120 3 = g120_3 → rd M 120 36 = g120_36 → rd M 120 4 = g120_4 → rd M 120 43 = g120_43 → rd M 120 44 = g120_44 → rd M 120 46 = g120_46 → rd M 120 5 = g120_5 → rd M 120 50 = g120_50 → rd M 120 6 = g120_6 → rd M 120 7 = g120_7 → rd M 120 8 = u396_120_8 → rd M 136 1 = g136_1 → rd M 145 (g120_43 - 1) = r12 → rd M 147 (g120_43 - 1) = 0 → nb2v M = g9001_0 → n4v M = g9002_0 → Dv1 M = g9004_0 → fr0 M = g9005_0 → tav M = g9010_0 → (1 ≤ u396_120_8 ∨ p396_3 = 0 ∨ p396_3 = 3 ∨ (p396_3 = 1 ∧ 0 ≤ p396_4 ∧ p396_4 ≤ 2) ∨ (p396_3 = 2 ∧ 0 ≤ p396_4 ∧ p396_4 ≤ 5)) → (u396_120_8 ≠ 0 ∨ g120_3 ≠ 0) → Tr l K 3 mX12_operand 396 [(0, (2, 120)), (3, (0, p396_3)), (4, (0, p396_4))] [] M (q_X12_operand_120 M0) := by
                      intro M p396_3 p396_4 u396_120_8 hS bp396_3 bp396_4 bu396_120_8 k396_120_3 k396_120_36 k396_120_4 k396_120_43 k396_120_44 k396_120_46 k396_120_5 k396_120_50 k396_120_6 k396_120_7 k396_120_8 k396_136_1 k396_145_g120_431n1 k396_147_g120_431n1 k396_9001_0 k396_9002_0 k396_9004_0 k396_9005_0 k396_9010_0 t396_0 t396_1
                      clear k295_120_3 k295_120_36 k295_120_4 k295_120_43 k295_120_44 k295_120_46 k295_120_5 k295_120_50 k295_120_6 k295_120_7 k295_120_8 k295_136_1 k295_145_g120_431n1 k295_147_g120_431n1 k295_9001_0 k295_9002_0 k295_9004_0 k295_9005_0 k295_9010_0
                      replace t396_0 := hd_i t396_0
                      replace t396_1 := hd_i t396_1
                      refine Tr.aload_n (pc := 396) (i := 0) d_X12_operand_396 rfl rfl ?_
                      refine Tr.getf (pc := 397) d_X12_operand_397 f_12_36 (by decide) (by decide) (ty_120 hS.1.1) ?_
                      refine Tr.tp u396_120_8 k396_120_8 ?_
                      refine Tr.if_le (pc := 400) (tgt := 405) d_X12_operand_400 rfl (fun c400 => ?_) (fun c400 => ?_)
                      · refine Tr.aload_n (pc := 405) (i := 0) d_X12_operand_405 rfl rfl ?_
                        refine Tr.iload_n (pc := 406) (i := 3) d_X12_operand_406 rfl rfl ?_
                        refine Tr.iload (pc := 407) (i := 4) d_X12_operand_407 rfl ?_
                        refine Tr.callV (pc := 409) (as := [_, _]) d_X12_operand_409 s_12_475 ok_X12_add rfl rfl (Nat.le_of_ble_eq_true rfl) (Nat.le_of_ble_eq_true rfl) (by decide) (ty_120 hS.1.1) ?_
                        have kb409_120_36 : rd M 120 36 = g120_36 := k396_120_36
                        have kb409_136_1 : rd M 136 1 = g136_1 := k396_136_1
                        have kb409_9004_0 : Dv1 M = g9004_0 := k396_9004_0
                        refine Tr.imp (Tr.deep (by decide) (sp_X12_add_120_w2 hS.1 ((St.kp hS (by decide) (by decide) (by decide)).trans en_120_37) p396_3 (by and_intros <;> omega) p396_4 (by and_intros <;> omega) (by exact (hd_o t396_0).elim (fun h1 => by omega) (fun h1 => h1.elim (fun h1 => by omega) (fun h1 => h1.elim (fun h1 => by omega) (fun h1 => h1.elim (fun h1 => by omega) (fun h1 => by omega))))) (by exact (hd_o t396_1).elim (fun h1 => (ne_o h1).elim (fun h2 => by omega) (fun h2 => by omega)) (fun h1 => (ne_o h1).elim (fun h2 => by omega) (fun h2 => (hd_o t166_0).elim (fun h3 => by omega) (fun h3 => by omega)))) (by omega) (by omega) (by omega))) ?_
                        rintro M409 _ ⟨h409, rfl, z409_0, z409_1⟩
                        have hS := St.tr hS h409 (by decide) (by decide)
                        obtain ⟨s409_120_36, es409_120_36⟩ : ∃ v, rd M409 120 36 = v := ⟨_, rfl⟩
                        have bs409_120_36 : 0 ≤ s409_120_36 ∧ s409_120_36 ≤ 900 := by rw [← es409_120_36]; exact ir_120_36 hS.1.2.1
                        obtain ⟨s409_9004_0, es409_9004_0⟩ : ∃ v, Dv1 M409 = v := ⟨_, rfl⟩
                        have bs409_9004_0 : (-1000) ≤ s409_9004_0 ∧ s409_9004_0 ≤ 1000 := by rw [← es409_9004_0]; exact (Dv1_b hS.1.2.1)
                        replace z409_1 := hd_i z409_1
                        refine Tr.sc [] rfl ?_
                        refine Tr.aload_n (pc := 412) (i := 0) d_X12_operand_412 rfl rfl ?_
                        refine Tr.callV (pc := 413) (as := []) d_X12_operand_413 s_12_396 ok_X12_next rfl rfl (Nat.le_of_ble_eq_true rfl) (Nat.le_of_ble_eq_true rfl) (by decide) (ty_120 hS.1.1) ?_
                        have kb413_120_3 : rd M409 120 3 = g120_3 := ((St.kp h409 (by decide) (by decide) (by decide)).trans k396_120_3)
                        have kb413_120_5 : rd M409 120 5 = g120_5 := ((St.kp h409 (by decide) (by decide) (by decide)).trans k396_120_5)
                        have kb413_120_8 : rd M409 120 8 = u396_120_8 := ((St.kp h409 (by decide) (by decide) (by decide)).trans k396_120_8)
                        have kb413_9010_0 : tav M409 = g9010_0 := ((tav_of ((St.kp h409 (by decide) (by decide) (by decide)).trans rfl) ((St.kp h409 (by decide) (by decide) (by decide)).trans rfl)).trans k396_9010_0)
                        refine Tr.imp (Tr.deep (by decide) (sp_X12_next_120 hS.1 )) ?_
                        rintro M413 _ ⟨h413, rfl, z413_0, z413_1, z413_2, z413_3, z413_4, z413_5, z413_6⟩
                        have hS := St.tr hS h413 (by decide) (by decide)
                        obtain ⟨s413_120_3, es413_120_3⟩ : ∃ v, rd M413 120 3 = v := ⟨_, rfl⟩
                        have bs413_120_3 : 0 ≤ s413_120_3 ∧ s413_120_3 ≤ 3 := by rw [← es413_120_3]; exact ir_120_3 hS.1.2.1
                        obtain ⟨s413_120_4, es413_120_4⟩ : ∃ v, rd M413 120 4 = v := ⟨_, rfl⟩
                        have bs413_120_4 : 0 ≤ s413_120_4 ∧ s413_120_4 ≤ 900 := by rw [← es413_120_4]; exact ir_120_4 hS.1.2.1
                        obtain ⟨s413_120_5, es413_120_5⟩ : ∃ v, rd M413 120 5 = v := ⟨_, rfl⟩
                        have bs413_120_5 : 0 ≤ s413_120_5 ∧ s413_120_5 ≤ 900 := by rw [← es413_120_5]; exact ir_120_5 hS.1.2.1
                        obtain ⟨s413_120_7, es413_120_7⟩ : ∃ v, rd M413 120 7 = v := ⟨_, rfl⟩
                        have bs413_120_7 : (-9223372036854775808) ≤ s413_120_7 ∧ s413_120_7 ≤ 9223372036854775807 := by rw [← es413_120_7]; exact ir_120_7 hS.1.2.1
                        obtain ⟨s413_120_8, es413_120_8⟩ : ∃ v, rd M413 120 8 = v := ⟨_, rfl⟩
                        have bs413_120_8 : 0 ≤ s413_120_8 ∧ s413_120_8 ≤ 5 := by rw [← es413_120_8]; exact ir_120_8 hS.1.2.1
                        obtain ⟨s413_9010_0, es413_9010_0⟩ : ∃ v, tav M413 = v := ⟨_, rfl⟩
                        have bs413_9010_0 : (-1) ≤ s413_9010_0 ∧ s413_9010_0 ≤ 1800 := by rw [← es413_9010_0]; exact (tav_b hS.1.2.1)
                        replace z413_0 := hd_i z413_0
                        replace z413_2 := hd_i z413_2
                        replace z413_5 := hd_i z413_5
                        replace z413_6 := hd_i z413_6
                        refine Tr.sc [] rfl ?_
                        refine Tr.iconst (pc := 416) d_X12_operand_416 (by decide) ?_
                        have kr_120_3 : rd M413 120 3 = s413_120_3 := es413_120_3
                        have kr_120_4 : rd M413 120 4 = s413_120_4 := es413_120_4
                        have kr_120_5 : rd M413 120 5 = s413_120_5 := es413_120_5
                        have kr_120_7 : rd M413 120 7 = s413_120_7 := es413_120_7
                        have kr_120_8 : rd M413 120 8 = s413_120_8 := es413_120_8
                        have kr_120_36 : rd M413 120 36 = s409_120_36 := ((St.kp h413 (by decide) (by decide) (by decide)).trans es409_120_36)
                        have kr_120_43 : rd M413 120 43 = g120_43 := ((St.kp h413 (by decide) (by decide) (by decide)).trans ((St.kp h409 (by decide) (by decide) (by decide)).trans k396_120_43))
                        have kr_120_44 : rd M413 120 44 = g120_44 := ((St.kp h413 (by decide) (by decide) (by decide)).trans ((St.kp h409 (by decide) (by decide) (by decide)).trans k396_120_44))
                        have kr_120_46 : rd M413 120 46 = g120_46 := ((St.kp h413 (by decide) (by decide) (by decide)).trans ((St.kp h409 (by decide) (by decide) (by decide)).trans k396_120_46))
                        have kr_120_50 : rd M413 120 50 = g120_50 := ((St.kp h413 (by decide) (by decide) (by decide)).trans ((St.kp h409 (by decide) (by decide) (by decide)).trans k396_120_50))
                        have kr_136_1 : rd M413 136 1 = g136_1 := ((St.kp h413 (by decide) (by decide) (by decide)).trans ((St.kp h409 (by decide) (by decide) (by decide)).trans k396_136_1))
                        have kr_9001_0 : nb2v M413 = g9001_0 := ((nb2v_of (fun j => ((St.ka h413 (by decide) (by decide) (by decide)).trans ((St.ka h409 (by decide) (by decide) (by decide)).trans rfl))) ((St.kp h413 (by decide) (by decide) (by decide)).trans ((St.kp h409 (by decide) (by decide) (by decide)).trans rfl))).trans k396_9001_0)
                        have kr_9002_0 : n4v M413 = g9002_0 := ((n4v_of (fun j => ((St.ka h413 (by decide) (by decide) (by decide)).trans ((St.ka h409 (by decide) (by decide) (by decide)).trans rfl))) ((St.kp h413 (by decide) (by decide) (by decide)).trans ((St.kp h409 (by decide) (by decide) (by decide)).trans rfl))).trans k396_9002_0)
                        have kr_9004_0 : Dv1 M413 = s409_9004_0 := ((Dv1_of (fun j => ((St.ka h413 (by decide) (by decide) (by decide)).trans rfl)) (fun j => ((St.ka h413 (by decide) (by decide) (by decide)).trans rfl)) ((St.kp h413 (by decide) (by decide) (by decide)).trans rfl) ((St.kp h413 (by decide) (by decide) (by decide)).trans rfl)).trans es409_9004_0)
                        have kr_9005_0 : fr0 M413 = g9005_0 := ((fr0_of (fun j => ((St.ka h413 (by decide) (by decide) (by decide)).trans ((St.ka h409 (by decide) (by decide) (by decide)).trans rfl)))).trans k396_9005_0)
                        have kr_9010_0 : tav M413 = s413_9010_0 := es413_9010_0
                        exact Tr.zret (pc := 417) d_X12_operand_417 rfl (by omega) ⟨hS, _, rfl, by omega, by omega, (by first | exact (hd_o z413_0) | exact (hd_o z413_0).elim (fun h1 => by omega) (fun h1 => by omega)), (by omega), (by first | exact (hd_o z413_2) | exact (hd_o z413_2).elim (fun h1 => by omega) (fun h1 => h1.elim (fun h1 => by omega) (fun h1 => by omega))), (by and_intros <;> omega), (by omega), (by exact (hd_o t396_1).elim (fun h1 => (ne_o h1).elim (fun h2 => by omega) (fun h2 => by omega)) (fun h1 => (ne_o h1).elim (fun h2 => by omega) (fun h2 => (hd_o z413_5).elim (fun h3 => by omega) (fun h3 => by omega)))), (by exact (hd_o t396_1).elim (fun h1 => (ne_o h1).elim (fun h2 => by omega) (fun h2 => by omega)) (fun h1 => (ne_o h1).elim (fun h2 => by omega) (fun h2 => (hd_o t166_0).elim (fun h3 => by omega) (fun h3 => by omega)))), (by omega), (by omega), (by omega), (by omega), (by exact (hd_o t396_1).elim (fun h1 => (ne_o h1).elim (fun h2 => by omega) (fun h2 => by omega)) (fun h1 => (ne_o h1).elim (fun h2 => by omega) (fun h2 => (hd_o t166_0).elim (fun h3 => by omega) (fun h3 => by omega)))), (by exact (hd_o z409_1).elim (fun h1 => by omega) (fun h1 => h1.elim (fun h1 => by omega) (fun h1 => by omega)))⟩
                      · refine Tr.iconst (pc := 403) d_X12_operand_403 (by decide) ?_
                        have kr_120_3 : rd M 120 3 = g120_3 := k396_120_3
                        have kr_120_4 : rd M 120 4 = g120_4 := k396_120_4
                        have kr_120_5 : rd M 120 5 = g120_5 := k396_120_5
                        have kr_120_7 : rd M 120 7 = g120_7 := k396_120_7
                        have kr_120_8 : rd M 120 8 = u396_120_8 := k396_120_8
                        have kr_120_36 : rd M 120 36 = g120_36 := k396_120_36
                        have kr_120_43 : rd M 120 43 = g120_43 := k396_120_43
                        have kr_120_44 : rd M 120 44 = g120_44 := k396_120_44
                        have kr_120_46 : rd M 120 46 = g120_46 := k396_120_46
                        have kr_120_50 : rd M 120 50 = g120_50 := k396_120_50
                        have kr_136_1 : rd M 136 1 = g136_1 := k396_136_1
                        have kr_9001_0 : nb2v M = g9001_0 := k396_9001_0
                        have kr_9002_0 : n4v M = g9002_0 := k396_9002_0
                        have kr_9004_0 : Dv1 M = g9004_0 := k396_9004_0
                        have kr_9005_0 : fr0 M = g9005_0 := k396_9005_0
                        have kr_9010_0 : tav M = g9010_0 := k396_9010_0
                        exact Tr.zret (pc := 404) d_X12_operand_404 rfl (by omega) ⟨hS, _, rfl, by omega, by omega, (by first | exact (hd_o t166_0) | exact (hd_o t166_0).elim (fun h1 => by omega) (fun h1 => by omega)), (by omega), (by first | exact (hd_o t166_2) | exact (hd_o t166_2).elim (fun h1 => by omega) (fun h1 => h1.elim (fun h1 => by omega) (fun h1 => by omega))), (by and_intros <;> omega), (by omega), (by omega), (by omega), (by omega), (by omega), (by omega), (by omega), (by omega), (by omega)⟩
                    refine Tr.icmp_ne (pc := 304) (tgt := 396) d_X12_operand_304 rfl (fun c304 => ?_) (fun c304 => ?_)
                    · replace c304 := hd_i c304
                      refine Tr.pick [2, 1, 0] (ls2 := [(0, (2, 120)), (3, (0, q295_0)), (4, (0, g120_6))]) rfl ?_
                      exact J396 _ _ _ _ hS (by and_intros <;> omega) (by and_intros <;> omega) (by and_intros <;> omega) k295_120_3 k295_120_36 k295_120_4 k295_120_43 k295_120_44 k295_120_46 k295_120_5 k295_120_50 k295_120_6 k295_120_7 k295_120_8 k295_136_1 k295_145_g120_431n1 k295_147_g120_431n1 k295_9001_0 k295_9002_0 k295_9004_0 k295_9005_0 k295_9010_0 (by exact (hd_o t295_1).elim (fun h1 => by omega) (fun h1 => h1.elim (fun h1 => (ne_o (hd_o c304)).elim (fun h2 => by omega) (fun h2 => by omega)) (fun h1 => by omega))) (by exact (hd_o t295_0).elim (fun h1 => (ne_o (hd_o c304)).elim (fun h2 => by omega) (fun h2 => by omega)) (fun h1 => (ne_o h1).elim (fun h2 => by omega) (fun h2 => by omega)))
                    · refine Tr.aload_n (pc := 307) (i := 0) d_X12_operand_307 rfl rfl ?_
                      refine Tr.getf (pc := 308) d_X12_operand_308 f_12_20 (by decide) (by decide) (ty_120 hS.1.1) ?_
                      refine Tr.tp g120_3 k295_120_3 ?_
                      refine Tr.iconst (pc := 311) d_X12_operand_311 (by decide) ?_
                      have J335 : ∀ (M : Mem) (u335_120_8 : Int), St Pm1 ws_X12_operand_120 as_X12_operand_120 M0 M → (0 ≤ u335_120_8 ∧ u335_120_8 ≤ 5) → rd M 120 3 = g120_3 → rd M 120 36 = g120_36 → rd M 120 4 = g120_4 → rd M 120 43 = g120_43 → rd M 120 44 = g120_44 → rd M 120 46 = g120_46 → rd M 120 5 = g120_5 → rd M 120 50 = g120_50 → rd M 120 6 = g120_6 → rd M 120 7 = g120_7 → rd M 120 8 = u335_120_8 → rd M 136 1 = g136_1 → rd M 145 (g120_43 - 1) = r12 → rd M 147 (g120_43 - 1) = 0 → nb2v M = g9001_0 → n4v M = g9002_0 → Dv1 M = g9004_0 → fr0 M = g9005_0 → tav M = g9010_0 → (u335_120_8 ≠ 0 ∨ g120_3 ≠ 0) → Tr l K 3 mX12_operand 335 [(0, (2, 120)), (3, (0, q295_0))] [] M (q_X12_operand_120 M0) := by
                        intro M u335_120_8 hS bu335_120_8 k335_120_3 k335_120_36 k335_120_4 k335_120_43 k335_120_44 k335_120_46 k335_120_5 k335_120_50 k335_120_6 k335_120_7 k335_120_8 k335_136_1 k335_145_g120_431n1 k335_147_g120_431n1 k335_9001_0 k335_9002_0 k335_9004_0 k335_9005_0 k335_9010_0 t335_0
                        clear k295_120_3 k295_120_36 k295_120_4 k295_120_43 k295_120_44 k295_120_46 k295_120_5 k295_120_50 k295_120_6 k295_120_7 k295_120_8 k295_136_1 k295_145_g120_431n1 k295_147_g120_431n1 k295_9001_0 k295_9002_0 k295_9004_0 k295_9005_0 k295_9010_0
                        replace t335_0 := hd_i t335_0
                        refine Tr.aload_n (pc := 335) (i := 0) d_X12_operand_335 rfl rfl ?_
                        refine Tr.getf (pc := 336) d_X12_operand_336 f_12_36 (by decide) (by decide) (ty_120 hS.1.1) ?_
                        refine Tr.tp u335_120_8 k335_120_8 ?_
                        have J354 : ∀ (M : Mem) (q354_0 : Int), St Pm1 ws_X12_operand_120 as_X12_operand_120 M0 M → ((-1) ≤ q354_0 ∧ q354_0 ≤ 2) → rd M 120 3 = g120_3 → rd M 120 36 = g120_36 → rd M 120 4 = g120_4 → rd M 120 43 = g120_43 → rd M 120 44 = g120_44 → rd M 120 46 = g120_46 → rd M 120 5 = g120_5 → rd M 120 50 = g120_50 → rd M 120 6 = g120_6 → rd M 120 7 = g120_7 → rd M 120 8 = u335_120_8 → rd M 136 1 = g136_1 → rd M 145 (g120_43 - 1) = r12 → rd M 147 (g120_43 - 1) = 0 → nb2v M = g9001_0 → n4v M = g9002_0 → Dv1 M = g9004_0 → fr0 M = g9005_0 → tav M = g9010_0 → (-1 ≤ q354_0 ∧ q354_0 ≤ 2) → Tr l K 3 mX12_operand 354 [(0, (2, 120)), (3, (0, q295_0))] [(0, q354_0)] M (q_X12_operand_120 M0) := by
                          intro M q354_0 hS bq354_0 k354_120_3 k354_120_36 k354_120_4 k354_120_43 k354_120_44 k354_120_46 k354_120_5 k354_120_50 k354_120_6 k354_120_7 k354_120_8 k354_136_1 k354_145_g120_431n1 k354_147_g120_431n1 k354_9001_0 k354_9002_0 k354_9004_0 k354_9005_0 k354_9010_0 t354_0
                          clear k335_120_3 k335_120_36 k335_120_4 k335_120_43 k335_120_44 k335_120_46 k335_120_5 k335_120_50 k335_120_6 k335_120_7 k335_120_8 k335_136_1 k335_145_g120_431n1 k335_147_g120_431n1 k335_9001_0 k335_9002_0 k335_9004_0 k335_9005_0 k335_9010_0
                          refine Tr.istore (pc := 354) (i := 4) (ls2 := [(4, (0, q354_0)), (0, (2, 120)), (3, (0, q295_0))]) d_X12_operand_354 (by decide) rfl ?_
                          refine Tr.iload (pc := 356) (i := 4) d_X12_operand_356 rfl ?_
                          refine Tr.iconst (pc := 358) d_X12_operand_358 (by decide) ?_
                          have J374 : ∀ (M : Mem) (p374_3 p374_4 : Int), St Pm1 ws_X12_operand_120 as_X12_operand_120 M0 M → (1 ≤ p374_3 ∧ p374_3 ≤ 2) → ((-1) ≤ p374_4 ∧ p374_4 ≤ 5) → rd M 120 3 = g120_3 → rd M 120 36 = g120_36 → rd M 120 4 = g120_4 → rd M 120 43 = g120_43 → rd M 120 44 = g120_44 → rd M 120 46 = g120_46 → rd M 120 5 = g120_5 → rd M 120 50 = g120_50 → rd M 120 6 = g120_6 → rd M 120 7 = g120_7 → rd M 120 8 = u335_120_8 → rd M 136 1 = g136_1 → rd M 145 (g120_43 - 1) = r12 → rd M 147 (g120_43 - 1) = 0 → nb2v M = g9001_0 → n4v M = g9002_0 → Dv1 M = g9004_0 → fr0 M = g9005_0 → tav M = g9010_0 → ((p374_3 = 1 ∧ 0 ≤ p374_4 ∧ p374_4 ≤ 2) ∨ (p374_3 = 2 ∧ -1 ≤ p374_4 ∧ p374_4 ≤ 5)) → (u335_120_8 ≠ 0 ∨ g120_3 ≠ 0) → Tr l K 3 mX12_operand 374 [(0, (2, 120)), (3, (0, p374_3)), (4, (0, p374_4))] [] M (q_X12_operand_120 M0) := by
                            intro M p374_3 p374_4 hS bp374_3 bp374_4 k374_120_3 k374_120_36 k374_120_4 k374_120_43 k374_120_44 k374_120_46 k374_120_5 k374_120_50 k374_120_6 k374_120_7 k374_120_8 k374_136_1 k374_145_g120_431n1 k374_147_g120_431n1 k374_9001_0 k374_9002_0 k374_9004_0 k374_9005_0 k374_9010_0 t374_0 t374_1
                            clear k354_120_3 k354_120_36 k354_120_4 k354_120_43 k354_120_44 k354_120_46 k354_120_5 k354_120_50 k354_120_6 k354_120_7 k354_120_8 k354_136_1 k354_145_g120_431n1 k354_147_g120_431n1 k354_9001_0 k354_9002_0 k354_9004_0 k354_9005_0 k354_9010_0
                            replace t374_0 := hd_i t374_0
                            replace t374_1 := hd_i t374_1
                            refine Tr.aload_n (pc := 374) (i := 0) d_X12_operand_374 rfl rfl ?_
                            refine Tr.getf (pc := 375) d_X12_operand_375 f_12_36 (by decide) (by decide) (ty_120 hS.1.1) ?_
                            refine Tr.tp u335_120_8 k374_120_8 ?_
                            refine Tr.if_ne (pc := 378) (tgt := 396) d_X12_operand_378 rfl (fun c378 => ?_) (fun c378 => ?_)
                            · have c378b : 1 ≤ u335_120_8 ∧ u335_120_8 ≤ 5 := by omega
                              replace c378 := hd_i c378
                              refine Tr.pick [0, 1, 2] (ls2 := [(0, (2, 120)), (3, (0, p374_3)), (4, (0, p374_4))]) rfl ?_
                              exact J396 _ _ _ _ hS (by and_intros <;> omega) (by and_intros <;> omega) (by and_intros <;> omega) k374_120_3 k374_120_36 k374_120_4 k374_120_43 k374_120_44 k374_120_46 k374_120_5 k374_120_50 k374_120_6 k374_120_7 k374_120_8 k374_136_1 k374_145_g120_431n1 k374_147_g120_431n1 k374_9001_0 k374_9002_0 k374_9004_0 k374_9005_0 k374_9010_0 (by omega) (by first | exact (hd_o t374_1) | exact (hd_o t374_1).elim (fun h1 => by omega) (fun h1 => by omega))
                            · refine Tr.iload (pc := 381) (i := 4) d_X12_operand_381 rfl ?_
                              refine Tr.iconst (pc := 383) d_X12_operand_383 (by decide) ?_
                              refine Tr.icmp_ne (pc := 384) (tgt := 396) d_X12_operand_384 rfl (fun c384 => ?_) (fun c384 => ?_)
                              · have c384b : 0 ≤ p374_4 ∧ p374_4 ≤ 5 := by omega
                                replace c384 := hd_i c384
                                refine Tr.pick [0, 1, 2] (ls2 := [(0, (2, 120)), (3, (0, p374_3)), (4, (0, p374_4))]) rfl ?_
                                exact J396 _ _ _ _ hS (by and_intros <;> omega) (by and_intros <;> omega) (by and_intros <;> omega) k374_120_3 k374_120_36 k374_120_4 k374_120_43 k374_120_44 k374_120_46 k374_120_5 k374_120_50 k374_120_6 k374_120_7 k374_120_8 k374_136_1 k374_145_g120_431n1 k374_147_g120_431n1 k374_9001_0 k374_9002_0 k374_9004_0 k374_9005_0 k374_9010_0 (by exact (hd_o t374_0).elim (fun h1 => by omega) (fun h1 => by omega)) (by first | exact (hd_o t374_1) | exact (hd_o t374_1).elim (fun h1 => by omega) (fun h1 => by omega))
                              · refine Tr.aload_n (pc := 387) (i := 0) d_X12_operand_387 rfl rfl ?_
                                refine Tr.iconst (pc := 388) d_X12_operand_388 (by decide) ?_
                                refine Tr.aload_n (pc := 389) (i := 0) d_X12_operand_389 rfl rfl ?_
                                refine Tr.getf (pc := 390) d_X12_operand_390 f_12_23 (by decide) (by decide) (ty_120 hS.1.1) ?_
                                refine Tr.tp g120_4 k374_120_4 ?_
                                refine Tr.callV (pc := 393) (as := [_, _]) d_X12_operand_393 s_12_389 ok_X12_blame rfl rfl (Nat.le_of_ble_eq_true rfl) (Nat.le_of_ble_eq_true rfl) (by decide) (ty_120 hS.1.1) ?_
                                have kb393_120_8 : rd M 120 8 = u335_120_8 := k374_120_8
                                refine Tr.imp (Tr.deep (by decide) (sp_X12_blame_120 hS.1 3 (by omega) g120_4 (by and_intros <;> omega))) ?_
                                rintro M393 _ ⟨h393, rfl, z393_0⟩
                                have hS := St.tr hS h393 (by decide) (by decide)
                                obtain ⟨s393_120_8, es393_120_8⟩ : ∃ v, rd M393 120 8 = v := ⟨_, rfl⟩
                                have bs393_120_8 : 0 ≤ s393_120_8 ∧ s393_120_8 ≤ 5 := by rw [← es393_120_8]; exact ir_120_8 hS.1.2.1
                                replace z393_0 := hd_i z393_0
                                refine Tr.sc [] rfl ?_
                                refine Tr.pick [0, 1, 2] (ls2 := [(0, (2, 120)), (3, (0, p374_3)), (4, (0, p374_4))]) rfl ?_
                                exact J396 _ _ _ _ hS (by and_intros <;> omega) (by and_intros <;> omega) (by and_intros <;> omega) ((St.kp h393 (by decide) (by decide) (by decide)).trans k374_120_3) ((St.kp h393 (by decide) (by decide) (by decide)).trans k374_120_36) ((St.kp h393 (by decide) (by decide) (by decide)).trans k374_120_4) ((St.kp h393 (by decide) (by decide) (by decide)).trans k374_120_43) ((St.kp h393 (by decide) (by decide) (by decide)).trans k374_120_44) ((St.kp h393 (by decide) (by decide) (by decide)).trans k374_120_46) ((St.kp h393 (by decide) (by decide) (by decide)).trans k374_120_5) ((St.kp h393 (by decide) (by decide) (by decide)).trans k374_120_50) ((St.kp h393 (by decide) (by decide) (by decide)).trans k374_120_6) ((St.kp h393 (by decide) (by decide) (by decide)).trans k374_120_7) es393_120_8 ((St.kp h393 (by decide) (by decide) (by decide)).trans k374_136_1) ((St.ka h393 (by decide) (by decide) (by decide)).trans k374_145_g120_431n1) ((St.ka h393 (by decide) (by decide) (by decide)).trans k374_147_g120_431n1) ((nb2v_of (fun j => ((St.ka h393 (by decide) (by decide) (by decide)).trans rfl)) ((St.kp h393 (by decide) (by decide) (by decide)).trans rfl)).trans k374_9001_0) ((n4v_of (fun j => ((St.ka h393 (by decide) (by decide) (by decide)).trans rfl)) ((St.kp h393 (by decide) (by decide) (by decide)).trans rfl)).trans k374_9002_0) ((Dv1_of (fun j => ((St.ka h393 (by decide) (by decide) (by decide)).trans rfl)) (fun j => ((St.ka h393 (by decide) (by decide) (by decide)).trans rfl)) ((St.kp h393 (by decide) (by decide) (by decide)).trans rfl) ((St.kp h393 (by decide) (by decide) (by decide)).trans rfl)).trans k374_9004_0) ((fr0_of (fun j => ((St.ka h393 (by decide) (by decide) (by decide)).trans rfl))).trans k374_9005_0) ((tav_of ((St.kp h393 (by decide) (by decide) (by decide)).trans rfl) ((St.kp h393 (by decide) (by decide) (by decide)).trans rfl)).trans k374_9010_0) (by exact (hd_o z393_0).elim (fun h1 => by omega) (fun h1 => by omega)) (by exact (hd_o z393_0).elim (fun h1 => by omega) (fun h1 => by omega))
                          refine Tr.icmp_ne (pc := 359) (tgt := 374) d_X12_operand_359 rfl (fun c359 => ?_) (fun c359 => ?_)
                          · have c359b : 0 ≤ q354_0 ∧ q354_0 ≤ 2 := by omega
                            replace c359 := hd_i c359
                            refine Tr.pick [1, 2, 0] (ls2 := [(0, (2, 120)), (3, (0, q295_0)), (4, (0, q354_0))]) rfl ?_
                            exact J374 _ _ _ hS (by and_intros <;> omega) (by and_intros <;> omega) k354_120_3 k354_120_36 k354_120_4 k354_120_43 k354_120_44 k354_120_46 k354_120_5 k354_120_50 k354_120_6 k354_120_7 k354_120_8 k354_136_1 k354_145_g120_431n1 k354_147_g120_431n1 k354_9001_0 k354_9002_0 k354_9004_0 k354_9005_0 k354_9010_0 (by omega) (by first | exact (hd_o t335_0) | exact (hd_o t335_0).elim (fun h1 => by omega) (fun h1 => by omega))
                          · refine Tr.iconst (pc := 362) d_X12_operand_362 (by decide) ?_
                            refine Tr.istore_n (pc := 363) (i := 3) (ls2 := [(3, (0, 2)), (4, (0, q354_0)), (0, (2, 120))]) d_X12_operand_363 rfl (by decide) rfl ?_
                            refine Tr.aload_n (pc := 364) (i := 0) d_X12_operand_364 rfl rfl ?_
                            refine Tr.aload_n (pc := 365) (i := 0) d_X12_operand_365 rfl rfl ?_
                            refine Tr.getf (pc := 366) d_X12_operand_366 f_12_32 (by decide) (by decide) (ty_120 hS.1.1) ?_
                            refine Tr.tp g120_7 k354_120_7 ?_
                            refine Tr.callV (pc := 369) (as := [_]) d_X12_operand_369 s_12_464 ok_X12_varOf rfl rfl (Nat.le_of_ble_eq_true rfl) (Nat.le_of_ble_eq_true rfl) (by decide) (ty_120 hS.1.1) ?_
                            refine Tr.imp (Tr.deep (by decide) (sp_X12_varOf_120 hS.1.wk ((St.kp hS (by decide) (by decide) (by decide)).trans en_120_37) g120_7 (by omega))) ?_
                            rintro M369 _ ⟨h369, r369, rfl, lr369, ur369⟩
                            have h369 := St.rn h369 (Pm1.of hS.1.2.2.2.2 (fun _ => St.ka h369 (by decide) (by decide) (by decide)) (fun _ => St.ka h369 (by decide) (by decide) (by decide)) (fun _ => St.ka h369 (by decide) (by decide) (by decide)) (fun _ => St.ka h369 (by decide) (by decide) (by decide)) (fun _ => St.ka h369 (by decide) (by decide) (by decide)) (fun _ => St.ka h369 (by decide) (by decide) (by decide)) (fun _ => St.ka h369 (by decide) (by decide) (by decide)) (fun _ => St.ka h369 (by decide) (by decide) (by decide)) (fun _ => St.ka h369 (by decide) (by decide) (by decide)) (fun _ => St.ka h369 (by decide) (by decide) (by decide)) (St.kp h369 (by decide) (by decide) (by decide)) (St.kp h369 (by decide) (by decide) (by decide)) (St.kp h369 (by decide) (by decide) (by decide)) (St.kp h369 (by decide) (by decide) (by decide)) (St.kp h369 (by decide) (by decide) (by decide)) (St.kp h369 (by decide) (by decide) (by decide)) (St.kp h369 (by decide) (by decide) (by decide)) (St.kp h369 (by decide) (by decide) (by decide)) (St.kp h369 (by decide) (by decide) (by decide)) (St.kp h369 (by decide) (by decide) (by decide)) (St.kp h369 (by decide) (by decide) (by decide)))
                            have hS := St.tr hS h369 (by decide) (by decide)
                            refine Tr.sc [(0, r369)] rfl ?_
                            refine Tr.istore (pc := 372) (i := 4) (ls2 := [(4, (0, r369)), (3, (0, 2)), (0, (2, 120))]) d_X12_operand_372 (by decide) rfl ?_
                            refine Tr.pick [2, 1, 0] (ls2 := [(0, (2, 120)), (3, (0, 2)), (4, (0, r369))]) rfl ?_
                            exact J374 _ _ _ hS (by omega) (by and_intros <;> omega) ((St.kp h369 (by decide) (by decide) (by decide)).trans k354_120_3) ((St.kp h369 (by decide) (by decide) (by decide)).trans k354_120_36) ((St.kp h369 (by decide) (by decide) (by decide)).trans k354_120_4) ((St.kp h369 (by decide) (by decide) (by decide)).trans k354_120_43) ((St.kp h369 (by decide) (by decide) (by decide)).trans k354_120_44) ((St.kp h369 (by decide) (by decide) (by decide)).trans k354_120_46) ((St.kp h369 (by decide) (by decide) (by decide)).trans k354_120_5) ((St.kp h369 (by decide) (by decide) (by decide)).trans k354_120_50) ((St.kp h369 (by decide) (by decide) (by decide)).trans k354_120_6) ((St.kp h369 (by decide) (by decide) (by decide)).trans k354_120_7) ((St.kp h369 (by decide) (by decide) (by decide)).trans k354_120_8) ((St.kp h369 (by decide) (by decide) (by decide)).trans k354_136_1) ((St.ka h369 (by decide) (by decide) (by decide)).trans k354_145_g120_431n1) ((St.ka h369 (by decide) (by decide) (by decide)).trans k354_147_g120_431n1) ((nb2v_of (fun j => ((St.ka h369 (by decide) (by decide) (by decide)).trans rfl)) ((St.kp h369 (by decide) (by decide) (by decide)).trans rfl)).trans k354_9001_0) ((n4v_of (fun j => ((St.ka h369 (by decide) (by decide) (by decide)).trans rfl)) ((St.kp h369 (by decide) (by decide) (by decide)).trans rfl)).trans k354_9002_0) ((Dv1_of (fun j => ((St.ka h369 (by decide) (by decide) (by decide)).trans rfl)) (fun j => ((St.ka h369 (by decide) (by decide) (by decide)).trans rfl)) ((St.kp h369 (by decide) (by decide) (by decide)).trans rfl) ((St.kp h369 (by decide) (by decide) (by decide)).trans rfl)).trans k354_9004_0) ((fr0_of (fun j => ((St.ka h369 (by decide) (by decide) (by decide)).trans rfl))).trans k354_9005_0) ((tav_of ((St.kp h369 (by decide) (by decide) (by decide)).trans rfl) ((St.kp h369 (by decide) (by decide) (by decide)).trans rfl)).trans k354_9010_0) (by omega) (by first | exact (hd_o t335_0) | exact (hd_o t335_0).elim (fun h1 => by omega) (fun h1 => by omega))
                        refine Tr.if_le (pc := 339) (tgt := 346) d_X12_operand_339 rfl (fun c339 => ?_) (fun c339 => ?_)
                        · refine Tr.aload_n (pc := 346) (i := 0) d_X12_operand_346 rfl rfl ?_
                          refine Tr.aload_n (pc := 347) (i := 0) d_X12_operand_347 rfl rfl ?_
                          refine Tr.getf (pc := 348) d_X12_operand_348 f_12_32 (by decide) (by decide) (ty_120 hS.1.1) ?_
                          refine Tr.tp g120_7 k335_120_7 ?_
                          refine Tr.callV (pc := 351) (as := [_]) d_X12_operand_351 s_12_461 ok_X12_inputOf rfl rfl (Nat.le_of_ble_eq_true rfl) (Nat.le_of_ble_eq_true rfl) (by decide) (ty_120 hS.1.1) ?_
                          refine Tr.imp (Tr.deep (by decide) (sp_X12_inputOf_120 hS.1.wk ((St.kp hS (by decide) (by decide) (by decide)).trans en_120_37) g120_7 (by omega))) ?_
                          rintro M351 _ ⟨h351, r351, rfl, lr351, ur351⟩
                          have h351 := St.rn h351 (Pm1.of hS.1.2.2.2.2 (fun _ => St.ka h351 (by decide) (by decide) (by decide)) (fun _ => St.ka h351 (by decide) (by decide) (by decide)) (fun _ => St.ka h351 (by decide) (by decide) (by decide)) (fun _ => St.ka h351 (by decide) (by decide) (by decide)) (fun _ => St.ka h351 (by decide) (by decide) (by decide)) (fun _ => St.ka h351 (by decide) (by decide) (by decide)) (fun _ => St.ka h351 (by decide) (by decide) (by decide)) (fun _ => St.ka h351 (by decide) (by decide) (by decide)) (fun _ => St.ka h351 (by decide) (by decide) (by decide)) (fun _ => St.ka h351 (by decide) (by decide) (by decide)) (St.kp h351 (by decide) (by decide) (by decide)) (St.kp h351 (by decide) (by decide) (by decide)) (St.kp h351 (by decide) (by decide) (by decide)) (St.kp h351 (by decide) (by decide) (by decide)) (St.kp h351 (by decide) (by decide) (by decide)) (St.kp h351 (by decide) (by decide) (by decide)) (St.kp h351 (by decide) (by decide) (by decide)) (St.kp h351 (by decide) (by decide) (by decide)) (St.kp h351 (by decide) (by decide) (by decide)) (St.kp h351 (by decide) (by decide) (by decide)) (St.kp h351 (by decide) (by decide) (by decide)))
                          have hS := St.tr hS h351 (by decide) (by decide)
                          refine Tr.sc [(0, r351)] rfl ?_
                          refine Tr.pick [0, 1] (ls2 := [(0, (2, 120)), (3, (0, q295_0))]) rfl ?_
                          exact J354 _ _ hS (by and_intros <;> omega) ((St.kp h351 (by decide) (by decide) (by decide)).trans k335_120_3) ((St.kp h351 (by decide) (by decide) (by decide)).trans k335_120_36) ((St.kp h351 (by decide) (by decide) (by decide)).trans k335_120_4) ((St.kp h351 (by decide) (by decide) (by decide)).trans k335_120_43) ((St.kp h351 (by decide) (by decide) (by decide)).trans k335_120_44) ((St.kp h351 (by decide) (by decide) (by decide)).trans k335_120_46) ((St.kp h351 (by decide) (by decide) (by decide)).trans k335_120_5) ((St.kp h351 (by decide) (by decide) (by decide)).trans k335_120_50) ((St.kp h351 (by decide) (by decide) (by decide)).trans k335_120_6) ((St.kp h351 (by decide) (by decide) (by decide)).trans k335_120_7) ((St.kp h351 (by decide) (by decide) (by decide)).trans k335_120_8) ((St.kp h351 (by decide) (by decide) (by decide)).trans k335_136_1) ((St.ka h351 (by decide) (by decide) (by decide)).trans k335_145_g120_431n1) ((St.ka h351 (by decide) (by decide) (by decide)).trans k335_147_g120_431n1) ((nb2v_of (fun j => ((St.ka h351 (by decide) (by decide) (by decide)).trans rfl)) ((St.kp h351 (by decide) (by decide) (by decide)).trans rfl)).trans k335_9001_0) ((n4v_of (fun j => ((St.ka h351 (by decide) (by decide) (by decide)).trans rfl)) ((St.kp h351 (by decide) (by decide) (by decide)).trans rfl)).trans k335_9002_0) ((Dv1_of (fun j => ((St.ka h351 (by decide) (by decide) (by decide)).trans rfl)) (fun j => ((St.ka h351 (by decide) (by decide) (by decide)).trans rfl)) ((St.kp h351 (by decide) (by decide) (by decide)).trans rfl) ((St.kp h351 (by decide) (by decide) (by decide)).trans rfl)).trans k335_9004_0) ((fr0_of (fun j => ((St.ka h351 (by decide) (by decide) (by decide)).trans rfl))).trans k335_9005_0) ((tav_of ((St.kp h351 (by decide) (by decide) (by decide)).trans rfl) ((St.kp h351 (by decide) (by decide) (by decide)).trans rfl)).trans k335_9010_0) (by and_intros <;> omega)
                        · refine Tr.iconst (pc := 342) d_X12_operand_342 (by decide) ?_
                          refine Tr.goto (pc := 343) (tgt := 354) d_X12_operand_343 rfl ?_
                          refine Tr.pick [0, 1] (ls2 := [(0, (2, 120)), (3, (0, q295_0))]) rfl ?_
                          exact J354 _ _ hS (by omega) k335_120_3 k335_120_36 k335_120_4 k335_120_43 k335_120_44 k335_120_46 k335_120_5 k335_120_50 k335_120_6 k335_120_7 k335_120_8 k335_136_1 k335_145_g120_431n1 k335_147_g120_431n1 k335_9001_0 k335_9002_0 k335_9004_0 k335_9005_0 k335_9010_0 (by and_intros <;> omega)
                      have J326 : ∀ (M : Mem), St Pm1 ws_X12_operand_120 as_X12_operand_120 M0 M → rd M 120 3 = g120_3 → rd M 120 36 = g120_36 → rd M 120 4 = g120_4 → rd M 120 43 = g120_43 → rd M 120 44 = g120_44 → rd M 120 46 = g120_46 → rd M 120 5 = g120_5 → rd M 120 50 = g120_50 → rd M 120 6 = g120_6 → rd M 120 7 = g120_7 → rd M 120 8 = g120_8 → rd M 136 1 = g136_1 → rd M 145 (g120_43 - 1) = r12 → rd M 147 (g120_43 - 1) = 0 → nb2v M = g9001_0 → n4v M = g9002_0 → Dv1 M = g9004_0 → fr0 M = g9005_0 → tav M = g9010_0 → (g120_3 = 0 ∨ g120_4 + 1 ≤ g120_5) → (g120_4 ≤ g120_5) → (g120_3 ≠ 1 ∨ g120_4 + 2 ≤ g120_5 ∨ g120_7 < 256) → (g120_4 ≤ g120_4 ∧ g120_5 ≤ g120_5 ∧ g9010_0 ≤ g9010_0) → (g120_8 = 0 ∨ g120_8 = g120_8) → Tr l K 3 mX12_operand 326 [(0, (2, 120)), (3, (0, q295_0))] [] M (q_X12_operand_120 M0) := by
                        intro M  hS  k326_120_3 k326_120_36 k326_120_4 k326_120_43 k326_120_44 k326_120_46 k326_120_5 k326_120_50 k326_120_6 k326_120_7 k326_120_8 k326_136_1 k326_145_g120_431n1 k326_147_g120_431n1 k326_9001_0 k326_9002_0 k326_9004_0 k326_9005_0 k326_9010_0 t326_0 t326_1 t326_2 t326_3 t326_4
                        clear k295_120_3 k295_120_36 k295_120_4 k295_120_43 k295_120_44 k295_120_46 k295_120_5 k295_120_50 k295_120_6 k295_120_7 k295_120_8 k295_136_1 k295_145_g120_431n1 k295_147_g120_431n1 k295_9001_0 k295_9002_0 k295_9004_0 k295_9005_0 k295_9010_0
                        replace t326_0 := hd_i t326_0
                        replace t326_2 := hd_i t326_2
                        replace t326_4 := hd_i t326_4
                        refine Tr.aload_n (pc := 326) (i := 0) d_X12_operand_326 rfl rfl ?_
                        refine Tr.iconst (pc := 327) d_X12_operand_327 (by decide) ?_
                        refine Tr.aload_n (pc := 328) (i := 0) d_X12_operand_328 rfl rfl ?_
                        refine Tr.getf (pc := 329) d_X12_operand_329 f_12_23 (by decide) (by decide) (ty_120 hS.1.1) ?_
                        refine Tr.tp g120_4 k326_120_4 ?_
                        refine Tr.callV (pc := 332) (as := [_, _]) d_X12_operand_332 s_12_389 ok_X12_blame rfl rfl (Nat.le_of_ble_eq_true rfl) (Nat.le_of_ble_eq_true rfl) (by decide) (ty_120 hS.1.1) ?_
                        have kb332_120_8 : rd M 120 8 = g120_8 := k326_120_8
                        refine Tr.imp (Tr.deep (by decide) (sp_X12_blame_120 hS.1 1 (by omega) g120_4 (by and_intros <;> omega))) ?_
                        rintro M332 _ ⟨h332, rfl, z332_0⟩
                        have hS := St.tr hS h332 (by decide) (by decide)
                        obtain ⟨s332_120_8, es332_120_8⟩ : ∃ v, rd M332 120 8 = v := ⟨_, rfl⟩
                        have bs332_120_8 : 0 ≤ s332_120_8 ∧ s332_120_8 ≤ 5 := by rw [← es332_120_8]; exact ir_120_8 hS.1.2.1
                        replace z332_0 := hd_i z332_0
                        refine Tr.sc [] rfl ?_
                        refine Tr.pick [0, 1] (ls2 := [(0, (2, 120)), (3, (0, q295_0))]) rfl ?_
                        exact J335 _ _ hS (by and_intros <;> omega) ((St.kp h332 (by decide) (by decide) (by decide)).trans k326_120_3) ((St.kp h332 (by decide) (by decide) (by decide)).trans k326_120_36) ((St.kp h332 (by decide) (by decide) (by decide)).trans k326_120_4) ((St.kp h332 (by decide) (by decide) (by decide)).trans k326_120_43) ((St.kp h332 (by decide) (by decide) (by decide)).trans k326_120_44) ((St.kp h332 (by decide) (by decide) (by decide)).trans k326_120_46) ((St.kp h332 (by decide) (by decide) (by decide)).trans k326_120_5) ((St.kp h332 (by decide) (by decide) (by decide)).trans k326_120_50) ((St.kp h332 (by decide) (by decide) (by decide)).trans k326_120_6) ((St.kp h332 (by decide) (by decide) (by decide)).trans k326_120_7) es332_120_8 ((St.kp h332 (by decide) (by decide) (by decide)).trans k326_136_1) ((St.ka h332 (by decide) (by decide) (by decide)).trans k326_145_g120_431n1) ((St.ka h332 (by decide) (by decide) (by decide)).trans k326_147_g120_431n1) ((nb2v_of (fun j => ((St.ka h332 (by decide) (by decide) (by decide)).trans rfl)) ((St.kp h332 (by decide) (by decide) (by decide)).trans rfl)).trans k326_9001_0) ((n4v_of (fun j => ((St.ka h332 (by decide) (by decide) (by decide)).trans rfl)) ((St.kp h332 (by decide) (by decide) (by decide)).trans rfl)).trans k326_9002_0) ((Dv1_of (fun j => ((St.ka h332 (by decide) (by decide) (by decide)).trans rfl)) (fun j => ((St.ka h332 (by decide) (by decide) (by decide)).trans rfl)) ((St.kp h332 (by decide) (by decide) (by decide)).trans rfl) ((St.kp h332 (by decide) (by decide) (by decide)).trans rfl)).trans k326_9004_0) ((fr0_of (fun j => ((St.ka h332 (by decide) (by decide) (by decide)).trans rfl))).trans k326_9005_0) ((tav_of ((St.kp h332 (by decide) (by decide) (by decide)).trans rfl) ((St.kp h332 (by decide) (by decide) (by decide)).trans rfl)).trans k326_9010_0) (by exact (hd_o z332_0).elim (fun h1 => by omega) (fun h1 => by omega))
                      refine Tr.icmp_ne (pc := 312) (tgt := 326) d_X12_operand_312 rfl (fun c312 => ?_) (fun c312 => ?_)
                      · replace c312 := hd_i c312
                        refine Tr.pick [2, 1] (ls2 := [(0, (2, 120)), (3, (0, q295_0))]) rfl ?_
                        exact J326 _ hS k295_120_3 k295_120_36 k295_120_4 k295_120_43 k295_120_44 k295_120_46 k295_120_5 k295_120_50 k295_120_6 k295_120_7 k295_120_8 k295_136_1 k295_145_g120_431n1 k295_147_g120_431n1 k295_9001_0 k295_9002_0 k295_9004_0 k295_9005_0 k295_9010_0 (by first | exact (hd_o t166_0) | exact (hd_o t166_0).elim (fun h1 => by omega) (fun h1 => by omega)) (by omega) (by first | exact (hd_o t166_2) | exact (hd_o t166_2).elim (fun h1 => by omega) (fun h1 => h1.elim (fun h1 => by omega) (fun h1 => by omega))) (by and_intros <;> omega) (by first | exact (hd_o t166_4) | exact (hd_o t166_4).elim (fun h1 => by omega) (fun h1 => by omega))
                      · refine Tr.aload_n (pc := 315) (i := 0) d_X12_operand_315 rfl rfl ?_
                        refine Tr.aload_n (pc := 316) (i := 0) d_X12_operand_316 rfl rfl ?_
                        refine Tr.getf (pc := 317) d_X12_operand_317 f_12_32 (by decide) (by decide) (ty_120 hS.1.1) ?_
                        refine Tr.tp g120_7 k295_120_7 ?_
                        refine Tr.callV (pc := 320) (as := [_]) d_X12_operand_320 s_12_453 ok_X12_isOwn rfl rfl (Nat.le_of_ble_eq_true rfl) (Nat.le_of_ble_eq_true rfl) (by decide) (ty_120 hS.1.1) ?_
                        refine Tr.imp (Tr.deep (by decide) (sp_X12_isOwn_120 hS.1.wk g120_7 (by omega))) ?_
                        rintro M320 _ ⟨h320, r320, rfl, lr320, ur320⟩
                        have h320 := St.rn h320 (Pm1.of hS.1.2.2.2.2 (fun _ => St.ka h320 (by decide) (by decide) (by decide)) (fun _ => St.ka h320 (by decide) (by decide) (by decide)) (fun _ => St.ka h320 (by decide) (by decide) (by decide)) (fun _ => St.ka h320 (by decide) (by decide) (by decide)) (fun _ => St.ka h320 (by decide) (by decide) (by decide)) (fun _ => St.ka h320 (by decide) (by decide) (by decide)) (fun _ => St.ka h320 (by decide) (by decide) (by decide)) (fun _ => St.ka h320 (by decide) (by decide) (by decide)) (fun _ => St.ka h320 (by decide) (by decide) (by decide)) (fun _ => St.ka h320 (by decide) (by decide) (by decide)) (St.kp h320 (by decide) (by decide) (by decide)) (St.kp h320 (by decide) (by decide) (by decide)) (St.kp h320 (by decide) (by decide) (by decide)) (St.kp h320 (by decide) (by decide) (by decide)) (St.kp h320 (by decide) (by decide) (by decide)) (St.kp h320 (by decide) (by decide) (by decide)) (St.kp h320 (by decide) (by decide) (by decide)) (St.kp h320 (by decide) (by decide) (by decide)) (St.kp h320 (by decide) (by decide) (by decide)) (St.kp h320 (by decide) (by decide) (by decide)) (St.kp h320 (by decide) (by decide) (by decide)))
                        have hS := St.tr hS h320 (by decide) (by decide)
                        refine Tr.sc [(0, r320)] rfl ?_
                        refine Tr.if_eq (pc := 323) (tgt := 335) d_X12_operand_323 rfl (fun c323 => ?_) (fun c323 => ?_)
                        · refine Tr.pick [2, 1] (ls2 := [(0, (2, 120)), (3, (0, q295_0))]) rfl ?_
                          exact J335 _ _ hS (by and_intros <;> omega) ((St.kp h320 (by decide) (by decide) (by decide)).trans k295_120_3) ((St.kp h320 (by decide) (by decide) (by decide)).trans k295_120_36) ((St.kp h320 (by decide) (by decide) (by decide)).trans k295_120_4) ((St.kp h320 (by decide) (by decide) (by decide)).trans k295_120_43) ((St.kp h320 (by decide) (by decide) (by decide)).trans k295_120_44) ((St.kp h320 (by decide) (by decide) (by decide)).trans k295_120_46) ((St.kp h320 (by decide) (by decide) (by decide)).trans k295_120_5) ((St.kp h320 (by decide) (by decide) (by decide)).trans k295_120_50) ((St.kp h320 (by decide) (by decide) (by decide)).trans k295_120_6) ((St.kp h320 (by decide) (by decide) (by decide)).trans k295_120_7) ((St.kp h320 (by decide) (by decide) (by decide)).trans k295_120_8) ((St.kp h320 (by decide) (by decide) (by decide)).trans k295_136_1) ((St.ka h320 (by decide) (by decide) (by decide)).trans k295_145_g120_431n1) ((St.ka h320 (by decide) (by decide) (by decide)).trans k295_147_g120_431n1) ((nb2v_of (fun j => ((St.ka h320 (by decide) (by decide) (by decide)).trans rfl)) ((St.kp h320 (by decide) (by decide) (by decide)).trans rfl)).trans k295_9001_0) ((n4v_of (fun j => ((St.ka h320 (by decide) (by decide) (by decide)).trans rfl)) ((St.kp h320 (by decide) (by decide) (by decide)).trans rfl)).trans k295_9002_0) ((Dv1_of (fun j => ((St.ka h320 (by decide) (by decide) (by decide)).trans rfl)) (fun j => ((St.ka h320 (by decide) (by decide) (by decide)).trans rfl)) ((St.kp h320 (by decide) (by decide) (by decide)).trans rfl) ((St.kp h320 (by decide) (by decide) (by decide)).trans rfl)).trans k295_9004_0) ((fr0_of (fun j => ((St.ka h320 (by decide) (by decide) (by decide)).trans rfl))).trans k295_9005_0) ((tav_of ((St.kp h320 (by decide) (by decide) (by decide)).trans rfl) ((St.kp h320 (by decide) (by decide) (by decide)).trans rfl)).trans k295_9010_0) (by omega)
                        · have c323b : 1 ≤ r320 ∧ r320 ≤ 1 := by omega
                          replace c323 := hd_i c323
                          refine Tr.pick [2, 1] (ls2 := [(0, (2, 120)), (3, (0, q295_0))]) rfl ?_
                          exact J326 _ hS ((St.kp h320 (by decide) (by decide) (by decide)).trans k295_120_3) ((St.kp h320 (by decide) (by decide) (by decide)).trans k295_120_36) ((St.kp h320 (by decide) (by decide) (by decide)).trans k295_120_4) ((St.kp h320 (by decide) (by decide) (by decide)).trans k295_120_43) ((St.kp h320 (by decide) (by decide) (by decide)).trans k295_120_44) ((St.kp h320 (by decide) (by decide) (by decide)).trans k295_120_46) ((St.kp h320 (by decide) (by decide) (by decide)).trans k295_120_5) ((St.kp h320 (by decide) (by decide) (by decide)).trans k295_120_50) ((St.kp h320 (by decide) (by decide) (by decide)).trans k295_120_6) ((St.kp h320 (by decide) (by decide) (by decide)).trans k295_120_7) ((St.kp h320 (by decide) (by decide) (by decide)).trans k295_120_8) ((St.kp h320 (by decide) (by decide) (by decide)).trans k295_136_1) ((St.ka h320 (by decide) (by decide) (by decide)).trans k295_145_g120_431n1) ((St.ka h320 (by decide) (by decide) (by decide)).trans k295_147_g120_431n1) ((nb2v_of (fun j => ((St.ka h320 (by decide) (by decide) (by decide)).trans rfl)) ((St.kp h320 (by decide) (by decide) (by decide)).trans rfl)).trans k295_9001_0) ((n4v_of (fun j => ((St.ka h320 (by decide) (by decide) (by decide)).trans rfl)) ((St.kp h320 (by decide) (by decide) (by decide)).trans rfl)).trans k295_9002_0) ((Dv1_of (fun j => ((St.ka h320 (by decide) (by decide) (by decide)).trans rfl)) (fun j => ((St.ka h320 (by decide) (by decide) (by decide)).trans rfl)) ((St.kp h320 (by decide) (by decide) (by decide)).trans rfl) ((St.kp h320 (by decide) (by decide) (by decide)).trans rfl)).trans k295_9004_0) ((fr0_of (fun j => ((St.ka h320 (by decide) (by decide) (by decide)).trans rfl))).trans k295_9005_0) ((tav_of ((St.kp h320 (by decide) (by decide) (by decide)).trans rfl) ((St.kp h320 (by decide) (by decide) (by decide)).trans rfl)).trans k295_9010_0) (by first | exact (hd_o t166_0) | exact (hd_o t166_0).elim (fun h1 => by omega) (fun h1 => by omega)) (by omega) (by first | exact (hd_o t166_2) | exact (hd_o t166_2).elim (fun h1 => by omega) (fun h1 => h1.elim (fun h1 => by omega) (fun h1 => by omega))) (by and_intros <;> omega) (by first | exact (hd_o t166_4) | exact (hd_o t166_4).elim (fun h1 => by omega) (fun h1 => by omega))
                  refine Tr.icmp_ne (pc := 273) (tgt := 280) d_X12_operand_273 rfl (fun c273 => ?_) (fun c273 => ?_)
                  · replace c273 := hd_i c273
                    refine Tr.aload_n (pc := 280) (i := 0) d_X12_operand_280 rfl rfl ?_
                    refine Tr.ldc2 (pc := 281) d_X12_operand_281 kl_12_447 (by decide) ?_
                    refine Tr.callV (pc := 284) (as := [_]) d_X12_operand_284 s_12_484 ok_X12_isWord rfl rfl (Nat.le_of_ble_eq_true rfl) (Nat.le_of_ble_eq_true rfl) (by decide) (ty_120 hS.1.1) ?_
                    refine Tr.imp (Tr.deep (by decide) (sp_X12_isWord_120 hS.1.wk 1953063787 (by omega))) ?_
                    rintro M284 _ ⟨h284, r284, rfl, lr284, ur284, z284_0⟩
                    have h284 := St.rn h284 (Pm1.of hS.1.2.2.2.2 (fun _ => St.ka h284 (by decide) (by decide) (by decide)) (fun _ => St.ka h284 (by decide) (by decide) (by decide)) (fun _ => St.ka h284 (by decide) (by decide) (by decide)) (fun _ => St.ka h284 (by decide) (by decide) (by decide)) (fun _ => St.ka h284 (by decide) (by decide) (by decide)) (fun _ => St.ka h284 (by decide) (by decide) (by decide)) (fun _ => St.ka h284 (by decide) (by decide) (by decide)) (fun _ => St.ka h284 (by decide) (by decide) (by decide)) (fun _ => St.ka h284 (by decide) (by decide) (by decide)) (fun _ => St.ka h284 (by decide) (by decide) (by decide)) (St.kp h284 (by decide) (by decide) (by decide)) (St.kp h284 (by decide) (by decide) (by decide)) (St.kp h284 (by decide) (by decide) (by decide)) (St.kp h284 (by decide) (by decide) (by decide)) (St.kp h284 (by decide) (by decide) (by decide)) (St.kp h284 (by decide) (by decide) (by decide)) (St.kp h284 (by decide) (by decide) (by decide)) (St.kp h284 (by decide) (by decide) (by decide)) (St.kp h284 (by decide) (by decide) (by decide)) (St.kp h284 (by decide) (by decide) (by decide)) (St.kp h284 (by decide) (by decide) (by decide)))
                    have hS := St.tr hS h284 (by decide) (by decide)
                    have ka284_120_3 : rd M284 120 3 = g120_3 := ((St.kp h284 (by decide) (by decide) (by decide)).trans ((St.kp h196 (by decide) (by decide) (by decide)).trans ((St.kp h186 (by decide) (by decide) (by decide)).trans ((St.kp h169 (by decide) (by decide) (by decide)).trans k166_120_3))))
                    have ka284_120_7 : rd M284 120 7 = g120_7 := ((St.kp h284 (by decide) (by decide) (by decide)).trans ((St.kp h196 (by decide) (by decide) (by decide)).trans ((St.kp h186 (by decide) (by decide) (by decide)).trans ((St.kp h169 (by decide) (by decide) (by decide)).trans k166_120_7))))
                    replace z284_0 := hd_i z284_0
                    refine Tr.sc [(0, r284)] rfl ?_
                    refine Tr.if_eq (pc := 287) (tgt := 294) d_X12_operand_287 rfl (fun c287 => ?_) (fun c287 => ?_)
                    · refine Tr.iconst (pc := 294) d_X12_operand_294 (by decide) ?_
                      refine Tr.pick [0] (ls2 := [(0, (2, 120))]) rfl ?_
                      exact J295 _ _ hS (by omega) ((St.kp h284 (by decide) (by decide) (by decide)).trans ((St.kp h196 (by decide) (by decide) (by decide)).trans ((St.kp h186 (by decide) (by decide) (by decide)).trans ((St.kp h169 (by decide) (by decide) (by decide)).trans k166_120_3)))) ((St.kp h284 (by decide) (by decide) (by decide)).trans ((St.kp h196 (by decide) (by decide) (by decide)).trans ((St.kp h186 (by decide) (by decide) (by decide)).trans ((St.kp h169 (by decide) (by decide) (by decide)).trans k166_120_36)))) ((St.kp h284 (by decide) (by decide) (by decide)).trans ((St.kp h196 (by decide) (by decide) (by decide)).trans ((St.kp h186 (by decide) (by decide) (by decide)).trans ((St.kp h169 (by decide) (by decide) (by decide)).trans k166_120_4)))) ((St.kp h284 (by decide) (by decide) (by decide)).trans ((St.kp h196 (by decide) (by decide) (by decide)).trans ((St.kp h186 (by decide) (by decide) (by decide)).trans ((St.kp h169 (by decide) (by decide) (by decide)).trans k166_120_43)))) ((St.kp h284 (by decide) (by decide) (by decide)).trans ((St.kp h196 (by decide) (by decide) (by decide)).trans ((St.kp h186 (by decide) (by decide) (by decide)).trans ((St.kp h169 (by decide) (by decide) (by decide)).trans k166_120_44)))) ((St.kp h284 (by decide) (by decide) (by decide)).trans ((St.kp h196 (by decide) (by decide) (by decide)).trans ((St.kp h186 (by decide) (by decide) (by decide)).trans ((St.kp h169 (by decide) (by decide) (by decide)).trans k166_120_46)))) ((St.kp h284 (by decide) (by decide) (by decide)).trans ((St.kp h196 (by decide) (by decide) (by decide)).trans ((St.kp h186 (by decide) (by decide) (by decide)).trans ((St.kp h169 (by decide) (by decide) (by decide)).trans k166_120_5)))) ((St.kp h284 (by decide) (by decide) (by decide)).trans ((St.kp h196 (by decide) (by decide) (by decide)).trans ((St.kp h186 (by decide) (by decide) (by decide)).trans ((St.kp h169 (by decide) (by decide) (by decide)).trans k166_120_50)))) ((St.kp h284 (by decide) (by decide) (by decide)).trans ((St.kp h196 (by decide) (by decide) (by decide)).trans ((St.kp h186 (by decide) (by decide) (by decide)).trans ((St.kp h169 (by decide) (by decide) (by decide)).trans k166_120_6)))) ((St.kp h284 (by decide) (by decide) (by decide)).trans ((St.kp h196 (by decide) (by decide) (by decide)).trans ((St.kp h186 (by decide) (by decide) (by decide)).trans ((St.kp h169 (by decide) (by decide) (by decide)).trans k166_120_7)))) ((St.kp h284 (by decide) (by decide) (by decide)).trans ((St.kp h196 (by decide) (by decide) (by decide)).trans ((St.kp h186 (by decide) (by decide) (by decide)).trans ((St.kp h169 (by decide) (by decide) (by decide)).trans k166_120_8)))) ((St.kp h284 (by decide) (by decide) (by decide)).trans ((St.kp h196 (by decide) (by decide) (by decide)).trans ((St.kp h186 (by decide) (by decide) (by decide)).trans ((St.kp h169 (by decide) (by decide) (by decide)).trans k166_136_1)))) ((St.ka h284 (by decide) (by decide) (by decide)).trans ((St.ka h196 (by decide) (by decide) (by decide)).trans ((St.ka h186 (by decide) (by decide) (by decide)).trans ((St.ka h169 (by decide) (by decide) (by decide)).trans k166_145_g120_431n1)))) ((St.ka h284 (by decide) (by decide) (by decide)).trans ((St.ka h196 (by decide) (by decide) (by decide)).trans ((St.ka h186 (by decide) (by decide) (by decide)).trans ((St.ka h169 (by decide) (by decide) (by decide)).trans k166_147_g120_431n1)))) ((nb2v_of (fun j => ((St.ka h284 (by decide) (by decide) (by decide)).trans ((St.ka h196 (by decide) (by decide) (by decide)).trans ((St.ka h186 (by decide) (by decide) (by decide)).trans ((St.ka h169 (by decide) (by decide) (by decide)).trans rfl))))) ((St.kp h284 (by decide) (by decide) (by decide)).trans ((St.kp h196 (by decide) (by decide) (by decide)).trans ((St.kp h186 (by decide) (by decide) (by decide)).trans ((St.kp h169 (by decide) (by decide) (by decide)).trans rfl))))).trans k166_9001_0) ((n4v_of (fun j => ((St.ka h284 (by decide) (by decide) (by decide)).trans ((St.ka h196 (by decide) (by decide) (by decide)).trans ((St.ka h186 (by decide) (by decide) (by decide)).trans ((St.ka h169 (by decide) (by decide) (by decide)).trans rfl))))) ((St.kp h284 (by decide) (by decide) (by decide)).trans ((St.kp h196 (by decide) (by decide) (by decide)).trans ((St.kp h186 (by decide) (by decide) (by decide)).trans ((St.kp h169 (by decide) (by decide) (by decide)).trans rfl))))).trans k166_9002_0) ((Dv1_of (fun j => ((St.ka h284 (by decide) (by decide) (by decide)).trans ((St.ka h196 (by decide) (by decide) (by decide)).trans ((St.ka h186 (by decide) (by decide) (by decide)).trans ((St.ka h169 (by decide) (by decide) (by decide)).trans rfl))))) (fun j => ((St.ka h284 (by decide) (by decide) (by decide)).trans ((St.ka h196 (by decide) (by decide) (by decide)).trans ((St.ka h186 (by decide) (by decide) (by decide)).trans ((St.ka h169 (by decide) (by decide) (by decide)).trans rfl))))) ((St.kp h284 (by decide) (by decide) (by decide)).trans ((St.kp h196 (by decide) (by decide) (by decide)).trans ((St.kp h186 (by decide) (by decide) (by decide)).trans ((St.kp h169 (by decide) (by decide) (by decide)).trans rfl)))) ((St.kp h284 (by decide) (by decide) (by decide)).trans ((St.kp h196 (by decide) (by decide) (by decide)).trans ((St.kp h186 (by decide) (by decide) (by decide)).trans ((St.kp h169 (by decide) (by decide) (by decide)).trans rfl))))).trans k166_9004_0) ((fr0_of (fun j => ((St.ka h284 (by decide) (by decide) (by decide)).trans ((St.ka h196 (by decide) (by decide) (by decide)).trans ((St.ka h186 (by decide) (by decide) (by decide)).trans ((St.ka h169 (by decide) (by decide) (by decide)).trans rfl)))))).trans k166_9005_0) ((tav_of ((St.kp h284 (by decide) (by decide) (by decide)).trans ((St.kp h196 (by decide) (by decide) (by decide)).trans ((St.kp h186 (by decide) (by decide) (by decide)).trans ((St.kp h169 (by decide) (by decide) (by decide)).trans rfl)))) ((St.kp h284 (by decide) (by decide) (by decide)).trans ((St.kp h196 (by decide) (by decide) (by decide)).trans ((St.kp h186 (by decide) (by decide) (by decide)).trans ((St.kp h169 (by decide) (by decide) (by decide)).trans rfl))))).trans k166_9010_0) (by omega) (by omega)
                    · have c287b : 1 ≤ r284 ∧ r284 ≤ 1 := by omega
                      replace c287 := hd_i c287
                      refine Tr.iconst (pc := 290) d_X12_operand_290 (by decide) ?_
                      refine Tr.goto (pc := 291) (tgt := 295) d_X12_operand_291 rfl ?_
                      refine Tr.pick [0] (ls2 := [(0, (2, 120))]) rfl ?_
                      exact J295 _ _ hS (by omega) ((St.kp h284 (by decide) (by decide) (by decide)).trans ((St.kp h196 (by decide) (by decide) (by decide)).trans ((St.kp h186 (by decide) (by decide) (by decide)).trans ((St.kp h169 (by decide) (by decide) (by decide)).trans k166_120_3)))) ((St.kp h284 (by decide) (by decide) (by decide)).trans ((St.kp h196 (by decide) (by decide) (by decide)).trans ((St.kp h186 (by decide) (by decide) (by decide)).trans ((St.kp h169 (by decide) (by decide) (by decide)).trans k166_120_36)))) ((St.kp h284 (by decide) (by decide) (by decide)).trans ((St.kp h196 (by decide) (by decide) (by decide)).trans ((St.kp h186 (by decide) (by decide) (by decide)).trans ((St.kp h169 (by decide) (by decide) (by decide)).trans k166_120_4)))) ((St.kp h284 (by decide) (by decide) (by decide)).trans ((St.kp h196 (by decide) (by decide) (by decide)).trans ((St.kp h186 (by decide) (by decide) (by decide)).trans ((St.kp h169 (by decide) (by decide) (by decide)).trans k166_120_43)))) ((St.kp h284 (by decide) (by decide) (by decide)).trans ((St.kp h196 (by decide) (by decide) (by decide)).trans ((St.kp h186 (by decide) (by decide) (by decide)).trans ((St.kp h169 (by decide) (by decide) (by decide)).trans k166_120_44)))) ((St.kp h284 (by decide) (by decide) (by decide)).trans ((St.kp h196 (by decide) (by decide) (by decide)).trans ((St.kp h186 (by decide) (by decide) (by decide)).trans ((St.kp h169 (by decide) (by decide) (by decide)).trans k166_120_46)))) ((St.kp h284 (by decide) (by decide) (by decide)).trans ((St.kp h196 (by decide) (by decide) (by decide)).trans ((St.kp h186 (by decide) (by decide) (by decide)).trans ((St.kp h169 (by decide) (by decide) (by decide)).trans k166_120_5)))) ((St.kp h284 (by decide) (by decide) (by decide)).trans ((St.kp h196 (by decide) (by decide) (by decide)).trans ((St.kp h186 (by decide) (by decide) (by decide)).trans ((St.kp h169 (by decide) (by decide) (by decide)).trans k166_120_50)))) ((St.kp h284 (by decide) (by decide) (by decide)).trans ((St.kp h196 (by decide) (by decide) (by decide)).trans ((St.kp h186 (by decide) (by decide) (by decide)).trans ((St.kp h169 (by decide) (by decide) (by decide)).trans k166_120_6)))) ((St.kp h284 (by decide) (by decide) (by decide)).trans ((St.kp h196 (by decide) (by decide) (by decide)).trans ((St.kp h186 (by decide) (by decide) (by decide)).trans ((St.kp h169 (by decide) (by decide) (by decide)).trans k166_120_7)))) ((St.kp h284 (by decide) (by decide) (by decide)).trans ((St.kp h196 (by decide) (by decide) (by decide)).trans ((St.kp h186 (by decide) (by decide) (by decide)).trans ((St.kp h169 (by decide) (by decide) (by decide)).trans k166_120_8)))) ((St.kp h284 (by decide) (by decide) (by decide)).trans ((St.kp h196 (by decide) (by decide) (by decide)).trans ((St.kp h186 (by decide) (by decide) (by decide)).trans ((St.kp h169 (by decide) (by decide) (by decide)).trans k166_136_1)))) ((St.ka h284 (by decide) (by decide) (by decide)).trans ((St.ka h196 (by decide) (by decide) (by decide)).trans ((St.ka h186 (by decide) (by decide) (by decide)).trans ((St.ka h169 (by decide) (by decide) (by decide)).trans k166_145_g120_431n1)))) ((St.ka h284 (by decide) (by decide) (by decide)).trans ((St.ka h196 (by decide) (by decide) (by decide)).trans ((St.ka h186 (by decide) (by decide) (by decide)).trans ((St.ka h169 (by decide) (by decide) (by decide)).trans k166_147_g120_431n1)))) ((nb2v_of (fun j => ((St.ka h284 (by decide) (by decide) (by decide)).trans ((St.ka h196 (by decide) (by decide) (by decide)).trans ((St.ka h186 (by decide) (by decide) (by decide)).trans ((St.ka h169 (by decide) (by decide) (by decide)).trans rfl))))) ((St.kp h284 (by decide) (by decide) (by decide)).trans ((St.kp h196 (by decide) (by decide) (by decide)).trans ((St.kp h186 (by decide) (by decide) (by decide)).trans ((St.kp h169 (by decide) (by decide) (by decide)).trans rfl))))).trans k166_9001_0) ((n4v_of (fun j => ((St.ka h284 (by decide) (by decide) (by decide)).trans ((St.ka h196 (by decide) (by decide) (by decide)).trans ((St.ka h186 (by decide) (by decide) (by decide)).trans ((St.ka h169 (by decide) (by decide) (by decide)).trans rfl))))) ((St.kp h284 (by decide) (by decide) (by decide)).trans ((St.kp h196 (by decide) (by decide) (by decide)).trans ((St.kp h186 (by decide) (by decide) (by decide)).trans ((St.kp h169 (by decide) (by decide) (by decide)).trans rfl))))).trans k166_9002_0) ((Dv1_of (fun j => ((St.ka h284 (by decide) (by decide) (by decide)).trans ((St.ka h196 (by decide) (by decide) (by decide)).trans ((St.ka h186 (by decide) (by decide) (by decide)).trans ((St.ka h169 (by decide) (by decide) (by decide)).trans rfl))))) (fun j => ((St.ka h284 (by decide) (by decide) (by decide)).trans ((St.ka h196 (by decide) (by decide) (by decide)).trans ((St.ka h186 (by decide) (by decide) (by decide)).trans ((St.ka h169 (by decide) (by decide) (by decide)).trans rfl))))) ((St.kp h284 (by decide) (by decide) (by decide)).trans ((St.kp h196 (by decide) (by decide) (by decide)).trans ((St.kp h186 (by decide) (by decide) (by decide)).trans ((St.kp h169 (by decide) (by decide) (by decide)).trans rfl)))) ((St.kp h284 (by decide) (by decide) (by decide)).trans ((St.kp h196 (by decide) (by decide) (by decide)).trans ((St.kp h186 (by decide) (by decide) (by decide)).trans ((St.kp h169 (by decide) (by decide) (by decide)).trans rfl))))).trans k166_9004_0) ((fr0_of (fun j => ((St.ka h284 (by decide) (by decide) (by decide)).trans ((St.ka h196 (by decide) (by decide) (by decide)).trans ((St.ka h186 (by decide) (by decide) (by decide)).trans ((St.ka h169 (by decide) (by decide) (by decide)).trans rfl)))))).trans k166_9005_0) ((tav_of ((St.kp h284 (by decide) (by decide) (by decide)).trans ((St.kp h196 (by decide) (by decide) (by decide)).trans ((St.kp h186 (by decide) (by decide) (by decide)).trans ((St.kp h169 (by decide) (by decide) (by decide)).trans rfl)))) ((St.kp h284 (by decide) (by decide) (by decide)).trans ((St.kp h196 (by decide) (by decide) (by decide)).trans ((St.kp h186 (by decide) (by decide) (by decide)).trans ((St.kp h169 (by decide) (by decide) (by decide)).trans rfl))))).trans k166_9010_0) (by exact (hd_o z284_0).elim (fun h1 => by omega) (fun h1 => by omega)) (by omega)
                  · refine Tr.iconst (pc := 276) d_X12_operand_276 (by decide) ?_
                    refine Tr.goto (pc := 277) (tgt := 295) d_X12_operand_277 rfl ?_
                    refine Tr.pick [0] (ls2 := [(0, (2, 120))]) rfl ?_
                    exact J295 _ _ hS (by omega) ((St.kp h196 (by decide) (by decide) (by decide)).trans ((St.kp h186 (by decide) (by decide) (by decide)).trans ((St.kp h169 (by decide) (by decide) (by decide)).trans k166_120_3))) ((St.kp h196 (by decide) (by decide) (by decide)).trans ((St.kp h186 (by decide) (by decide) (by decide)).trans ((St.kp h169 (by decide) (by decide) (by decide)).trans k166_120_36))) ((St.kp h196 (by decide) (by decide) (by decide)).trans ((St.kp h186 (by decide) (by decide) (by decide)).trans ((St.kp h169 (by decide) (by decide) (by decide)).trans k166_120_4))) ((St.kp h196 (by decide) (by decide) (by decide)).trans ((St.kp h186 (by decide) (by decide) (by decide)).trans ((St.kp h169 (by decide) (by decide) (by decide)).trans k166_120_43))) ((St.kp h196 (by decide) (by decide) (by decide)).trans ((St.kp h186 (by decide) (by decide) (by decide)).trans ((St.kp h169 (by decide) (by decide) (by decide)).trans k166_120_44))) ((St.kp h196 (by decide) (by decide) (by decide)).trans ((St.kp h186 (by decide) (by decide) (by decide)).trans ((St.kp h169 (by decide) (by decide) (by decide)).trans k166_120_46))) ((St.kp h196 (by decide) (by decide) (by decide)).trans ((St.kp h186 (by decide) (by decide) (by decide)).trans ((St.kp h169 (by decide) (by decide) (by decide)).trans k166_120_5))) ((St.kp h196 (by decide) (by decide) (by decide)).trans ((St.kp h186 (by decide) (by decide) (by decide)).trans ((St.kp h169 (by decide) (by decide) (by decide)).trans k166_120_50))) ((St.kp h196 (by decide) (by decide) (by decide)).trans ((St.kp h186 (by decide) (by decide) (by decide)).trans ((St.kp h169 (by decide) (by decide) (by decide)).trans k166_120_6))) ((St.kp h196 (by decide) (by decide) (by decide)).trans ((St.kp h186 (by decide) (by decide) (by decide)).trans ((St.kp h169 (by decide) (by decide) (by decide)).trans k166_120_7))) ((St.kp h196 (by decide) (by decide) (by decide)).trans ((St.kp h186 (by decide) (by decide) (by decide)).trans ((St.kp h169 (by decide) (by decide) (by decide)).trans k166_120_8))) ((St.kp h196 (by decide) (by decide) (by decide)).trans ((St.kp h186 (by decide) (by decide) (by decide)).trans ((St.kp h169 (by decide) (by decide) (by decide)).trans k166_136_1))) ((St.ka h196 (by decide) (by decide) (by decide)).trans ((St.ka h186 (by decide) (by decide) (by decide)).trans ((St.ka h169 (by decide) (by decide) (by decide)).trans k166_145_g120_431n1))) ((St.ka h196 (by decide) (by decide) (by decide)).trans ((St.ka h186 (by decide) (by decide) (by decide)).trans ((St.ka h169 (by decide) (by decide) (by decide)).trans k166_147_g120_431n1))) ((nb2v_of (fun j => ((St.ka h196 (by decide) (by decide) (by decide)).trans ((St.ka h186 (by decide) (by decide) (by decide)).trans ((St.ka h169 (by decide) (by decide) (by decide)).trans rfl)))) ((St.kp h196 (by decide) (by decide) (by decide)).trans ((St.kp h186 (by decide) (by decide) (by decide)).trans ((St.kp h169 (by decide) (by decide) (by decide)).trans rfl)))).trans k166_9001_0) ((n4v_of (fun j => ((St.ka h196 (by decide) (by decide) (by decide)).trans ((St.ka h186 (by decide) (by decide) (by decide)).trans ((St.ka h169 (by decide) (by decide) (by decide)).trans rfl)))) ((St.kp h196 (by decide) (by decide) (by decide)).trans ((St.kp h186 (by decide) (by decide) (by decide)).trans ((St.kp h169 (by decide) (by decide) (by decide)).trans rfl)))).trans k166_9002_0) ((Dv1_of (fun j => ((St.ka h196 (by decide) (by decide) (by decide)).trans ((St.ka h186 (by decide) (by decide) (by decide)).trans ((St.ka h169 (by decide) (by decide) (by decide)).trans rfl)))) (fun j => ((St.ka h196 (by decide) (by decide) (by decide)).trans ((St.ka h186 (by decide) (by decide) (by decide)).trans ((St.ka h169 (by decide) (by decide) (by decide)).trans rfl)))) ((St.kp h196 (by decide) (by decide) (by decide)).trans ((St.kp h186 (by decide) (by decide) (by decide)).trans ((St.kp h169 (by decide) (by decide) (by decide)).trans rfl))) ((St.kp h196 (by decide) (by decide) (by decide)).trans ((St.kp h186 (by decide) (by decide) (by decide)).trans ((St.kp h169 (by decide) (by decide) (by decide)).trans rfl)))).trans k166_9004_0) ((fr0_of (fun j => ((St.ka h196 (by decide) (by decide) (by decide)).trans ((St.ka h186 (by decide) (by decide) (by decide)).trans ((St.ka h169 (by decide) (by decide) (by decide)).trans rfl))))).trans k166_9005_0) ((tav_of ((St.kp h196 (by decide) (by decide) (by decide)).trans ((St.kp h186 (by decide) (by decide) (by decide)).trans ((St.kp h169 (by decide) (by decide) (by decide)).trans rfl))) ((St.kp h196 (by decide) (by decide) (by decide)).trans ((St.kp h186 (by decide) (by decide) (by decide)).trans ((St.kp h169 (by decide) (by decide) (by decide)).trans rfl)))).trans k166_9010_0) (by omega) (by omega)
                · have c199b : 1 ≤ r196 ∧ r196 ≤ 1 := by omega
                  replace c199 := hd_i c199
                  refine Tr.pick [0] (ls2 := [(0, (2, 120))]) rfl ?_
                  exact J202 _ hS ((St.kp h196 (by decide) (by decide) (by decide)).trans ((St.kp h186 (by decide) (by decide) (by decide)).trans ((St.kp h169 (by decide) (by decide) (by decide)).trans k166_120_3))) ((St.kp h196 (by decide) (by decide) (by decide)).trans ((St.kp h186 (by decide) (by decide) (by decide)).trans ((St.kp h169 (by decide) (by decide) (by decide)).trans k166_120_36))) ((St.kp h196 (by decide) (by decide) (by decide)).trans ((St.kp h186 (by decide) (by decide) (by decide)).trans ((St.kp h169 (by decide) (by decide) (by decide)).trans k166_120_4))) ((St.kp h196 (by decide) (by decide) (by decide)).trans ((St.kp h186 (by decide) (by decide) (by decide)).trans ((St.kp h169 (by decide) (by decide) (by decide)).trans k166_120_43))) ((St.kp h196 (by decide) (by decide) (by decide)).trans ((St.kp h186 (by decide) (by decide) (by decide)).trans ((St.kp h169 (by decide) (by decide) (by decide)).trans k166_120_44))) ((St.kp h196 (by decide) (by decide) (by decide)).trans ((St.kp h186 (by decide) (by decide) (by decide)).trans ((St.kp h169 (by decide) (by decide) (by decide)).trans k166_120_46))) ((St.kp h196 (by decide) (by decide) (by decide)).trans ((St.kp h186 (by decide) (by decide) (by decide)).trans ((St.kp h169 (by decide) (by decide) (by decide)).trans k166_120_5))) ((St.kp h196 (by decide) (by decide) (by decide)).trans ((St.kp h186 (by decide) (by decide) (by decide)).trans ((St.kp h169 (by decide) (by decide) (by decide)).trans k166_120_50))) ((St.kp h196 (by decide) (by decide) (by decide)).trans ((St.kp h186 (by decide) (by decide) (by decide)).trans ((St.kp h169 (by decide) (by decide) (by decide)).trans k166_120_6))) ((St.kp h196 (by decide) (by decide) (by decide)).trans ((St.kp h186 (by decide) (by decide) (by decide)).trans ((St.kp h169 (by decide) (by decide) (by decide)).trans k166_120_7))) ((St.kp h196 (by decide) (by decide) (by decide)).trans ((St.kp h186 (by decide) (by decide) (by decide)).trans ((St.kp h169 (by decide) (by decide) (by decide)).trans k166_120_8))) ((St.kp h196 (by decide) (by decide) (by decide)).trans ((St.kp h186 (by decide) (by decide) (by decide)).trans ((St.kp h169 (by decide) (by decide) (by decide)).trans k166_136_1))) ((St.ka h196 (by decide) (by decide) (by decide)).trans ((St.ka h186 (by decide) (by decide) (by decide)).trans ((St.ka h169 (by decide) (by decide) (by decide)).trans k166_145_g120_431n1))) ((St.ka h196 (by decide) (by decide) (by decide)).trans ((St.ka h186 (by decide) (by decide) (by decide)).trans ((St.ka h169 (by decide) (by decide) (by decide)).trans k166_147_g120_431n1))) ((nb2v_of (fun j => ((St.ka h196 (by decide) (by decide) (by decide)).trans ((St.ka h186 (by decide) (by decide) (by decide)).trans ((St.ka h169 (by decide) (by decide) (by decide)).trans rfl)))) ((St.kp h196 (by decide) (by decide) (by decide)).trans ((St.kp h186 (by decide) (by decide) (by decide)).trans ((St.kp h169 (by decide) (by decide) (by decide)).trans rfl)))).trans k166_9001_0) ((n4v_of (fun j => ((St.ka h196 (by decide) (by decide) (by decide)).trans ((St.ka h186 (by decide) (by decide) (by decide)).trans ((St.ka h169 (by decide) (by decide) (by decide)).trans rfl)))) ((St.kp h196 (by decide) (by decide) (by decide)).trans ((St.kp h186 (by decide) (by decide) (by decide)).trans ((St.kp h169 (by decide) (by decide) (by decide)).trans rfl)))).trans k166_9002_0) ((Dv1_of (fun j => ((St.ka h196 (by decide) (by decide) (by decide)).trans ((St.ka h186 (by decide) (by decide) (by decide)).trans ((St.ka h169 (by decide) (by decide) (by decide)).trans rfl)))) (fun j => ((St.ka h196 (by decide) (by decide) (by decide)).trans ((St.ka h186 (by decide) (by decide) (by decide)).trans ((St.ka h169 (by decide) (by decide) (by decide)).trans rfl)))) ((St.kp h196 (by decide) (by decide) (by decide)).trans ((St.kp h186 (by decide) (by decide) (by decide)).trans ((St.kp h169 (by decide) (by decide) (by decide)).trans rfl))) ((St.kp h196 (by decide) (by decide) (by decide)).trans ((St.kp h186 (by decide) (by decide) (by decide)).trans ((St.kp h169 (by decide) (by decide) (by decide)).trans rfl)))).trans k166_9004_0) ((fr0_of (fun j => ((St.ka h196 (by decide) (by decide) (by decide)).trans ((St.ka h186 (by decide) (by decide) (by decide)).trans ((St.ka h169 (by decide) (by decide) (by decide)).trans rfl))))).trans k166_9005_0) ((tav_of ((St.kp h196 (by decide) (by decide) (by decide)).trans ((St.kp h186 (by decide) (by decide) (by decide)).trans ((St.kp h169 (by decide) (by decide) (by decide)).trans rfl))) ((St.kp h196 (by decide) (by decide) (by decide)).trans ((St.kp h186 (by decide) (by decide) (by decide)).trans ((St.kp h169 (by decide) (by decide) (by decide)).trans rfl)))).trans k166_9010_0) (by exact (hd_o z196_0).elim (fun h1 => by omega) (fun h1 => by omega))
            · have c172b : 1 ≤ r169 ∧ r169 ≤ 1 := by omega
              replace c172 := hd_i c172
              refine Tr.aload_n (pc := 175) (i := 0) d_X12_operand_175 rfl rfl ?_
              refine Tr.iconst (pc := 176) d_X12_operand_176 (by decide) ?_
              refine Tr.callV (pc := 177) (as := [_]) d_X12_operand_177 s_12_490 ok_X12_opens rfl rfl (Nat.le_of_ble_eq_true rfl) (Nat.le_of_ble_eq_true rfl) (by decide) (ty_120 hS.1.1) ?_
              have kb177_120_3 : rd M169 120 3 = g120_3 := ((St.kp h169 (by decide) (by decide) (by decide)).trans k166_120_3)
              have kb177_120_4 : rd M169 120 4 = g120_4 := ((St.kp h169 (by decide) (by decide) (by decide)).trans k166_120_4)
              have kb177_120_5 : rd M169 120 5 = g120_5 := ((St.kp h169 (by decide) (by decide) (by decide)).trans k166_120_5)
              have kb177_120_7 : rd M169 120 7 = g120_7 := ((St.kp h169 (by decide) (by decide) (by decide)).trans k166_120_7)
              have kb177_120_8 : rd M169 120 8 = g120_8 := ((St.kp h169 (by decide) (by decide) (by decide)).trans k166_120_8)
              have kb177_120_43 : rd M169 120 43 = g120_43 := ((St.kp h169 (by decide) (by decide) (by decide)).trans k166_120_43)
              have kb177_120_44 : rd M169 120 44 = g120_44 := ((St.kp h169 (by decide) (by decide) (by decide)).trans k166_120_44)
              have kb177_9002_0 : n4v M169 = g9002_0 := ((n4v_of (fun j => ((St.ka h169 (by decide) (by decide) (by decide)).trans rfl)) ((St.kp h169 (by decide) (by decide) (by decide)).trans rfl)).trans k166_9002_0)
              have kb177_9005_0 : fr0 M169 = g9005_0 := ((fr0_of (fun j => ((St.ka h169 (by decide) (by decide) (by decide)).trans rfl))).trans k166_9005_0)
              have kb177_9010_0 : tav M169 = g9010_0 := ((tav_of ((St.kp h169 (by decide) (by decide) (by decide)).trans rfl) ((St.kp h169 (by decide) (by decide) (by decide)).trans rfl)).trans k166_9010_0)
              refine Tr.imp (Tr.deep (by decide) (sp_X12_opens_120 hS.1 2 (by omega) (by first | exact (hd_o t166_0) | exact (hd_o t166_0).elim (fun h1 => by omega) (fun h1 => by omega)) (by omega) (by first | exact (hd_o t166_2) | exact (hd_o t166_2).elim (fun h1 => by omega) (fun h1 => h1.elim (fun h1 => by omega) (fun h1 => by omega))) (by and_intros <;> omega) (by exact (hd_o z169_0).elim (fun h1 => by omega) (fun h1 => by omega)) (by omega) (by omega))) ?_
              rintro M177 _ ⟨h177, rfl, z177_0, z177_1, z177_2, z177_3, z177_4, z177_5, z177_6, z177_7, z177_8, z177_9, z177_10⟩
              have hS := St.tr hS h177 (by decide) (by decide)
              obtain ⟨s177_120_3, es177_120_3⟩ : ∃ v, rd M177 120 3 = v := ⟨_, rfl⟩
              have bs177_120_3 : 0 ≤ s177_120_3 ∧ s177_120_3 ≤ 3 := by rw [← es177_120_3]; exact ir_120_3 hS.1.2.1
              obtain ⟨s177_120_4, es177_120_4⟩ : ∃ v, rd M177 120 4 = v := ⟨_, rfl⟩
              have bs177_120_4 : 0 ≤ s177_120_4 ∧ s177_120_4 ≤ 900 := by rw [← es177_120_4]; exact ir_120_4 hS.1.2.1
              obtain ⟨s177_120_5, es177_120_5⟩ : ∃ v, rd M177 120 5 = v := ⟨_, rfl⟩
              have bs177_120_5 : 0 ≤ s177_120_5 ∧ s177_120_5 ≤ 900 := by rw [← es177_120_5]; exact ir_120_5 hS.1.2.1
              obtain ⟨s177_120_7, es177_120_7⟩ : ∃ v, rd M177 120 7 = v := ⟨_, rfl⟩
              have bs177_120_7 : (-9223372036854775808) ≤ s177_120_7 ∧ s177_120_7 ≤ 9223372036854775807 := by rw [← es177_120_7]; exact ir_120_7 hS.1.2.1
              obtain ⟨s177_120_8, es177_120_8⟩ : ∃ v, rd M177 120 8 = v := ⟨_, rfl⟩
              have bs177_120_8 : 0 ≤ s177_120_8 ∧ s177_120_8 ≤ 5 := by rw [← es177_120_8]; exact ir_120_8 hS.1.2.1
              obtain ⟨s177_120_43, es177_120_43⟩ : ∃ v, rd M177 120 43 = v := ⟨_, rfl⟩
              have bs177_120_43 : 0 ≤ s177_120_43 ∧ s177_120_43 ≤ 20 := by rw [← es177_120_43]; exact ir_120_43 hS.1.2.1
              obtain ⟨s177_120_44, es177_120_44⟩ : ∃ v, rd M177 120 44 = v := ⟨_, rfl⟩
              have bs177_120_44 : 0 ≤ s177_120_44 ∧ s177_120_44 ≤ 8 := by rw [← es177_120_44]; exact ir_120_44 hS.1.2.1
              obtain ⟨s177_9002_0, es177_9002_0⟩ : ∃ v, n4v M177 = v := ⟨_, rfl⟩
              have bs177_9002_0 : 0 ≤ s177_9002_0 ∧ s177_9002_0 ≤ 20 := by rw [← es177_9002_0]; exact (n4v_b hS.1.2.1)
              obtain ⟨s177_9005_0, es177_9005_0⟩ : ∃ v, fr0 M177 = v := ⟨_, rfl⟩
              have bs177_9005_0 : 0 ≤ s177_9005_0 ∧ s177_9005_0 ≤ 5 := by rw [← es177_9005_0]; exact (fr0_b hS.1.2.1)
              obtain ⟨s177_9010_0, es177_9010_0⟩ : ∃ v, tav M177 = v := ⟨_, rfl⟩
              have bs177_9010_0 : (-1) ≤ s177_9010_0 ∧ s177_9010_0 ≤ 1800 := by rw [← es177_9010_0]; exact (tav_b hS.1.2.1)
              replace z177_0 := hd_i z177_0
              replace z177_2 := hd_i z177_2
              replace z177_4 := hd_i z177_4
              replace z177_5 := hd_i z177_5
              replace z177_7 := hd_i z177_7
              replace z177_10 := hd_i z177_10
              refine Tr.sc [] rfl ?_
              refine Tr.iconst (pc := 180) d_X12_operand_180 (by decide) ?_
              have kr_120_3 : rd M177 120 3 = s177_120_3 := es177_120_3
              have kr_120_4 : rd M177 120 4 = s177_120_4 := es177_120_4
              have kr_120_5 : rd M177 120 5 = s177_120_5 := es177_120_5
              have kr_120_7 : rd M177 120 7 = s177_120_7 := es177_120_7
              have kr_120_8 : rd M177 120 8 = s177_120_8 := es177_120_8
              have kr_120_36 : rd M177 120 36 = g120_36 := ((St.kp h177 (by decide) (by decide) (by decide)).trans ((St.kp h169 (by decide) (by decide) (by decide)).trans k166_120_36))
              have kr_120_43 : rd M177 120 43 = s177_120_43 := es177_120_43
              have kr_120_44 : rd M177 120 44 = s177_120_44 := es177_120_44
              have kr_120_46 : rd M177 120 46 = g120_46 := ((St.kp h177 (by decide) (by decide) (by decide)).trans ((St.kp h169 (by decide) (by decide) (by decide)).trans k166_120_46))
              have kr_120_50 : rd M177 120 50 = g120_50 := ((St.kp h177 (by decide) (by decide) (by decide)).trans ((St.kp h169 (by decide) (by decide) (by decide)).trans k166_120_50))
              have kr_136_1 : rd M177 136 1 = g136_1 := ((St.kp h177 (by decide) (by decide) (by decide)).trans ((St.kp h169 (by decide) (by decide) (by decide)).trans k166_136_1))
              have kr_9001_0 : nb2v M177 = g9001_0 := ((nb2v_of (fun j => ((St.ka h177 (by decide) (by decide) (by decide)).trans ((St.ka h169 (by decide) (by decide) (by decide)).trans rfl))) ((St.kp h177 (by decide) (by decide) (by decide)).trans ((St.kp h169 (by decide) (by decide) (by decide)).trans rfl))).trans k166_9001_0)
              have kr_9002_0 : n4v M177 = s177_9002_0 := es177_9002_0
              have kr_9004_0 : Dv1 M177 = g9004_0 := ((Dv1_of (fun j => ((St.ka h177 (by decide) (by decide) (by decide)).trans ((St.ka h169 (by decide) (by decide) (by decide)).trans rfl))) (fun j => ((St.ka h177 (by decide) (by decide) (by decide)).trans ((St.ka h169 (by decide) (by decide) (by decide)).trans rfl))) ((St.kp h177 (by decide) (by decide) (by decide)).trans ((St.kp h169 (by decide) (by decide) (by decide)).trans rfl)) ((St.kp h177 (by decide) (by decide) (by decide)).trans ((St.kp h169 (by decide) (by decide) (by decide)).trans rfl))).trans k166_9004_0)
              have kr_9005_0 : fr0 M177 = s177_9005_0 := es177_9005_0
              have kr_9010_0 : tav M177 = s177_9010_0 := es177_9010_0
              exact Tr.zret (pc := 181) d_X12_operand_181 rfl (by omega) ⟨hS, _, rfl, by omega, by omega, (by first | exact (hd_o z177_0) | exact (hd_o z177_0).elim (fun h1 => by omega) (fun h1 => by omega)), (by omega), (by first | exact (hd_o z177_2) | exact (hd_o z177_2).elim (fun h1 => by omega) (fun h1 => h1.elim (fun h1 => by omega) (fun h1 => by omega))), (by and_intros <;> omega), (by first | exact (hd_o z177_4) | exact (hd_o z177_4).elim (fun h1 => by omega) (fun h1 => by omega)), (by first | exact (hd_o z177_5) | exact (hd_o z177_5).elim (fun h1 => by omega) (fun h1 => by omega)), (by exact (hd_o z177_7).elim (fun h1 => by omega) (fun h1 => (hd_o z169_0).elim (fun h2 => (hd_o t166_0).elim (fun h3 => by omega) (fun h3 => by omega)) (fun h2 => by omega))), (by omega), (by omega), (by omega), (by omega), (by omega), (by omega)⟩
          refine Tr.if_eq (pc := 121) (tgt := 166) d_X12_operand_121 rfl (fun c121 => ?_) (fun c121 => ?_)
          · refine Tr.pick [0] (ls2 := [(0, (2, 120))]) rfl ?_
            exact J166 _ hS k120_120_3 k120_120_36 k120_120_4 k120_120_43 k120_120_44 k120_120_46 k120_120_5 k120_120_50 k120_120_6 k120_120_7 k120_120_8 k120_136_1 k120_145_g120_431n1 k120_147_g120_431n1 k120_9001_0 k120_9002_0 k120_9004_0 k120_9005_0 k120_9010_0 (by first | exact (hd_o t120_0) | exact (hd_o t120_0).elim (fun h1 => by omega) (fun h1 => by omega)) (by omega) (by first | exact (hd_o t120_2) | exact (hd_o t120_2).elim (fun h1 => by omega) (fun h1 => h1.elim (fun h1 => by omega) (fun h1 => by omega))) (by and_intros <;> omega) (by first | exact (hd_o t120_4) | exact (hd_o t120_4).elim (fun h1 => by omega) (fun h1 => by omega))
          · have c121b : 1 ≤ q33_0 ∧ q33_0 ≤ 1 := by omega
            replace c121 := hd_i c121
            refine Tr.aload_n (pc := 124) (i := 0) d_X12_operand_124 rfl rfl ?_
            refine Tr.ldc2 (pc := 125) d_X12_operand_125 kl_12_445 (by decide) ?_
            refine Tr.callV (pc := 128) (as := [_]) d_X12_operand_128 s_12_484 ok_X12_isWord rfl rfl (Nat.le_of_ble_eq_true rfl) (Nat.le_of_ble_eq_true rfl) (by decide) (ty_120 hS.1.1) ?_
            refine Tr.imp (Tr.deep (by decide) (sp_X12_isWord_120 hS.1.wk 1751477348 (by omega))) ?_
            rintro M128 _ ⟨h128, r128, rfl, lr128, ur128, z128_0⟩
            have h128 := St.rn h128 (Pm1.of hS.1.2.2.2.2 (fun _ => St.ka h128 (by decide) (by decide) (by decide)) (fun _ => St.ka h128 (by decide) (by decide) (by decide)) (fun _ => St.ka h128 (by decide) (by decide) (by decide)) (fun _ => St.ka h128 (by decide) (by decide) (by decide)) (fun _ => St.ka h128 (by decide) (by decide) (by decide)) (fun _ => St.ka h128 (by decide) (by decide) (by decide)) (fun _ => St.ka h128 (by decide) (by decide) (by decide)) (fun _ => St.ka h128 (by decide) (by decide) (by decide)) (fun _ => St.ka h128 (by decide) (by decide) (by decide)) (fun _ => St.ka h128 (by decide) (by decide) (by decide)) (St.kp h128 (by decide) (by decide) (by decide)) (St.kp h128 (by decide) (by decide) (by decide)) (St.kp h128 (by decide) (by decide) (by decide)) (St.kp h128 (by decide) (by decide) (by decide)) (St.kp h128 (by decide) (by decide) (by decide)) (St.kp h128 (by decide) (by decide) (by decide)) (St.kp h128 (by decide) (by decide) (by decide)) (St.kp h128 (by decide) (by decide) (by decide)) (St.kp h128 (by decide) (by decide) (by decide)) (St.kp h128 (by decide) (by decide) (by decide)) (St.kp h128 (by decide) (by decide) (by decide)))
            have hS := St.tr hS h128 (by decide) (by decide)
            have ka128_120_3 : rd M128 120 3 = g120_3 := ((St.kp h128 (by decide) (by decide) (by decide)).trans k120_120_3)
            have ka128_120_7 : rd M128 120 7 = g120_7 := ((St.kp h128 (by decide) (by decide) (by decide)).trans k120_120_7)
            replace z128_0 := hd_i z128_0
            refine Tr.sc [(0, r128)] rfl ?_
            refine Tr.if_eq (pc := 131) (tgt := 166) d_X12_operand_131 rfl (fun c131 => ?_) (fun c131 => ?_)
            · refine Tr.pick [0] (ls2 := [(0, (2, 120))]) rfl ?_
              exact J166 _ hS ((St.kp h128 (by decide) (by decide) (by decide)).trans k120_120_3) ((St.kp h128 (by decide) (by decide) (by decide)).trans k120_120_36) ((St.kp h128 (by decide) (by decide) (by decide)).trans k120_120_4) ((St.kp h128 (by decide) (by decide) (by decide)).trans k120_120_43) ((St.kp h128 (by decide) (by decide) (by decide)).trans k120_120_44) ((St.kp h128 (by decide) (by decide) (by decide)).trans k120_120_46) ((St.kp h128 (by decide) (by decide) (by decide)).trans k120_120_5) ((St.kp h128 (by decide) (by decide) (by decide)).trans k120_120_50) ((St.kp h128 (by decide) (by decide) (by decide)).trans k120_120_6) ((St.kp h128 (by decide) (by decide) (by decide)).trans k120_120_7) ((St.kp h128 (by decide) (by decide) (by decide)).trans k120_120_8) ((St.kp h128 (by decide) (by decide) (by decide)).trans k120_136_1) ((St.ka h128 (by decide) (by decide) (by decide)).trans k120_145_g120_431n1) ((St.ka h128 (by decide) (by decide) (by decide)).trans k120_147_g120_431n1) ((nb2v_of (fun j => ((St.ka h128 (by decide) (by decide) (by decide)).trans rfl)) ((St.kp h128 (by decide) (by decide) (by decide)).trans rfl)).trans k120_9001_0) ((n4v_of (fun j => ((St.ka h128 (by decide) (by decide) (by decide)).trans rfl)) ((St.kp h128 (by decide) (by decide) (by decide)).trans rfl)).trans k120_9002_0) ((Dv1_of (fun j => ((St.ka h128 (by decide) (by decide) (by decide)).trans rfl)) (fun j => ((St.ka h128 (by decide) (by decide) (by decide)).trans rfl)) ((St.kp h128 (by decide) (by decide) (by decide)).trans rfl) ((St.kp h128 (by decide) (by decide) (by decide)).trans rfl)).trans k120_9004_0) ((fr0_of (fun j => ((St.ka h128 (by decide) (by decide) (by decide)).trans rfl))).trans k120_9005_0) ((tav_of ((St.kp h128 (by decide) (by decide) (by decide)).trans rfl) ((St.kp h128 (by decide) (by decide) (by decide)).trans rfl)).trans k120_9010_0) (by first | exact (hd_o t120_0) | exact (hd_o t120_0).elim (fun h1 => by omega) (fun h1 => by omega)) (by omega) (by first | exact (hd_o t120_2) | exact (hd_o t120_2).elim (fun h1 => by omega) (fun h1 => h1.elim (fun h1 => by omega) (fun h1 => by omega))) (by and_intros <;> omega) (by first | exact (hd_o t120_4) | exact (hd_o t120_4).elim (fun h1 => by omega) (fun h1 => by omega))
            · have c131b : 1 ≤ r128 ∧ r128 ≤ 1 := by omega
              replace c131 := hd_i c131
              refine Tr.aload_n (pc := 134) (i := 0) d_X12_operand_134 rfl rfl ?_
              refine Tr.callV (pc := 135) (as := []) d_X12_operand_135 s_12_396 ok_X12_next rfl rfl (Nat.le_of_ble_eq_true rfl) (Nat.le_of_ble_eq_true rfl) (by decide) (ty_120 hS.1.1) ?_
              have kb135_120_3 : rd M128 120 3 = g120_3 := ((St.kp h128 (by decide) (by decide) (by decide)).trans k120_120_3)
              have kb135_120_5 : rd M128 120 5 = g120_5 := ((St.kp h128 (by decide) (by decide) (by decide)).trans k120_120_5)
              have kb135_120_8 : rd M128 120 8 = g120_8 := ((St.kp h128 (by decide) (by decide) (by decide)).trans k120_120_8)
              have kb135_9010_0 : tav M128 = g9010_0 := ((tav_of ((St.kp h128 (by decide) (by decide) (by decide)).trans rfl) ((St.kp h128 (by decide) (by decide) (by decide)).trans rfl)).trans k120_9010_0)
              refine Tr.imp (Tr.deep (by decide) (sp_X12_next_120 hS.1 )) ?_
              rintro M135 _ ⟨h135, rfl, z135_0, z135_1, z135_2, z135_3, z135_4, z135_5, z135_6⟩
              have hS := St.tr hS h135 (by decide) (by decide)
              obtain ⟨s135_120_3, es135_120_3⟩ : ∃ v, rd M135 120 3 = v := ⟨_, rfl⟩
              have bs135_120_3 : 0 ≤ s135_120_3 ∧ s135_120_3 ≤ 3 := by rw [← es135_120_3]; exact ir_120_3 hS.1.2.1
              obtain ⟨s135_120_4, es135_120_4⟩ : ∃ v, rd M135 120 4 = v := ⟨_, rfl⟩
              have bs135_120_4 : 0 ≤ s135_120_4 ∧ s135_120_4 ≤ 900 := by rw [← es135_120_4]; exact ir_120_4 hS.1.2.1
              obtain ⟨s135_120_5, es135_120_5⟩ : ∃ v, rd M135 120 5 = v := ⟨_, rfl⟩
              have bs135_120_5 : 0 ≤ s135_120_5 ∧ s135_120_5 ≤ 900 := by rw [← es135_120_5]; exact ir_120_5 hS.1.2.1
              obtain ⟨s135_120_7, es135_120_7⟩ : ∃ v, rd M135 120 7 = v := ⟨_, rfl⟩
              have bs135_120_7 : (-9223372036854775808) ≤ s135_120_7 ∧ s135_120_7 ≤ 9223372036854775807 := by rw [← es135_120_7]; exact ir_120_7 hS.1.2.1
              obtain ⟨s135_120_8, es135_120_8⟩ : ∃ v, rd M135 120 8 = v := ⟨_, rfl⟩
              have bs135_120_8 : 0 ≤ s135_120_8 ∧ s135_120_8 ≤ 5 := by rw [← es135_120_8]; exact ir_120_8 hS.1.2.1
              obtain ⟨s135_9010_0, es135_9010_0⟩ : ∃ v, tav M135 = v := ⟨_, rfl⟩
              have bs135_9010_0 : (-1) ≤ s135_9010_0 ∧ s135_9010_0 ≤ 1800 := by rw [← es135_9010_0]; exact (tav_b hS.1.2.1)
              replace z135_0 := hd_i z135_0
              replace z135_2 := hd_i z135_2
              replace z135_5 := hd_i z135_5
              replace z135_6 := hd_i z135_6
              refine Tr.sc [] rfl ?_
              refine Tr.aload_n (pc := 138) (i := 0) d_X12_operand_138 rfl rfl ?_
              refine Tr.iconst (pc := 139) d_X12_operand_139 (by decide) ?_
              refine Tr.callV (pc := 140) (as := [_]) d_X12_operand_140 s_12_493 ok_X12_asked rfl rfl (Nat.le_of_ble_eq_true rfl) (Nat.le_of_ble_eq_true rfl) (by decide) (ty_120 hS.1.1) ?_
              have kb140_120_3 : rd M135 120 3 = s135_120_3 := es135_120_3
              have kb140_120_4 : rd M135 120 4 = s135_120_4 := es135_120_4
              have kb140_120_5 : rd M135 120 5 = s135_120_5 := es135_120_5
              have kb140_120_7 : rd M135 120 7 = s135_120_7 := es135_120_7
              have kb140_120_8 : rd M135 120 8 = s135_120_8 := es135_120_8
              have kb140_9010_0 : tav M135 = s135_9010_0 := es135_9010_0
              refine Tr.imp (Tr.deep (by decide) (sp_X12_asked_120 hS.1 ((St.kp hS (by decide) (by decide) (by decide)).trans en_120_37) 0 (by omega) (by first | exact (hd_o z135_0) | exact (hd_o z135_0).elim (fun h1 => by omega) (fun h1 => by omega)) (by omega) (by first | exact (hd_o z135_2) | exact (hd_o z135_2).elim (fun h1 => by omega) (fun h1 => h1.elim (fun h1 => by omega) (fun h1 => by omega))))) ?_
              rintro M140 _ ⟨h140, r140, rfl, lr140, ur140, z140_0, z140_1, z140_2, z140_3, z140_4, z140_5, z140_6⟩
              have hS := St.tr hS h140 (by decide) (by decide)
              obtain ⟨s140_120_3, es140_120_3⟩ : ∃ v, rd M140 120 3 = v := ⟨_, rfl⟩
              have bs140_120_3 : 0 ≤ s140_120_3 ∧ s140_120_3 ≤ 3 := by rw [← es140_120_3]; exact ir_120_3 hS.1.2.1
              obtain ⟨s140_120_4, es140_120_4⟩ : ∃ v, rd M140 120 4 = v := ⟨_, rfl⟩
              have bs140_120_4 : 0 ≤ s140_120_4 ∧ s140_120_4 ≤ 900 := by rw [← es140_120_4]; exact ir_120_4 hS.1.2.1
              obtain ⟨s140_120_5, es140_120_5⟩ : ∃ v, rd M140 120 5 = v := ⟨_, rfl⟩
              have bs140_120_5 : 0 ≤ s140_120_5 ∧ s140_120_5 ≤ 900 := by rw [← es140_120_5]; exact ir_120_5 hS.1.2.1
              obtain ⟨s140_120_7, es140_120_7⟩ : ∃ v, rd M140 120 7 = v := ⟨_, rfl⟩
              have bs140_120_7 : (-9223372036854775808) ≤ s140_120_7 ∧ s140_120_7 ≤ 9223372036854775807 := by rw [← es140_120_7]; exact ir_120_7 hS.1.2.1
              obtain ⟨s140_120_8, es140_120_8⟩ : ∃ v, rd M140 120 8 = v := ⟨_, rfl⟩
              have bs140_120_8 : 0 ≤ s140_120_8 ∧ s140_120_8 ≤ 5 := by rw [← es140_120_8]; exact ir_120_8 hS.1.2.1
              obtain ⟨s140_9010_0, es140_9010_0⟩ : ∃ v, tav M140 = v := ⟨_, rfl⟩
              have bs140_9010_0 : (-1) ≤ s140_9010_0 ∧ s140_9010_0 ≤ 1800 := by rw [← es140_9010_0]; exact (tav_b hS.1.2.1)
              replace z140_0 := hd_i z140_0
              replace z140_2 := hd_i z140_2
              replace z140_4 := hd_i z140_4
              replace z140_5 := hd_i z140_5
              replace z140_6 := hd_i z140_6
              refine Tr.sc [(0, r140)] rfl ?_
              refine Tr.istore_n (pc := 143) (i := 3) (ls2 := [(3, (0, r140)), (0, (2, 120)), (1, (0, (g120_43 - 1))), (2, (0, q33_0))]) d_X12_operand_143 rfl (by decide) rfl ?_
              refine Tr.aload_n (pc := 144) (i := 0) d_X12_operand_144 rfl rfl ?_
              refine Tr.getf (pc := 145) d_X12_operand_145 f_12_36 (by decide) (by decide) (ty_120 hS.1.1) ?_
              refine Tr.tp s140_120_8 es140_120_8 ?_
              have J157 : ∀ (M : Mem) (u157_120_6 u157_120_36 u157_9004_0 : Int), St Pm1 ws_X12_operand_120 as_X12_operand_120 M0 M → ((-2147483648) ≤ u157_120_6 ∧ u157_120_6 ≤ 2147483647) → (0 ≤ u157_120_36 ∧ u157_120_36 ≤ 900) → ((-1000) ≤ u157_9004_0 ∧ u157_9004_0 ≤ 1000) → rd M 120 3 = s140_120_3 → rd M 120 36 = u157_120_36 → rd M 120 4 = s140_120_4 → rd M 120 43 = g120_43 → rd M 120 44 = g120_44 → rd M 120 46 = g120_46 → rd M 120 5 = s140_120_5 → rd M 120 50 = g120_50 → rd M 120 6 = u157_120_6 → rd M 120 7 = s140_120_7 → rd M 120 8 = s140_120_8 → rd M 136 1 = g136_1 → rd M 145 (g120_43 - 1) = r12 → rd M 147 (g120_43 - 1) = 0 → nb2v M = g9001_0 → n4v M = g9002_0 → Dv1 M = u157_9004_0 → fr0 M = g9005_0 → tav M = s140_9010_0 → (1 ≤ s140_120_8 ∨ g9001_0 + g9002_0 + 1 ≤ u157_9004_0) → (u157_120_36 + g120_46 + g120_44 ≤ s140_120_4) → (2 * g120_46 + 1 ≤ s140_120_4) → Tr l K 3 mX12_operand 157 [(0, (2, 120)), (1, (0, (g120_43 - 1)))] [] M (q_X12_operand_120 M0) := by
                intro M u157_120_6 u157_120_36 u157_9004_0 hS bu157_120_6 bu157_120_36 bu157_9004_0 k157_120_3 k157_120_36 k157_120_4 k157_120_43 k157_120_44 k157_120_46 k157_120_5 k157_120_50 k157_120_6 k157_120_7 k157_120_8 k157_136_1 k157_145_g120_431n1 k157_147_g120_431n1 k157_9001_0 k157_9002_0 k157_9004_0 k157_9005_0 k157_9010_0 t157_0 t157_1 t157_2
                clear k120_120_3 k120_120_36 k120_120_4 k120_120_43 k120_120_44 k120_120_46 k120_120_5 k120_120_50 k120_120_6 k120_120_7 k120_120_8 k120_136_1 k120_145_g120_431n1 k120_147_g120_431n1 k120_9001_0 k120_9002_0 k120_9004_0 k120_9005_0 k120_9010_0 ka128_120_3 ka128_120_7 kb135_120_3 kb135_120_5 kb135_120_8 kb135_9010_0 es135_120_3 es135_120_4 es135_120_5 es135_120_7 es135_120_8 es135_9010_0 kb140_120_3 kb140_120_4 kb140_120_5 kb140_120_7 kb140_120_8 kb140_9010_0 es140_120_3 es140_120_4 es140_120_5 es140_120_7 es140_120_8 es140_9010_0
                replace t157_0 := hd_i t157_0
                refine Tr.aload_n (pc := 157) (i := 0) d_X12_operand_157 rfl rfl ?_
                refine Tr.getf (pc := 158) d_X12_operand_158 f_12_130 (by decide) (by decide) (ty_120 hS.1.1) ?_
                refine Tr.tp 146 (fx_120_39 hS.1.1) ?_
                refine Tr.iload_n (pc := 161) (i := 1) d_X12_operand_161 rfl rfl ?_
                refine Tr.iconst (pc := 162) d_X12_operand_162 (by decide) ?_
                refine Tr.iastS (pc := 163) (P := St Pm1 ws_X12_operand_120 as_X12_operand_120 M0) d_X12_operand_163 (ty_146 hS.1.1) (by omega) (by omega) (sa_146 hS (by decide) (by omega) (Pm1.of hS.1.2.2.2.2 (fun _ => rd_wb _ rfl) (fun _ => rd_wb _ rfl) (fun _ => rd_wb _ rfl) (fun _ => rd_wb _ rfl) (fun _ => rd_wb _ rfl) (fun _ => rd_wb _ rfl) (fun _ => rd_wb _ rfl) (fun _ => rd_wb _ rfl) (fun _ => rd_wb _ rfl) (fun _ => rd_wb _ rfl) (rd_wb _ rfl) (rd_wb _ rfl) (rd_wb _ rfl) (rd_wb _ rfl) (rd_wb _ rfl) (rd_wb _ rfl) (rd_wb _ rfl) (rd_wb _ rfl) (rd_wb _ rfl) (rd_wb _ rfl) (rd_wb _ rfl))) (fun M163 hS w163 => ?_)
                refine Tr.iconst (pc := 164) d_X12_operand_164 (by decide) ?_
                have kr_120_3 : rd M163 120 3 = s140_120_3 := ((Wr.b w163 rfl).trans k157_120_3)
                have kr_120_4 : rd M163 120 4 = s140_120_4 := ((Wr.b w163 rfl).trans k157_120_4)
                have kr_120_5 : rd M163 120 5 = s140_120_5 := ((Wr.b w163 rfl).trans k157_120_5)
                have kr_120_7 : rd M163 120 7 = s140_120_7 := ((Wr.b w163 rfl).trans k157_120_7)
                have kr_120_8 : rd M163 120 8 = s140_120_8 := ((Wr.b w163 rfl).trans k157_120_8)
                have kr_120_36 : rd M163 120 36 = u157_120_36 := ((Wr.b w163 rfl).trans k157_120_36)
                have kr_120_43 : rd M163 120 43 = g120_43 := ((Wr.b w163 rfl).trans k157_120_43)
                have kr_120_44 : rd M163 120 44 = g120_44 := ((Wr.b w163 rfl).trans k157_120_44)
                have kr_120_46 : rd M163 120 46 = g120_46 := ((Wr.b w163 rfl).trans k157_120_46)
                have kr_120_50 : rd M163 120 50 = g120_50 := ((Wr.b w163 rfl).trans k157_120_50)
                have kr_136_1 : rd M163 136 1 = g136_1 := ((Wr.b w163 rfl).trans k157_136_1)
                have kr_9001_0 : nb2v M163 = g9001_0 := ((nb2v_of (fun j => ((Wr.b w163 rfl).trans rfl)) ((Wr.b w163 rfl).trans rfl)).trans k157_9001_0)
                have kr_9002_0 : n4v M163 = g9002_0 := ((n4v_of (fun j => ((Wr.b w163 rfl).trans rfl)) ((Wr.b w163 rfl).trans rfl)).trans k157_9002_0)
                have kr_9004_0 : Dv1 M163 = u157_9004_0 := ((Dv1_of (fun j => ((Wr.b w163 rfl).trans rfl)) (fun j => ((Wr.b w163 rfl).trans rfl)) ((Wr.b w163 rfl).trans rfl) ((Wr.b w163 rfl).trans rfl)).trans k157_9004_0)
                have kr_9005_0 : fr0 M163 = g9005_0 := ((fr0_of (fun j => ((Wr.b w163 rfl).trans rfl))).trans k157_9005_0)
                have kr_9010_0 : tav M163 = s140_9010_0 := ((tav_of ((Wr.b w163 rfl).trans rfl) ((Wr.b w163 rfl).trans rfl)).trans k157_9010_0)
                exact Tr.zret (pc := 165) d_X12_operand_165 rfl (by omega) ⟨hS, _, rfl, by omega, by omega, (by first | exact (hd_o z140_0) | exact (hd_o z140_0).elim (fun h1 => by omega) (fun h1 => by omega)), (by omega), (by first | exact (hd_o z140_2) | exact (hd_o z140_2).elim (fun h1 => by omega) (fun h1 => h1.elim (fun h1 => by omega) (fun h1 => by omega))), (by and_intros <;> omega), (by omega), (by exact (hd_o z140_5).elim (fun h1 => by omega) (fun h1 => by omega)), (by omega), (by omega), (by omega), (by omega), (by omega), (by omega), (by first | exact (hd_o t157_0) | exact (hd_o t157_0).elim (fun h1 => by omega) (fun h1 => by omega))⟩
              refine Tr.if_ne (pc := 148) (tgt := 157) d_X12_operand_148 rfl (fun c148 => ?_) (fun c148 => ?_)
              · have c148b : 1 ≤ s140_120_8 ∧ s140_120_8 ≤ 5 := by omega
                replace c148 := hd_i c148
                refine Tr.pick [1, 2] (ls2 := [(0, (2, 120)), (1, (0, (g120_43 - 1)))]) rfl ?_
                obtain ⟨w157p148_120_6, ew157p148_120_6⟩ : ∃ v, rd M140 120 6 = v := ⟨_, rfl⟩
                have bw157p148_120_6 : (-2147483648) ≤ w157p148_120_6 ∧ w157p148_120_6 ≤ 2147483647 := by rw [← ew157p148_120_6]; exact ir_120_6 hS.1.2.1
                exact J157 _ _ _ _ hS (by and_intros <;> omega) (by and_intros <;> omega) (by and_intros <;> omega) es140_120_3 ((St.kp h140 (by decide) (by decide) (by decide)).trans ((St.kp h135 (by decide) (by decide) (by decide)).trans ((St.kp h128 (by decide) (by decide) (by decide)).trans k120_120_36))) es140_120_4 ((St.kp h140 (by decide) (by decide) (by decide)).trans ((St.kp h135 (by decide) (by decide) (by decide)).trans ((St.kp h128 (by decide) (by decide) (by decide)).trans k120_120_43))) ((St.kp h140 (by decide) (by decide) (by decide)).trans ((St.kp h135 (by decide) (by decide) (by decide)).trans ((St.kp h128 (by decide) (by decide) (by decide)).trans k120_120_44))) ((St.kp h140 (by decide) (by decide) (by decide)).trans ((St.kp h135 (by decide) (by decide) (by decide)).trans ((St.kp h128 (by decide) (by decide) (by decide)).trans k120_120_46))) es140_120_5 ((St.kp h140 (by decide) (by decide) (by decide)).trans ((St.kp h135 (by decide) (by decide) (by decide)).trans ((St.kp h128 (by decide) (by decide) (by decide)).trans k120_120_50))) ew157p148_120_6 es140_120_7 es140_120_8 ((St.kp h140 (by decide) (by decide) (by decide)).trans ((St.kp h135 (by decide) (by decide) (by decide)).trans ((St.kp h128 (by decide) (by decide) (by decide)).trans k120_136_1))) ((St.ka h140 (by decide) (by decide) (by decide)).trans ((St.ka h135 (by decide) (by decide) (by decide)).trans ((St.ka h128 (by decide) (by decide) (by decide)).trans k120_145_g120_431n1))) ((St.ka h140 (by decide) (by decide) (by decide)).trans ((St.ka h135 (by decide) (by decide) (by decide)).trans ((St.ka h128 (by decide) (by decide) (by decide)).trans k120_147_g120_431n1))) ((nb2v_of (fun j => ((St.ka h140 (by decide) (by decide) (by decide)).trans ((St.ka h135 (by decide) (by decide) (by decide)).trans ((St.ka h128 (by decide) (by decide) (by decide)).trans rfl)))) ((St.kp h140 (by decide) (by decide) (by decide)).trans ((St.kp h135 (by decide) (by decide) (by decide)).trans ((St.kp h128 (by decide) (by decide) (by decide)).trans rfl)))).trans k120_9001_0) ((n4v_of (fun j => ((St.ka h140 (by decide) (by decide) (by decide)).trans ((St.ka h135 (by decide) (by decide) (by decide)).trans ((St.ka h128 (by decide) (by decide) (by decide)).trans rfl)))) ((St.kp h140 (by decide) (by decide) (by decide)).trans ((St.kp h135 (by decide) (by decide) (by decide)).trans ((St.kp h128 (by decide) (by decide) (by decide)).trans rfl)))).trans k120_9002_0) ((Dv1_of (fun j => ((St.ka h140 (by decide) (by decide) (by decide)).trans ((St.ka h135 (by decide) (by decide) (by decide)).trans ((St.ka h128 (by decide) (by decide) (by decide)).trans rfl)))) (fun j => ((St.ka h140 (by decide) (by decide) (by decide)).trans ((St.ka h135 (by decide) (by decide) (by decide)).trans ((St.ka h128 (by decide) (by decide) (by decide)).trans rfl)))) ((St.kp h140 (by decide) (by decide) (by decide)).trans ((St.kp h135 (by decide) (by decide) (by decide)).trans ((St.kp h128 (by decide) (by decide) (by decide)).trans rfl))) ((St.kp h140 (by decide) (by decide) (by decide)).trans ((St.kp h135 (by decide) (by decide) (by decide)).trans ((St.kp h128 (by decide) (by decide) (by decide)).trans rfl)))).trans k120_9004_0) ((fr0_of (fun j => ((St.ka h140 (by decide) (by decide) (by decide)).trans ((St.ka h135 (by decide) (by decide) (by decide)).trans ((St.ka h128 (by decide) (by decide) (by decide)).trans rfl))))).trans k120_9005_0) es140_9010_0 (by omega) (by omega) (by exact (hd_o z128_0).elim (fun h1 => (hd_o t120_0).elim (fun h2 => by omega) (fun h2 => by omega)) (fun h1 => by omega))
              · refine Tr.aload_n (pc := 151) (i := 0) d_X12_operand_151 rfl rfl ?_
                refine Tr.iconst (pc := 152) d_X12_operand_152 (by decide) ?_
                refine Tr.iload_n (pc := 153) (i := 3) d_X12_operand_153 rfl rfl ?_
                refine Tr.callV (pc := 154) (as := [_, _]) d_X12_operand_154 s_12_475 ok_X12_add rfl rfl (Nat.le_of_ble_eq_true rfl) (Nat.le_of_ble_eq_true rfl) (by decide) (ty_120 hS.1.1) ?_
                have kb154_120_36 : rd M140 120 36 = g120_36 := ((St.kp h140 (by decide) (by decide) (by decide)).trans ((St.kp h135 (by decide) (by decide) (by decide)).trans ((St.kp h128 (by decide) (by decide) (by decide)).trans k120_120_36)))
                have kb154_136_1 : rd M140 136 1 = g136_1 := ((St.kp h140 (by decide) (by decide) (by decide)).trans ((St.kp h135 (by decide) (by decide) (by decide)).trans ((St.kp h128 (by decide) (by decide) (by decide)).trans k120_136_1)))
                have kb154_9004_0 : Dv1 M140 = g9004_0 := ((Dv1_of (fun j => ((St.ka h140 (by decide) (by decide) (by decide)).trans ((St.ka h135 (by decide) (by decide) (by decide)).trans ((St.ka h128 (by decide) (by decide) (by decide)).trans rfl)))) (fun j => ((St.ka h140 (by decide) (by decide) (by decide)).trans ((St.ka h135 (by decide) (by decide) (by decide)).trans ((St.ka h128 (by decide) (by decide) (by decide)).trans rfl)))) ((St.kp h140 (by decide) (by decide) (by decide)).trans ((St.kp h135 (by decide) (by decide) (by decide)).trans ((St.kp h128 (by decide) (by decide) (by decide)).trans rfl))) ((St.kp h140 (by decide) (by decide) (by decide)).trans ((St.kp h135 (by decide) (by decide) (by decide)).trans ((St.kp h128 (by decide) (by decide) (by decide)).trans rfl)))).trans k120_9004_0)
                refine Tr.imp (Tr.deep (by decide) (sp_X12_add_120_w1 hS.1 ((St.kp hS (by decide) (by decide) (by decide)).trans en_120_37) 4 (by omega) r140 (by and_intros <;> omega) (by exact (hd_o z140_6).elim (fun h1 => by omega) (fun h1 => by omega)) (by exact (hd_o z128_0).elim (fun h1 => (hd_o t120_0).elim (fun h2 => by omega) (fun h2 => by omega)) (fun h1 => by omega)) (by omega) (by omega) (by omega))) ?_
                rintro M154 _ ⟨h154, rfl, z154_0, z154_1⟩
                have hS := St.tr hS h154 (by decide) (by decide)
                obtain ⟨s154_120_36, es154_120_36⟩ : ∃ v, rd M154 120 36 = v := ⟨_, rfl⟩
                have bs154_120_36 : 0 ≤ s154_120_36 ∧ s154_120_36 ≤ 900 := by rw [← es154_120_36]; exact ir_120_36 hS.1.2.1
                obtain ⟨s154_9004_0, es154_9004_0⟩ : ∃ v, Dv1 M154 = v := ⟨_, rfl⟩
                have bs154_9004_0 : (-1000) ≤ s154_9004_0 ∧ s154_9004_0 ≤ 1000 := by rw [← es154_9004_0]; exact (Dv1_b hS.1.2.1)
                replace z154_1 := hd_i z154_1
                refine Tr.sc [] rfl ?_
                refine Tr.pick [1, 2] (ls2 := [(0, (2, 120)), (1, (0, (g120_43 - 1)))]) rfl ?_
                obtain ⟨w157p154_120_6, ew157p154_120_6⟩ : ∃ v, rd M154 120 6 = v := ⟨_, rfl⟩
                have bw157p154_120_6 : (-2147483648) ≤ w157p154_120_6 ∧ w157p154_120_6 ≤ 2147483647 := by rw [← ew157p154_120_6]; exact ir_120_6 hS.1.2.1
                exact J157 _ _ _ _ hS (by and_intros <;> omega) (by and_intros <;> omega) (by and_intros <;> omega) ((St.kp h154 (by decide) (by decide) (by decide)).trans es140_120_3) es154_120_36 ((St.kp h154 (by decide) (by decide) (by decide)).trans es140_120_4) ((St.kp h154 (by decide) (by decide) (by decide)).trans ((St.kp h140 (by decide) (by decide) (by decide)).trans ((St.kp h135 (by decide) (by decide) (by decide)).trans ((St.kp h128 (by decide) (by decide) (by decide)).trans k120_120_43)))) ((St.kp h154 (by decide) (by decide) (by decide)).trans ((St.kp h140 (by decide) (by decide) (by decide)).trans ((St.kp h135 (by decide) (by decide) (by decide)).trans ((St.kp h128 (by decide) (by decide) (by decide)).trans k120_120_44)))) ((St.kp h154 (by decide) (by decide) (by decide)).trans ((St.kp h140 (by decide) (by decide) (by decide)).trans ((St.kp h135 (by decide) (by decide) (by decide)).trans ((St.kp h128 (by decide) (by decide) (by decide)).trans k120_120_46)))) ((St.kp h154 (by decide) (by decide) (by decide)).trans es140_120_5) ((St.kp h154 (by decide) (by decide) (by decide)).trans ((St.kp h140 (by decide) (by decide) (by decide)).trans ((St.kp h135 (by decide) (by decide) (by decide)).trans ((St.kp h128 (by decide) (by decide) (by decide)).trans k120_120_50)))) ew157p154_120_6 ((St.kp h154 (by decide) (by decide) (by decide)).trans es140_120_7) ((St.kp h154 (by decide) (by decide) (by decide)).trans es140_120_8) ((St.kp h154 (by decide) (by decide) (by decide)).trans ((St.kp h140 (by decide) (by decide) (by decide)).trans ((St.kp h135 (by decide) (by decide) (by decide)).trans ((St.kp h128 (by decide) (by decide) (by decide)).trans k120_136_1)))) ((St.ka h154 (by decide) (by decide) (by decide)).trans ((St.ka h140 (by decide) (by decide) (by decide)).trans ((St.ka h135 (by decide) (by decide) (by decide)).trans ((St.ka h128 (by decide) (by decide) (by decide)).trans k120_145_g120_431n1)))) ((St.ka h154 (by decide) (by decide) (by decide)).trans ((St.ka h140 (by decide) (by decide) (by decide)).trans ((St.ka h135 (by decide) (by decide) (by decide)).trans ((St.ka h128 (by decide) (by decide) (by decide)).trans k120_147_g120_431n1)))) ((nb2v_of (fun j => ((St.ka h154 (by decide) (by decide) (by decide)).trans ((St.ka h140 (by decide) (by decide) (by decide)).trans ((St.ka h135 (by decide) (by decide) (by decide)).trans ((St.ka h128 (by decide) (by decide) (by decide)).trans rfl))))) ((St.kp h154 (by decide) (by decide) (by decide)).trans ((St.kp h140 (by decide) (by decide) (by decide)).trans ((St.kp h135 (by decide) (by decide) (by decide)).trans ((St.kp h128 (by decide) (by decide) (by decide)).trans rfl))))).trans k120_9001_0) ((n4v_of (fun j => ((St.ka h154 (by decide) (by decide) (by decide)).trans ((St.ka h140 (by decide) (by decide) (by decide)).trans ((St.ka h135 (by decide) (by decide) (by decide)).trans ((St.ka h128 (by decide) (by decide) (by decide)).trans rfl))))) ((St.kp h154 (by decide) (by decide) (by decide)).trans ((St.kp h140 (by decide) (by decide) (by decide)).trans ((St.kp h135 (by decide) (by decide) (by decide)).trans ((St.kp h128 (by decide) (by decide) (by decide)).trans rfl))))).trans k120_9002_0) es154_9004_0 ((fr0_of (fun j => ((St.ka h154 (by decide) (by decide) (by decide)).trans ((St.ka h140 (by decide) (by decide) (by decide)).trans ((St.ka h135 (by decide) (by decide) (by decide)).trans ((St.ka h128 (by decide) (by decide) (by decide)).trans rfl)))))).trans k120_9005_0) ((tav_of ((St.kp h154 (by decide) (by decide) (by decide)).trans rfl) ((St.kp h154 (by decide) (by decide) (by decide)).trans rfl)).trans es140_9010_0) (by exact (hd_o z154_1).elim (fun h1 => by omega) (fun h1 => h1.elim (fun h1 => by omega) (fun h1 => by omega))) (by exact (hd_o z128_0).elim (fun h1 => (hd_o t120_0).elim (fun h2 => by omega) (fun h2 => by omega)) (fun h1 => by omega)) (by exact (hd_o z128_0).elim (fun h1 => (hd_o t120_0).elim (fun h2 => by omega) (fun h2 => by omega)) (fun h1 => by omega))
        refine Tr.if_eq (pc := 88) (tgt := 120) d_X12_operand_88 rfl (fun c88 => ?_) (fun c88 => ?_)
        · refine Tr.pick [0, 1, 2] (ls2 := [(0, (2, 120)), (1, (0, (g120_43 - 1))), (2, (0, q33_0))]) rfl ?_
          exact J120 _ hS k87_120_3 k87_120_36 k87_120_4 k87_120_43 k87_120_44 k87_120_46 k87_120_5 k87_120_50 k87_120_6 k87_120_7 k87_120_8 k87_136_1 k87_145_g120_431n1 k87_147_g120_431n1 k87_9001_0 k87_9002_0 k87_9004_0 k87_9005_0 k87_9010_0 (by first | exact (hd_o t87_0) | exact (hd_o t87_0).elim (fun h1 => by omega) (fun h1 => by omega)) (by omega) (by first | exact (hd_o t87_2) | exact (hd_o t87_2).elim (fun h1 => by omega) (fun h1 => h1.elim (fun h1 => by omega) (fun h1 => by omega))) (by and_intros <;> omega) (by first | exact (hd_o t87_4) | exact (hd_o t87_4).elim (fun h1 => by omega) (fun h1 => by omega))
        · have c88b : 1 ≤ q33_0 ∧ q33_0 ≤ 1 := by omega
          replace c88 := hd_i c88
          refine Tr.aload_n (pc := 91) (i := 0) d_X12_operand_91 rfl rfl ?_
          refine Tr.ldc2 (pc := 92) d_X12_operand_92 kl_12_443 (by decide) ?_
          refine Tr.callV (pc := 95) (as := [_]) d_X12_operand_95 s_12_484 ok_X12_isWord rfl rfl (Nat.le_of_ble_eq_true rfl) (Nat.le_of_ble_eq_true rfl) (by decide) (ty_120 hS.1.1) ?_
          refine Tr.imp (Tr.deep (by decide) (sp_X12_isWord_120 hS.1.wk 6384748 (by omega))) ?_
          rintro M95 _ ⟨h95, r95, rfl, lr95, ur95, z95_0⟩
          have h95 := St.rn h95 (Pm1.of hS.1.2.2.2.2 (fun _ => St.ka h95 (by decide) (by decide) (by decide)) (fun _ => St.ka h95 (by decide) (by decide) (by decide)) (fun _ => St.ka h95 (by decide) (by decide) (by decide)) (fun _ => St.ka h95 (by decide) (by decide) (by decide)) (fun _ => St.ka h95 (by decide) (by decide) (by decide)) (fun _ => St.ka h95 (by decide) (by decide) (by decide)) (fun _ => St.ka h95 (by decide) (by decide) (by decide)) (fun _ => St.ka h95 (by decide) (by decide) (by decide)) (fun _ => St.ka h95 (by decide) (by decide) (by decide)) (fun _ => St.ka h95 (by decide) (by decide) (by decide)) (St.kp h95 (by decide) (by decide) (by decide)) (St.kp h95 (by decide) (by decide) (by decide)) (St.kp h95 (by decide) (by decide) (by decide)) (St.kp h95 (by decide) (by decide) (by decide)) (St.kp h95 (by decide) (by decide) (by decide)) (St.kp h95 (by decide) (by decide) (by decide)) (St.kp h95 (by decide) (by decide) (by decide)) (St.kp h95 (by decide) (by decide) (by decide)) (St.kp h95 (by decide) (by decide) (by decide)) (St.kp h95 (by decide) (by decide) (by decide)) (St.kp h95 (by decide) (by decide) (by decide)))
          have hS := St.tr hS h95 (by decide) (by decide)
          have ka95_120_3 : rd M95 120 3 = g120_3 := ((St.kp h95 (by decide) (by decide) (by decide)).trans k87_120_3)
          have ka95_120_7 : rd M95 120 7 = g120_7 := ((St.kp h95 (by decide) (by decide) (by decide)).trans k87_120_7)
          replace z95_0 := hd_i z95_0
          refine Tr.sc [(0, r95)] rfl ?_
          refine Tr.if_eq (pc := 98) (tgt := 120) d_X12_operand_98 rfl (fun c98 => ?_) (fun c98 => ?_)
          · refine Tr.pick [0, 1, 2] (ls2 := [(0, (2, 120)), (1, (0, (g120_43 - 1))), (2, (0, q33_0))]) rfl ?_
            exact J120 _ hS ((St.kp h95 (by decide) (by decide) (by decide)).trans k87_120_3) ((St.kp h95 (by decide) (by decide) (by decide)).trans k87_120_36) ((St.kp h95 (by decide) (by decide) (by decide)).trans k87_120_4) ((St.kp h95 (by decide) (by decide) (by decide)).trans k87_120_43) ((St.kp h95 (by decide) (by decide) (by decide)).trans k87_120_44) ((St.kp h95 (by decide) (by decide) (by decide)).trans k87_120_46) ((St.kp h95 (by decide) (by decide) (by decide)).trans k87_120_5) ((St.kp h95 (by decide) (by decide) (by decide)).trans k87_120_50) ((St.kp h95 (by decide) (by decide) (by decide)).trans k87_120_6) ((St.kp h95 (by decide) (by decide) (by decide)).trans k87_120_7) ((St.kp h95 (by decide) (by decide) (by decide)).trans k87_120_8) ((St.kp h95 (by decide) (by decide) (by decide)).trans k87_136_1) ((St.ka h95 (by decide) (by decide) (by decide)).trans k87_145_g120_431n1) ((St.ka h95 (by decide) (by decide) (by decide)).trans k87_147_g120_431n1) ((nb2v_of (fun j => ((St.ka h95 (by decide) (by decide) (by decide)).trans rfl)) ((St.kp h95 (by decide) (by decide) (by decide)).trans rfl)).trans k87_9001_0) ((n4v_of (fun j => ((St.ka h95 (by decide) (by decide) (by decide)).trans rfl)) ((St.kp h95 (by decide) (by decide) (by decide)).trans rfl)).trans k87_9002_0) ((Dv1_of (fun j => ((St.ka h95 (by decide) (by decide) (by decide)).trans rfl)) (fun j => ((St.ka h95 (by decide) (by decide) (by decide)).trans rfl)) ((St.kp h95 (by decide) (by decide) (by decide)).trans rfl) ((St.kp h95 (by decide) (by decide) (by decide)).trans rfl)).trans k87_9004_0) ((fr0_of (fun j => ((St.ka h95 (by decide) (by decide) (by decide)).trans rfl))).trans k87_9005_0) ((tav_of ((St.kp h95 (by decide) (by decide) (by decide)).trans rfl) ((St.kp h95 (by decide) (by decide) (by decide)).trans rfl)).trans k87_9010_0) (by first | exact (hd_o t87_0) | exact (hd_o t87_0).elim (fun h1 => by omega) (fun h1 => by omega)) (by omega) (by first | exact (hd_o t87_2) | exact (hd_o t87_2).elim (fun h1 => by omega) (fun h1 => h1.elim (fun h1 => by omega) (fun h1 => by omega))) (by and_intros <;> omega) (by first | exact (hd_o t87_4) | exact (hd_o t87_4).elim (fun h1 => by omega) (fun h1 => by omega))
          · have c98b : 1 ≤ r95 ∧ r95 ≤ 1 := by omega
            replace c98 := hd_i c98
            refine Tr.aload_n (pc := 101) (i := 0) d_X12_operand_101 rfl rfl ?_
            refine Tr.iconst (pc := 102) d_X12_operand_102 (by decide) ?_
            refine Tr.iconst (pc := 103) d_X12_operand_103 (by decide) ?_
            refine Tr.callV (pc := 104) (as := [_, _]) d_X12_operand_104 s_12_475 ok_X12_add rfl rfl (Nat.le_of_ble_eq_true rfl) (Nat.le_of_ble_eq_true rfl) (by decide) (ty_120 hS.1.1) ?_
            have kb104_120_36 : rd M95 120 36 = g120_36 := ((St.kp h95 (by decide) (by decide) (by decide)).trans k87_120_36)
            have kb104_136_1 : rd M95 136 1 = g136_1 := ((St.kp h95 (by decide) (by decide) (by decide)).trans k87_136_1)
            have kb104_9004_0 : Dv1 M95 = g9004_0 := ((Dv1_of (fun j => ((St.ka h95 (by decide) (by decide) (by decide)).trans rfl)) (fun j => ((St.ka h95 (by decide) (by decide) (by decide)).trans rfl)) ((St.kp h95 (by decide) (by decide) (by decide)).trans rfl) ((St.kp h95 (by decide) (by decide) (by decide)).trans rfl)).trans k87_9004_0)
            refine Tr.imp (Tr.deep (by decide) (sp_X12_add_120 hS.1 ((St.kp hS (by decide) (by decide) (by decide)).trans en_120_37) 5 (by omega) 0 (by omega) (by omega) (by exact (hd_o z95_0).elim (fun h1 => (hd_o t87_0).elim (fun h2 => by omega) (fun h2 => by omega)) (fun h1 => by omega)) (by omega) (by omega) (by omega))) ?_
            rintro M104 _ ⟨h104, rfl, z104_0, z104_1⟩
            have hS := St.tr hS h104 (by decide) (by decide)
            obtain ⟨s104_120_36, es104_120_36⟩ : ∃ v, rd M104 120 36 = v := ⟨_, rfl⟩
            have bs104_120_36 : 0 ≤ s104_120_36 ∧ s104_120_36 ≤ 900 := by rw [← es104_120_36]; exact ir_120_36 hS.1.2.1
            obtain ⟨s104_9004_0, es104_9004_0⟩ : ∃ v, Dv1 M104 = v := ⟨_, rfl⟩
            have bs104_9004_0 : (-1000) ≤ s104_9004_0 ∧ s104_9004_0 ≤ 1000 := by rw [← es104_9004_0]; exact (Dv1_b hS.1.2.1)
            replace z104_1 := hd_i z104_1
            refine Tr.sc [] rfl ?_
            refine Tr.aload_n (pc := 107) (i := 0) d_X12_operand_107 rfl rfl ?_
            refine Tr.getf (pc := 108) d_X12_operand_108 f_12_130 (by decide) (by decide) (ty_120 hS.1.1) ?_
            refine Tr.tp 146 (fx_120_39 hS.1.1) ?_
            refine Tr.iload_n (pc := 111) (i := 1) d_X12_operand_111 rfl rfl ?_
            refine Tr.iconst (pc := 112) d_X12_operand_112 (by decide) ?_
            refine Tr.iastS (pc := 113) (P := St Pm1 ws_X12_operand_120 as_X12_operand_120 M0) d_X12_operand_113 (ty_146 hS.1.1) (by omega) (by omega) (sa_146 hS (by decide) (by omega) (Pm1.of hS.1.2.2.2.2 (fun _ => rd_wb _ rfl) (fun _ => rd_wb _ rfl) (fun _ => rd_wb _ rfl) (fun _ => rd_wb _ rfl) (fun _ => rd_wb _ rfl) (fun _ => rd_wb _ rfl) (fun _ => rd_wb _ rfl) (fun _ => rd_wb _ rfl) (fun _ => rd_wb _ rfl) (fun _ => rd_wb _ rfl) (rd_wb _ rfl) (rd_wb _ rfl) (rd_wb _ rfl) (rd_wb _ rfl) (rd_wb _ rfl) (rd_wb _ rfl) (rd_wb _ rfl) (rd_wb _ rfl) (rd_wb _ rfl) (rd_wb _ rfl) (rd_wb _ rfl))) (fun M113 hS w113 => ?_)
            refine Tr.aload_n (pc := 114) (i := 0) d_X12_operand_114 rfl rfl ?_
            refine Tr.callV (pc := 115) (as := []) d_X12_operand_115 s_12_396 ok_X12_next rfl rfl (Nat.le_of_ble_eq_true rfl) (Nat.le_of_ble_eq_true rfl) (by decide) (ty_120 hS.1.1) ?_
            have kb115_120_3 : rd M113 120 3 = g120_3 := ((Wr.b w113 rfl).trans ((St.kp h104 (by decide) (by decide) (by decide)).trans ((St.kp h95 (by decide) (by decide) (by decide)).trans k87_120_3)))
            have kb115_120_5 : rd M113 120 5 = g120_5 := ((Wr.b w113 rfl).trans ((St.kp h104 (by decide) (by decide) (by decide)).trans ((St.kp h95 (by decide) (by decide) (by decide)).trans k87_120_5)))
            have kb115_120_8 : rd M113 120 8 = g120_8 := ((Wr.b w113 rfl).trans ((St.kp h104 (by decide) (by decide) (by decide)).trans ((St.kp h95 (by decide) (by decide) (by decide)).trans k87_120_8)))
            have kb115_9010_0 : tav M113 = g9010_0 := ((tav_of ((Wr.b w113 rfl).trans ((St.kp h104 (by decide) (by decide) (by decide)).trans ((St.kp h95 (by decide) (by decide) (by decide)).trans rfl))) ((Wr.b w113 rfl).trans ((St.kp h104 (by decide) (by decide) (by decide)).trans ((St.kp h95 (by decide) (by decide) (by decide)).trans rfl)))).trans k87_9010_0)
            refine Tr.imp (Tr.deep (by decide) (sp_X12_next_120 hS.1 )) ?_
            rintro M115 _ ⟨h115, rfl, z115_0, z115_1, z115_2, z115_3, z115_4, z115_5, z115_6⟩
            have hS := St.tr hS h115 (by decide) (by decide)
            obtain ⟨s115_120_3, es115_120_3⟩ : ∃ v, rd M115 120 3 = v := ⟨_, rfl⟩
            have bs115_120_3 : 0 ≤ s115_120_3 ∧ s115_120_3 ≤ 3 := by rw [← es115_120_3]; exact ir_120_3 hS.1.2.1
            obtain ⟨s115_120_4, es115_120_4⟩ : ∃ v, rd M115 120 4 = v := ⟨_, rfl⟩
            have bs115_120_4 : 0 ≤ s115_120_4 ∧ s115_120_4 ≤ 900 := by rw [← es115_120_4]; exact ir_120_4 hS.1.2.1
            obtain ⟨s115_120_5, es115_120_5⟩ : ∃ v, rd M115 120 5 = v := ⟨_, rfl⟩
            have bs115_120_5 : 0 ≤ s115_120_5 ∧ s115_120_5 ≤ 900 := by rw [← es115_120_5]; exact ir_120_5 hS.1.2.1
            obtain ⟨s115_120_7, es115_120_7⟩ : ∃ v, rd M115 120 7 = v := ⟨_, rfl⟩
            have bs115_120_7 : (-9223372036854775808) ≤ s115_120_7 ∧ s115_120_7 ≤ 9223372036854775807 := by rw [← es115_120_7]; exact ir_120_7 hS.1.2.1
            obtain ⟨s115_120_8, es115_120_8⟩ : ∃ v, rd M115 120 8 = v := ⟨_, rfl⟩
            have bs115_120_8 : 0 ≤ s115_120_8 ∧ s115_120_8 ≤ 5 := by rw [← es115_120_8]; exact ir_120_8 hS.1.2.1
            obtain ⟨s115_9010_0, es115_9010_0⟩ : ∃ v, tav M115 = v := ⟨_, rfl⟩
            have bs115_9010_0 : (-1) ≤ s115_9010_0 ∧ s115_9010_0 ≤ 1800 := by rw [← es115_9010_0]; exact (tav_b hS.1.2.1)
            replace z115_0 := hd_i z115_0
            replace z115_2 := hd_i z115_2
            replace z115_5 := hd_i z115_5
            replace z115_6 := hd_i z115_6
            refine Tr.sc [] rfl ?_
            refine Tr.iconst (pc := 118) d_X12_operand_118 (by decide) ?_
            have kr_120_3 : rd M115 120 3 = s115_120_3 := es115_120_3
            have kr_120_4 : rd M115 120 4 = s115_120_4 := es115_120_4
            have kr_120_5 : rd M115 120 5 = s115_120_5 := es115_120_5
            have kr_120_7 : rd M115 120 7 = s115_120_7 := es115_120_7
            have kr_120_8 : rd M115 120 8 = s115_120_8 := es115_120_8
            have kr_120_36 : rd M115 120 36 = s104_120_36 := ((St.kp h115 (by decide) (by decide) (by decide)).trans ((Wr.b w113 rfl).trans es104_120_36))
            have kr_120_43 : rd M115 120 43 = g120_43 := ((St.kp h115 (by decide) (by decide) (by decide)).trans ((Wr.b w113 rfl).trans ((St.kp h104 (by decide) (by decide) (by decide)).trans ((St.kp h95 (by decide) (by decide) (by decide)).trans k87_120_43))))
            have kr_120_44 : rd M115 120 44 = g120_44 := ((St.kp h115 (by decide) (by decide) (by decide)).trans ((Wr.b w113 rfl).trans ((St.kp h104 (by decide) (by decide) (by decide)).trans ((St.kp h95 (by decide) (by decide) (by decide)).trans k87_120_44))))
            have kr_120_46 : rd M115 120 46 = g120_46 := ((St.kp h115 (by decide) (by decide) (by decide)).trans ((Wr.b w113 rfl).trans ((St.kp h104 (by decide) (by decide) (by decide)).trans ((St.kp h95 (by decide) (by decide) (by decide)).trans k87_120_46))))
            have kr_120_50 : rd M115 120 50 = g120_50 := ((St.kp h115 (by decide) (by decide) (by decide)).trans ((Wr.b w113 rfl).trans ((St.kp h104 (by decide) (by decide) (by decide)).trans ((St.kp h95 (by decide) (by decide) (by decide)).trans k87_120_50))))
            have kr_136_1 : rd M115 136 1 = g136_1 := ((St.kp h115 (by decide) (by decide) (by decide)).trans ((Wr.b w113 rfl).trans ((St.kp h104 (by decide) (by decide) (by decide)).trans ((St.kp h95 (by decide) (by decide) (by decide)).trans k87_136_1))))
            have kr_9001_0 : nb2v M115 = g9001_0 := ((nb2v_of (fun j => ((St.ka h115 (by decide) (by decide) (by decide)).trans ((Wr.b w113 rfl).trans ((St.ka h104 (by decide) (by decide) (by decide)).trans ((St.ka h95 (by decide) (by decide) (by decide)).trans rfl))))) ((St.kp h115 (by decide) (by decide) (by decide)).trans ((Wr.b w113 rfl).trans ((St.kp h104 (by decide) (by decide) (by decide)).trans ((St.kp h95 (by decide) (by decide) (by decide)).trans rfl))))).trans k87_9001_0)
            have kr_9002_0 : n4v M115 = g9002_0 := ((n4v_of (fun j => ((St.ka h115 (by decide) (by decide) (by decide)).trans ((Wr.b w113 rfl).trans ((St.ka h104 (by decide) (by decide) (by decide)).trans ((St.ka h95 (by decide) (by decide) (by decide)).trans rfl))))) ((St.kp h115 (by decide) (by decide) (by decide)).trans ((Wr.b w113 rfl).trans ((St.kp h104 (by decide) (by decide) (by decide)).trans ((St.kp h95 (by decide) (by decide) (by decide)).trans rfl))))).trans k87_9002_0)
            have kr_9004_0 : Dv1 M115 = s104_9004_0 := ((Dv1_of (fun j => ((St.ka h115 (by decide) (by decide) (by decide)).trans ((Wr.b w113 rfl).trans rfl))) (fun j => ((St.ka h115 (by decide) (by decide) (by decide)).trans ((Wr.b w113 rfl).trans rfl))) ((St.kp h115 (by decide) (by decide) (by decide)).trans ((Wr.b w113 rfl).trans rfl)) ((St.kp h115 (by decide) (by decide) (by decide)).trans ((Wr.b w113 rfl).trans rfl))).trans es104_9004_0)
            have kr_9005_0 : fr0 M115 = g9005_0 := ((fr0_of (fun j => ((St.ka h115 (by decide) (by decide) (by decide)).trans ((Wr.b w113 rfl).trans ((St.ka h104 (by decide) (by decide) (by decide)).trans ((St.ka h95 (by decide) (by decide) (by decide)).trans rfl)))))).trans k87_9005_0)
            have kr_9010_0 : tav M115 = s115_9010_0 := es115_9010_0
            exact Tr.zret (pc := 119) d_X12_operand_119 rfl (by omega) ⟨hS, _, rfl, by omega, by omega, (by first | exact (hd_o z115_0) | exact (hd_o z115_0).elim (fun h1 => by omega) (fun h1 => by omega)), (by omega), (by first | exact (hd_o z115_2) | exact (hd_o z115_2).elim (fun h1 => by omega) (fun h1 => h1.elim (fun h1 => by omega) (fun h1 => by omega))), (by and_intros <;> omega), (by first | exact (hd_o z115_6) | exact (hd_o z115_6).elim (fun h1 => by omega) (fun h1 => by omega)), (by exact (hd_o z95_0).elim (fun h1 => (hd_o z115_5).elim (fun h2 => by omega) (fun h2 => by omega)) (fun h1 => by omega)), (by exact (hd_o z95_0).elim (fun h1 => (hd_o t87_0).elim (fun h2 => by omega) (fun h2 => by omega)) (fun h1 => by omega)), (by omega), (by omega), (by omega), (by omega), (by exact (hd_o z95_0).elim (fun h1 => (hd_o t87_0).elim (fun h2 => by omega) (fun h2 => by omega)) (fun h1 => by omega)), (by exact (hd_o z104_1).elim (fun h1 => by omega) (fun h1 => h1.elim (fun h1 => by omega) (fun h1 => by omega)))⟩
      refine Tr.if_eq (pc := 68) (tgt := 87) d_X12_operand_68 rfl (fun c68 => ?_) (fun c68 => ?_)
      · refine Tr.pick [0, 1, 2] (ls2 := [(0, (2, 120)), (1, (0, (g120_43 - 1))), (2, (0, q33_0))]) rfl ?_
        exact J87 _ hS ((Wr.b w66 rfl).trans k60_120_3) ((Wr.b w66 rfl).trans k60_120_36) ((Wr.b w66 rfl).trans k60_120_4) ((Wr.b w66 rfl).trans k60_120_43) ((Wr.b w66 rfl).trans k60_120_44) ((Wr.b w66 rfl).trans k60_120_46) ((Wr.b w66 rfl).trans k60_120_5) ((Wr.b w66 rfl).trans k60_120_50) ((Wr.b w66 rfl).trans k60_120_6) ((Wr.b w66 rfl).trans k60_120_7) ((Wr.b w66 rfl).trans k60_120_8) ((Wr.b w66 rfl).trans k60_136_1) ((Wr.b w66 rfl).trans k60_145_g120_431n1) w66.1 ((nb2v_of (fun j => ((Wr.b w66 rfl).trans rfl)) ((Wr.b w66 rfl).trans rfl)).trans k60_9001_0) ((n4v_of (fun j => ((Wr.b w66 rfl).trans rfl)) ((Wr.b w66 rfl).trans rfl)).trans k60_9002_0) ((Dv1_of (fun j => ((Wr.b w66 rfl).trans rfl)) (fun j => ((Wr.b w66 rfl).trans rfl)) ((Wr.b w66 rfl).trans rfl) ((Wr.b w66 rfl).trans rfl)).trans k60_9004_0) ((fr0_of (fun j => ((Wr.b w66 rfl).trans rfl))).trans k60_9005_0) ((tav_of ((Wr.b w66 rfl).trans rfl) ((Wr.b w66 rfl).trans rfl)).trans k60_9010_0) (by first | exact (hd_o t60_0) | exact (hd_o t60_0).elim (fun h1 => by omega) (fun h1 => by omega)) (by omega) (by first | exact (hd_o t60_2) | exact (hd_o t60_2).elim (fun h1 => by omega) (fun h1 => h1.elim (fun h1 => by omega) (fun h1 => by omega))) (by and_intros <;> omega) (by first | exact (hd_o t60_4) | exact (hd_o t60_4).elim (fun h1 => by omega) (fun h1 => by omega))
      · have c68b : 1 ≤ q33_0 ∧ q33_0 ≤ 1 := by omega
        replace c68 := hd_i c68
        refine Tr.aload_n (pc := 71) (i := 0) d_X12_operand_71 rfl rfl ?_
        refine Tr.bipush (pc := 72) d_X12_operand_72 rfl (by decide) ?_
        refine Tr.callV (pc := 74) (as := [_]) d_X12_operand_74 s_12_393 ok_X12_isSign rfl rfl (Nat.le_of_ble_eq_true rfl) (Nat.le_of_ble_eq_true rfl) (by decide) (ty_120 hS.1.1) ?_
        refine Tr.imp (Tr.deep (by decide) (sp_X12_isSign_120 hS.1.wk 91 (by omega))) ?_
        rintro M74 _ ⟨h74, r74, rfl, lr74, ur74, z74_0⟩
        have h74 := St.rn h74 (Pm1.of hS.1.2.2.2.2 (fun _ => St.ka h74 (by decide) (by decide) (by decide)) (fun _ => St.ka h74 (by decide) (by decide) (by decide)) (fun _ => St.ka h74 (by decide) (by decide) (by decide)) (fun _ => St.ka h74 (by decide) (by decide) (by decide)) (fun _ => St.ka h74 (by decide) (by decide) (by decide)) (fun _ => St.ka h74 (by decide) (by decide) (by decide)) (fun _ => St.ka h74 (by decide) (by decide) (by decide)) (fun _ => St.ka h74 (by decide) (by decide) (by decide)) (fun _ => St.ka h74 (by decide) (by decide) (by decide)) (fun _ => St.ka h74 (by decide) (by decide) (by decide)) (St.kp h74 (by decide) (by decide) (by decide)) (St.kp h74 (by decide) (by decide) (by decide)) (St.kp h74 (by decide) (by decide) (by decide)) (St.kp h74 (by decide) (by decide) (by decide)) (St.kp h74 (by decide) (by decide) (by decide)) (St.kp h74 (by decide) (by decide) (by decide)) (St.kp h74 (by decide) (by decide) (by decide)) (St.kp h74 (by decide) (by decide) (by decide)) (St.kp h74 (by decide) (by decide) (by decide)) (St.kp h74 (by decide) (by decide) (by decide)) (St.kp h74 (by decide) (by decide) (by decide)))
        have hS := St.tr hS h74 (by decide) (by decide)
        have ka74_120_3 : rd M74 120 3 = g120_3 := ((St.kp h74 (by decide) (by decide) (by decide)).trans ((Wr.b w66 rfl).trans k60_120_3))
        have ka74_120_6 : rd M74 120 6 = g120_6 := ((St.kp h74 (by decide) (by decide) (by decide)).trans ((Wr.b w66 rfl).trans k60_120_6))
        replace z74_0 := hd_i z74_0
        refine Tr.sc [(0, r74)] rfl ?_
        refine Tr.if_eq (pc := 77) (tgt := 87) d_X12_operand_77 rfl (fun c77 => ?_) (fun c77 => ?_)
        · refine Tr.pick [0, 1, 2] (ls2 := [(0, (2, 120)), (1, (0, (g120_43 - 1))), (2, (0, q33_0))]) rfl ?_
          exact J87 _ hS ((St.kp h74 (by decide) (by decide) (by decide)).trans ((Wr.b w66 rfl).trans k60_120_3)) ((St.kp h74 (by decide) (by decide) (by decide)).trans ((Wr.b w66 rfl).trans k60_120_36)) ((St.kp h74 (by decide) (by decide) (by decide)).trans ((Wr.b w66 rfl).trans k60_120_4)) ((St.kp h74 (by decide) (by decide) (by decide)).trans ((Wr.b w66 rfl).trans k60_120_43)) ((St.kp h74 (by decide) (by decide) (by decide)).trans ((Wr.b w66 rfl).trans k60_120_44)) ((St.kp h74 (by decide) (by decide) (by decide)).trans ((Wr.b w66 rfl).trans k60_120_46)) ((St.kp h74 (by decide) (by decide) (by decide)).trans ((Wr.b w66 rfl).trans k60_120_5)) ((St.kp h74 (by decide) (by decide) (by decide)).trans ((Wr.b w66 rfl).trans k60_120_50)) ((St.kp h74 (by decide) (by decide) (by decide)).trans ((Wr.b w66 rfl).trans k60_120_6)) ((St.kp h74 (by decide) (by decide) (by decide)).trans ((Wr.b w66 rfl).trans k60_120_7)) ((St.kp h74 (by decide) (by decide) (by decide)).trans ((Wr.b w66 rfl).trans k60_120_8)) ((St.kp h74 (by decide) (by decide) (by decide)).trans ((Wr.b w66 rfl).trans k60_136_1)) ((St.ka h74 (by decide) (by decide) (by decide)).trans ((Wr.b w66 rfl).trans k60_145_g120_431n1)) ((St.ka h74 (by decide) (by decide) (by decide)).trans w66.1) ((nb2v_of (fun j => ((St.ka h74 (by decide) (by decide) (by decide)).trans ((Wr.b w66 rfl).trans rfl))) ((St.kp h74 (by decide) (by decide) (by decide)).trans ((Wr.b w66 rfl).trans rfl))).trans k60_9001_0) ((n4v_of (fun j => ((St.ka h74 (by decide) (by decide) (by decide)).trans ((Wr.b w66 rfl).trans rfl))) ((St.kp h74 (by decide) (by decide) (by decide)).trans ((Wr.b w66 rfl).trans rfl))).trans k60_9002_0) ((Dv1_of (fun j => ((St.ka h74 (by decide) (by decide) (by decide)).trans ((Wr.b w66 rfl).trans rfl))) (fun j => ((St.ka h74 (by decide) (by decide) (by decide)).trans ((Wr.b w66 rfl).trans rfl))) ((St.kp h74 (by decide) (by decide) (by decide)).trans ((Wr.b w66 rfl).trans rfl)) ((St.kp h74 (by decide) (by decide) (by decide)).trans ((Wr.b w66 rfl).trans rfl))).trans k60_9004_0) ((fr0_of (fun j => ((St.ka h74 (by decide) (by decide) (by decide)).trans ((Wr.b w66 rfl).trans rfl)))).trans k60_9005_0) ((tav_of ((St.kp h74 (by decide) (by decide) (by decide)).trans ((Wr.b w66 rfl).trans rfl)) ((St.kp h74 (by decide) (by decide) (by decide)).trans ((Wr.b w66 rfl).trans rfl))).trans k60_9010_0) (by first | exact (hd_o t60_0) | exact (hd_o t60_0).elim (fun h1 => by omega) (fun h1 => by omega)) (by omega) (by first | exact (hd_o t60_2) | exact (hd_o t60_2).elim (fun h1 => by omega) (fun h1 => h1.elim (fun h1 => by omega) (fun h1 => by omega))) (by and_intros <;> omega) (by first | exact (hd_o t60_4) | exact (hd_o t60_4).elim (fun h1 => by omega) (fun h1 => by omega))
        · have c77b : 1 ≤ r74 ∧ r74 ≤ 1 := by omega
          replace c77 := hd_i c77
          refine Tr.aload_n (pc := 80) (i := 0) d_X12_operand_80 rfl rfl ?_
          refine Tr.iconst (pc := 81) d_X12_operand_81 (by decide) ?_
          refine Tr.callV (pc := 82) (as := [_]) d_X12_operand_82 s_12_490 ok_X12_opens rfl rfl (Nat.le_of_ble_eq_true rfl) (Nat.le_of_ble_eq_true rfl) (by decide) (ty_120 hS.1.1) ?_
          have kb82_120_3 : rd M74 120 3 = g120_3 := ((St.kp h74 (by decide) (by decide) (by decide)).trans ((Wr.b w66 rfl).trans k60_120_3))
          have kb82_120_4 : rd M74 120 4 = g120_4 := ((St.kp h74 (by decide) (by decide) (by decide)).trans ((Wr.b w66 rfl).trans k60_120_4))
          have kb82_120_5 : rd M74 120 5 = g120_5 := ((St.kp h74 (by decide) (by decide) (by decide)).trans ((Wr.b w66 rfl).trans k60_120_5))
          have kb82_120_7 : rd M74 120 7 = g120_7 := ((St.kp h74 (by decide) (by decide) (by decide)).trans ((Wr.b w66 rfl).trans k60_120_7))
          have kb82_120_8 : rd M74 120 8 = g120_8 := ((St.kp h74 (by decide) (by decide) (by decide)).trans ((Wr.b w66 rfl).trans k60_120_8))
          have kb82_120_43 : rd M74 120 43 = g120_43 := ((St.kp h74 (by decide) (by decide) (by decide)).trans ((Wr.b w66 rfl).trans k60_120_43))
          have kb82_120_44 : rd M74 120 44 = g120_44 := ((St.kp h74 (by decide) (by decide) (by decide)).trans ((Wr.b w66 rfl).trans k60_120_44))
          have kb82_9002_0 : n4v M74 = g9002_0 := ((n4v_of (fun j => ((St.ka h74 (by decide) (by decide) (by decide)).trans ((Wr.b w66 rfl).trans rfl))) ((St.kp h74 (by decide) (by decide) (by decide)).trans ((Wr.b w66 rfl).trans rfl))).trans k60_9002_0)
          have kb82_9005_0 : fr0 M74 = g9005_0 := ((fr0_of (fun j => ((St.ka h74 (by decide) (by decide) (by decide)).trans ((Wr.b w66 rfl).trans rfl)))).trans k60_9005_0)
          have kb82_9010_0 : tav M74 = g9010_0 := ((tav_of ((St.kp h74 (by decide) (by decide) (by decide)).trans ((Wr.b w66 rfl).trans rfl)) ((St.kp h74 (by decide) (by decide) (by decide)).trans ((Wr.b w66 rfl).trans rfl))).trans k60_9010_0)
          refine Tr.imp (Tr.deep (by decide) (sp_X12_opens_120 hS.1 5 (by omega) (by first | exact (hd_o t60_0) | exact (hd_o t60_0).elim (fun h1 => by omega) (fun h1 => by omega)) (by omega) (by first | exact (hd_o t60_2) | exact (hd_o t60_2).elim (fun h1 => by omega) (fun h1 => h1.elim (fun h1 => by omega) (fun h1 => by omega))) (by and_intros <;> omega) (by exact (hd_o z74_0).elim (fun h1 => by omega) (fun h1 => by omega)) (by omega) (by omega))) ?_
          rintro M82 _ ⟨h82, rfl, z82_0, z82_1, z82_2, z82_3, z82_4, z82_5, z82_6, z82_7, z82_8, z82_9, z82_10⟩
          have hS := St.tr hS h82 (by decide) (by decide)
          obtain ⟨s82_120_3, es82_120_3⟩ : ∃ v, rd M82 120 3 = v := ⟨_, rfl⟩
          have bs82_120_3 : 0 ≤ s82_120_3 ∧ s82_120_3 ≤ 3 := by rw [← es82_120_3]; exact ir_120_3 hS.1.2.1
          obtain ⟨s82_120_4, es82_120_4⟩ : ∃ v, rd M82 120 4 = v := ⟨_, rfl⟩
          have bs82_120_4 : 0 ≤ s82_120_4 ∧ s82_120_4 ≤ 900 := by rw [← es82_120_4]; exact ir_120_4 hS.1.2.1
          obtain ⟨s82_120_5, es82_120_5⟩ : ∃ v, rd M82 120 5 = v := ⟨_, rfl⟩
          have bs82_120_5 : 0 ≤ s82_120_5 ∧ s82_120_5 ≤ 900 := by rw [← es82_120_5]; exact ir_120_5 hS.1.2.1
          obtain ⟨s82_120_7, es82_120_7⟩ : ∃ v, rd M82 120 7 = v := ⟨_, rfl⟩
          have bs82_120_7 : (-9223372036854775808) ≤ s82_120_7 ∧ s82_120_7 ≤ 9223372036854775807 := by rw [← es82_120_7]; exact ir_120_7 hS.1.2.1
          obtain ⟨s82_120_8, es82_120_8⟩ : ∃ v, rd M82 120 8 = v := ⟨_, rfl⟩
          have bs82_120_8 : 0 ≤ s82_120_8 ∧ s82_120_8 ≤ 5 := by rw [← es82_120_8]; exact ir_120_8 hS.1.2.1
          obtain ⟨s82_120_43, es82_120_43⟩ : ∃ v, rd M82 120 43 = v := ⟨_, rfl⟩
          have bs82_120_43 : 0 ≤ s82_120_43 ∧ s82_120_43 ≤ 20 := by rw [← es82_120_43]; exact ir_120_43 hS.1.2.1
          obtain ⟨s82_120_44, es82_120_44⟩ : ∃ v, rd M82 120 44 = v := ⟨_, rfl⟩
          have bs82_120_44 : 0 ≤ s82_120_44 ∧ s82_120_44 ≤ 8 := by rw [← es82_120_44]; exact ir_120_44 hS.1.2.1
          obtain ⟨s82_9002_0, es82_9002_0⟩ : ∃ v, n4v M82 = v := ⟨_, rfl⟩
          have bs82_9002_0 : 0 ≤ s82_9002_0 ∧ s82_9002_0 ≤ 20 := by rw [← es82_9002_0]; exact (n4v_b hS.1.2.1)
          obtain ⟨s82_9005_0, es82_9005_0⟩ : ∃ v, fr0 M82 = v := ⟨_, rfl⟩
          have bs82_9005_0 : 0 ≤ s82_9005_0 ∧ s82_9005_0 ≤ 5 := by rw [← es82_9005_0]; exact (fr0_b hS.1.2.1)
          obtain ⟨s82_9010_0, es82_9010_0⟩ : ∃ v, tav M82 = v := ⟨_, rfl⟩
          have bs82_9010_0 : (-1) ≤ s82_9010_0 ∧ s82_9010_0 ≤ 1800 := by rw [← es82_9010_0]; exact (tav_b hS.1.2.1)
          replace z82_0 := hd_i z82_0
          replace z82_2 := hd_i z82_2
          replace z82_4 := hd_i z82_4
          replace z82_5 := hd_i z82_5
          replace z82_7 := hd_i z82_7
          replace z82_10 := hd_i z82_10
          refine Tr.sc [] rfl ?_
          refine Tr.iconst (pc := 85) d_X12_operand_85 (by decide) ?_
          have kr_120_3 : rd M82 120 3 = s82_120_3 := es82_120_3
          have kr_120_4 : rd M82 120 4 = s82_120_4 := es82_120_4
          have kr_120_5 : rd M82 120 5 = s82_120_5 := es82_120_5
          have kr_120_7 : rd M82 120 7 = s82_120_7 := es82_120_7
          have kr_120_8 : rd M82 120 8 = s82_120_8 := es82_120_8
          have kr_120_36 : rd M82 120 36 = g120_36 := ((St.kp h82 (by decide) (by decide) (by decide)).trans ((St.kp h74 (by decide) (by decide) (by decide)).trans ((Wr.b w66 rfl).trans k60_120_36)))
          have kr_120_43 : rd M82 120 43 = s82_120_43 := es82_120_43
          have kr_120_44 : rd M82 120 44 = s82_120_44 := es82_120_44
          have kr_120_46 : rd M82 120 46 = g120_46 := ((St.kp h82 (by decide) (by decide) (by decide)).trans ((St.kp h74 (by decide) (by decide) (by decide)).trans ((Wr.b w66 rfl).trans k60_120_46)))
          have kr_120_50 : rd M82 120 50 = g120_50 := ((St.kp h82 (by decide) (by decide) (by decide)).trans ((St.kp h74 (by decide) (by decide) (by decide)).trans ((Wr.b w66 rfl).trans k60_120_50)))
          have kr_136_1 : rd M82 136 1 = g136_1 := ((St.kp h82 (by decide) (by decide) (by decide)).trans ((St.kp h74 (by decide) (by decide) (by decide)).trans ((Wr.b w66 rfl).trans k60_136_1)))
          have kr_9001_0 : nb2v M82 = g9001_0 := ((nb2v_of (fun j => ((St.ka h82 (by decide) (by decide) (by decide)).trans ((St.ka h74 (by decide) (by decide) (by decide)).trans ((Wr.b w66 rfl).trans rfl)))) ((St.kp h82 (by decide) (by decide) (by decide)).trans ((St.kp h74 (by decide) (by decide) (by decide)).trans ((Wr.b w66 rfl).trans rfl)))).trans k60_9001_0)
          have kr_9002_0 : n4v M82 = s82_9002_0 := es82_9002_0
          have kr_9004_0 : Dv1 M82 = g9004_0 := ((Dv1_of (fun j => ((St.ka h82 (by decide) (by decide) (by decide)).trans ((St.ka h74 (by decide) (by decide) (by decide)).trans ((Wr.b w66 rfl).trans rfl)))) (fun j => ((St.ka h82 (by decide) (by decide) (by decide)).trans ((St.ka h74 (by decide) (by decide) (by decide)).trans ((Wr.b w66 rfl).trans rfl)))) ((St.kp h82 (by decide) (by decide) (by decide)).trans ((St.kp h74 (by decide) (by decide) (by decide)).trans ((Wr.b w66 rfl).trans rfl))) ((St.kp h82 (by decide) (by decide) (by decide)).trans ((St.kp h74 (by decide) (by decide) (by decide)).trans ((Wr.b w66 rfl).trans rfl)))).trans k60_9004_0)
          have kr_9005_0 : fr0 M82 = s82_9005_0 := es82_9005_0
          have kr_9010_0 : tav M82 = s82_9010_0 := es82_9010_0
          exact Tr.zret (pc := 86) d_X12_operand_86 rfl (by omega) ⟨hS, _, rfl, by omega, by omega, (by first | exact (hd_o z82_0) | exact (hd_o z82_0).elim (fun h1 => by omega) (fun h1 => by omega)), (by omega), (by first | exact (hd_o z82_2) | exact (hd_o z82_2).elim (fun h1 => by omega) (fun h1 => h1.elim (fun h1 => by omega) (fun h1 => by omega))), (by and_intros <;> omega), (by first | exact (hd_o z82_4) | exact (hd_o z82_4).elim (fun h1 => by omega) (fun h1 => by omega)), (by first | exact (hd_o z82_5) | exact (hd_o z82_5).elim (fun h1 => by omega) (fun h1 => by omega)), (by exact (hd_o z82_7).elim (fun h1 => by omega) (fun h1 => (hd_o z74_0).elim (fun h2 => (hd_o t60_0).elim (fun h3 => by omega) (fun h3 => by omega)) (fun h2 => by omega))), (by omega), (by omega), (by omega), (by omega), (by omega), (by omega)⟩
    refine Tr.if_eq (pc := 35) (tgt := 60) d_X12_operand_35 rfl (fun c35 => ?_) (fun c35 => ?_)
    · refine Tr.pick [1, 2, 0] (ls2 := [(0, (2, 120)), (1, (0, (g120_43 - 1))), (2, (0, q33_0))]) rfl ?_
      exact J60 _ hS k33_120_3 k33_120_36 k33_120_4 k33_120_43 k33_120_44 k33_120_46 k33_120_5 k33_120_50 k33_120_6 k33_120_7 k33_120_8 k33_136_1 k33_145_g120_431n1 k33_9001_0 k33_9002_0 k33_9004_0 k33_9005_0 k33_9010_0 (by first | exact (hd_o t33_0) | exact (hd_o t33_0).elim (fun h1 => by omega) (fun h1 => by omega)) (by omega) (by first | exact (hd_o t33_2) | exact (hd_o t33_2).elim (fun h1 => by omega) (fun h1 => h1.elim (fun h1 => by omega) (fun h1 => by omega))) (by and_intros <;> omega) (by first | exact (hd_o t33_4) | exact (hd_o t33_4).elim (fun h1 => by omega) (fun h1 => by omega))
    · have c35b : 1 ≤ q33_0 ∧ q33_0 ≤ 1 := by omega
      replace c35 := hd_i c35
      refine Tr.aload_n (pc := 38) (i := 0) d_X12_operand_38 rfl rfl ?_
      refine Tr.ldc2 (pc := 39) d_X12_operand_39 kl_12_441 (by decide) ?_
      refine Tr.callV (pc := 42) (as := [_]) d_X12_operand_42 s_12_484 ok_X12_isWord rfl rfl (Nat.le_of_ble_eq_true rfl) (Nat.le_of_ble_eq_true rfl) (by decide) (ty_120 hS.1.1) ?_
      refine Tr.imp (Tr.deep (by decide) (sp_X12_isWord_120 hS.1.wk 7237492 (by omega))) ?_
      rintro M42 _ ⟨h42, r42, rfl, lr42, ur42, z42_0⟩
      have h42 := St.rn h42 (Pm1.of hS.1.2.2.2.2 (fun _ => St.ka h42 (by decide) (by decide) (by decide)) (fun _ => St.ka h42 (by decide) (by decide) (by decide)) (fun _ => St.ka h42 (by decide) (by decide) (by decide)) (fun _ => St.ka h42 (by decide) (by decide) (by decide)) (fun _ => St.ka h42 (by decide) (by decide) (by decide)) (fun _ => St.ka h42 (by decide) (by decide) (by decide)) (fun _ => St.ka h42 (by decide) (by decide) (by decide)) (fun _ => St.ka h42 (by decide) (by decide) (by decide)) (fun _ => St.ka h42 (by decide) (by decide) (by decide)) (fun _ => St.ka h42 (by decide) (by decide) (by decide)) (St.kp h42 (by decide) (by decide) (by decide)) (St.kp h42 (by decide) (by decide) (by decide)) (St.kp h42 (by decide) (by decide) (by decide)) (St.kp h42 (by decide) (by decide) (by decide)) (St.kp h42 (by decide) (by decide) (by decide)) (St.kp h42 (by decide) (by decide) (by decide)) (St.kp h42 (by decide) (by decide) (by decide)) (St.kp h42 (by decide) (by decide) (by decide)) (St.kp h42 (by decide) (by decide) (by decide)) (St.kp h42 (by decide) (by decide) (by decide)) (St.kp h42 (by decide) (by decide) (by decide)))
      have hS := St.tr hS h42 (by decide) (by decide)
      have ka42_120_3 : rd M42 120 3 = g120_3 := ((St.kp h42 (by decide) (by decide) (by decide)).trans k33_120_3)
      have ka42_120_7 : rd M42 120 7 = g120_7 := ((St.kp h42 (by decide) (by decide) (by decide)).trans k33_120_7)
      replace z42_0 := hd_i z42_0
      refine Tr.sc [(0, r42)] rfl ?_
      refine Tr.if_eq (pc := 45) (tgt := 60) d_X12_operand_45 rfl (fun c45 => ?_) (fun c45 => ?_)
      · refine Tr.pick [1, 2, 0] (ls2 := [(0, (2, 120)), (1, (0, (g120_43 - 1))), (2, (0, q33_0))]) rfl ?_
        exact J60 _ hS ((St.kp h42 (by decide) (by decide) (by decide)).trans k33_120_3) ((St.kp h42 (by decide) (by decide) (by decide)).trans k33_120_36) ((St.kp h42 (by decide) (by decide) (by decide)).trans k33_120_4) ((St.kp h42 (by decide) (by decide) (by decide)).trans k33_120_43) ((St.kp h42 (by decide) (by decide) (by decide)).trans k33_120_44) ((St.kp h42 (by decide) (by decide) (by decide)).trans k33_120_46) ((St.kp h42 (by decide) (by decide) (by decide)).trans k33_120_5) ((St.kp h42 (by decide) (by decide) (by decide)).trans k33_120_50) ((St.kp h42 (by decide) (by decide) (by decide)).trans k33_120_6) ((St.kp h42 (by decide) (by decide) (by decide)).trans k33_120_7) ((St.kp h42 (by decide) (by decide) (by decide)).trans k33_120_8) ((St.kp h42 (by decide) (by decide) (by decide)).trans k33_136_1) ((St.ka h42 (by decide) (by decide) (by decide)).trans k33_145_g120_431n1) ((nb2v_of (fun j => ((St.ka h42 (by decide) (by decide) (by decide)).trans rfl)) ((St.kp h42 (by decide) (by decide) (by decide)).trans rfl)).trans k33_9001_0) ((n4v_of (fun j => ((St.ka h42 (by decide) (by decide) (by decide)).trans rfl)) ((St.kp h42 (by decide) (by decide) (by decide)).trans rfl)).trans k33_9002_0) ((Dv1_of (fun j => ((St.ka h42 (by decide) (by decide) (by decide)).trans rfl)) (fun j => ((St.ka h42 (by decide) (by decide) (by decide)).trans rfl)) ((St.kp h42 (by decide) (by decide) (by decide)).trans rfl) ((St.kp h42 (by decide) (by decide) (by decide)).trans rfl)).trans k33_9004_0) ((fr0_of (fun j => ((St.ka h42 (by decide) (by decide) (by decide)).trans rfl))).trans k33_9005_0) ((tav_of ((St.kp h42 (by decide) (by decide) (by decide)).trans rfl) ((St.kp h42 (by decide) (by decide) (by decide)).trans rfl)).trans k33_9010_0) (by first | exact (hd_o t33_0) | exact (hd_o t33_0).elim (fun h1 => by omega) (fun h1 => by omega)) (by omega) (by first | exact (hd_o t33_2) | exact (hd_o t33_2).elim (fun h1 => by omega) (fun h1 => h1.elim (fun h1 => by omega) (fun h1 => by omega))) (by and_intros <;> omega) (by first | exact (hd_o t33_4) | exact (hd_o t33_4).elim (fun h1 => by omega) (fun h1 => by omega))
      · have c45b : 1 ≤ r42 ∧ r42 ≤ 1 := by omega
        replace c45 := hd_i c45
        refine Tr.aload_n (pc := 48) (i := 0) d_X12_operand_48 rfl rfl ?_
        refine Tr.bipush (pc := 49) d_X12_operand_49 rfl (by decide) ?_
        refine Tr.callV (pc := 51) (as := [_]) d_X12_operand_51 s_12_487 ok_X12_holdsBack rfl rfl (Nat.le_of_ble_eq_true rfl) (Nat.le_of_ble_eq_true rfl) (by decide) (ty_120 hS.1.1) ?_
        have kb51_120_46 : rd M42 120 46 = g120_46 := ((St.kp h42 (by decide) (by decide) (by decide)).trans k33_120_46)
        have kb51_9001_0 : nb2v M42 = g9001_0 := ((nb2v_of (fun j => ((St.ka h42 (by decide) (by decide) (by decide)).trans rfl)) ((St.kp h42 (by decide) (by decide) (by decide)).trans rfl)).trans k33_9001_0)
        refine Tr.imp (Tr.deep (by decide) (sp_X12_holdsBack_120 hS.1 18 (by omega) (by omega))) ?_
        rintro M51 _ ⟨h51, rfl, z51_0, z51_1⟩
        have hS := St.tr hS h51 (by decide) (by decide)
        obtain ⟨s51_120_46, es51_120_46⟩ : ∃ v, rd M51 120 46 = v := ⟨_, rfl⟩
        have bs51_120_46 : 0 ≤ s51_120_46 ∧ s51_120_46 ≤ 500 := by rw [← es51_120_46]; exact ir_120_46 hS.1.2.1
        obtain ⟨s51_9001_0, es51_9001_0⟩ : ∃ v, nb2v M51 = v := ⟨_, rfl⟩
        have bs51_9001_0 : 0 ≤ s51_9001_0 ∧ s51_9001_0 ≤ 1000000 := by rw [← es51_9001_0]; exact (nb2v_b hS.1.2.1)
        replace z51_1 := hd_i z51_1
        refine Tr.sc [] rfl ?_
        refine Tr.aload_n (pc := 54) (i := 0) d_X12_operand_54 rfl rfl ?_
        refine Tr.callV (pc := 55) (as := []) d_X12_operand_55 s_12_396 ok_X12_next rfl rfl (Nat.le_of_ble_eq_true rfl) (Nat.le_of_ble_eq_true rfl) (by decide) (ty_120 hS.1.1) ?_
        have kb55_120_3 : rd M51 120 3 = g120_3 := ((St.kp h51 (by decide) (by decide) (by decide)).trans ((St.kp h42 (by decide) (by decide) (by decide)).trans k33_120_3))
        have kb55_120_5 : rd M51 120 5 = g120_5 := ((St.kp h51 (by decide) (by decide) (by decide)).trans ((St.kp h42 (by decide) (by decide) (by decide)).trans k33_120_5))
        have kb55_120_8 : rd M51 120 8 = g120_8 := ((St.kp h51 (by decide) (by decide) (by decide)).trans ((St.kp h42 (by decide) (by decide) (by decide)).trans k33_120_8))
        have kb55_9010_0 : tav M51 = g9010_0 := ((tav_of ((St.kp h51 (by decide) (by decide) (by decide)).trans ((St.kp h42 (by decide) (by decide) (by decide)).trans rfl)) ((St.kp h51 (by decide) (by decide) (by decide)).trans ((St.kp h42 (by decide) (by decide) (by decide)).trans rfl))).trans k33_9010_0)
        refine Tr.imp (Tr.deep (by decide) (sp_X12_next_120 hS.1 )) ?_
        rintro M55 _ ⟨h55, rfl, z55_0, z55_1, z55_2, z55_3, z55_4, z55_5, z55_6⟩
        have hS := St.tr hS h55 (by decide) (by decide)
        obtain ⟨s55_120_3, es55_120_3⟩ : ∃ v, rd M55 120 3 = v := ⟨_, rfl⟩
        have bs55_120_3 : 0 ≤ s55_120_3 ∧ s55_120_3 ≤ 3 := by rw [← es55_120_3]; exact ir_120_3 hS.1.2.1
        obtain ⟨s55_120_4, es55_120_4⟩ : ∃ v, rd M55 120 4 = v := ⟨_, rfl⟩
        have bs55_120_4 : 0 ≤ s55_120_4 ∧ s55_120_4 ≤ 900 := by rw [← es55_120_4]; exact ir_120_4 hS.1.2.1
        obtain ⟨s55_120_5, es55_120_5⟩ : ∃ v, rd M55 120 5 = v := ⟨_, rfl⟩
        have bs55_120_5 : 0 ≤ s55_120_5 ∧ s55_120_5 ≤ 900 := by rw [← es55_120_5]; exact ir_120_5 hS.1.2.1
        obtain ⟨s55_120_7, es55_120_7⟩ : ∃ v, rd M55 120 7 = v := ⟨_, rfl⟩
        have bs55_120_7 : (-9223372036854775808) ≤ s55_120_7 ∧ s55_120_7 ≤ 9223372036854775807 := by rw [← es55_120_7]; exact ir_120_7 hS.1.2.1
        obtain ⟨s55_120_8, es55_120_8⟩ : ∃ v, rd M55 120 8 = v := ⟨_, rfl⟩
        have bs55_120_8 : 0 ≤ s55_120_8 ∧ s55_120_8 ≤ 5 := by rw [← es55_120_8]; exact ir_120_8 hS.1.2.1
        obtain ⟨s55_9010_0, es55_9010_0⟩ : ∃ v, tav M55 = v := ⟨_, rfl⟩
        have bs55_9010_0 : (-1) ≤ s55_9010_0 ∧ s55_9010_0 ≤ 1800 := by rw [← es55_9010_0]; exact (tav_b hS.1.2.1)
        replace z55_0 := hd_i z55_0
        replace z55_2 := hd_i z55_2
        replace z55_5 := hd_i z55_5
        replace z55_6 := hd_i z55_6
        refine Tr.sc [] rfl ?_
        refine Tr.iconst (pc := 58) d_X12_operand_58 (by decide) ?_
        have kr_120_3 : rd M55 120 3 = s55_120_3 := es55_120_3
        have kr_120_4 : rd M55 120 4 = s55_120_4 := es55_120_4
        have kr_120_5 : rd M55 120 5 = s55_120_5 := es55_120_5
        have kr_120_7 : rd M55 120 7 = s55_120_7 := es55_120_7
        have kr_120_8 : rd M55 120 8 = s55_120_8 := es55_120_8
        have kr_120_36 : rd M55 120 36 = g120_36 := ((St.kp h55 (by decide) (by decide) (by decide)).trans ((St.kp h51 (by decide) (by decide) (by decide)).trans ((St.kp h42 (by decide) (by decide) (by decide)).trans k33_120_36)))
        have kr_120_43 : rd M55 120 43 = g120_43 := ((St.kp h55 (by decide) (by decide) (by decide)).trans ((St.kp h51 (by decide) (by decide) (by decide)).trans ((St.kp h42 (by decide) (by decide) (by decide)).trans k33_120_43)))
        have kr_120_44 : rd M55 120 44 = g120_44 := ((St.kp h55 (by decide) (by decide) (by decide)).trans ((St.kp h51 (by decide) (by decide) (by decide)).trans ((St.kp h42 (by decide) (by decide) (by decide)).trans k33_120_44)))
        have kr_120_46 : rd M55 120 46 = s51_120_46 := ((St.kp h55 (by decide) (by decide) (by decide)).trans es51_120_46)
        have kr_120_50 : rd M55 120 50 = g120_50 := ((St.kp h55 (by decide) (by decide) (by decide)).trans ((St.kp h51 (by decide) (by decide) (by decide)).trans ((St.kp h42 (by decide) (by decide) (by decide)).trans k33_120_50)))
        have kr_136_1 : rd M55 136 1 = g136_1 := ((St.kp h55 (by decide) (by decide) (by decide)).trans ((St.kp h51 (by decide) (by decide) (by decide)).trans ((St.kp h42 (by decide) (by decide) (by decide)).trans k33_136_1)))
        have kr_9001_0 : nb2v M55 = s51_9001_0 := ((nb2v_of (fun j => ((St.ka h55 (by decide) (by decide) (by decide)).trans rfl)) ((St.kp h55 (by decide) (by decide) (by decide)).trans rfl)).trans es51_9001_0)
        have kr_9002_0 : n4v M55 = g9002_0 := ((n4v_of (fun j => ((St.ka h55 (by decide) (by decide) (by decide)).trans ((St.ka h51 (by decide) (by decide) (by decide)).trans ((St.ka h42 (by decide) (by decide) (by decide)).trans rfl)))) ((St.kp h55 (by decide) (by decide) (by decide)).trans ((St.kp h51 (by decide) (by decide) (by decide)).trans ((St.kp h42 (by decide) (by decide) (by decide)).trans rfl)))).trans k33_9002_0)
        have kr_9004_0 : Dv1 M55 = g9004_0 := ((Dv1_of (fun j => ((St.ka h55 (by decide) (by decide) (by decide)).trans ((St.ka h51 (by decide) (by decide) (by decide)).trans ((St.ka h42 (by decide) (by decide) (by decide)).trans rfl)))) (fun j => ((St.ka h55 (by decide) (by decide) (by decide)).trans ((St.ka h51 (by decide) (by decide) (by decide)).trans ((St.ka h42 (by decide) (by decide) (by decide)).trans rfl)))) ((St.kp h55 (by decide) (by decide) (by decide)).trans ((St.kp h51 (by decide) (by decide) (by decide)).trans ((St.kp h42 (by decide) (by decide) (by decide)).trans rfl))) ((St.kp h55 (by decide) (by decide) (by decide)).trans ((St.kp h51 (by decide) (by decide) (by decide)).trans ((St.kp h42 (by decide) (by decide) (by decide)).trans rfl)))).trans k33_9004_0)
        have kr_9005_0 : fr0 M55 = g9005_0 := ((fr0_of (fun j => ((St.ka h55 (by decide) (by decide) (by decide)).trans ((St.ka h51 (by decide) (by decide) (by decide)).trans ((St.ka h42 (by decide) (by decide) (by decide)).trans rfl))))).trans k33_9005_0)
        have kr_9010_0 : tav M55 = s55_9010_0 := es55_9010_0
        exact Tr.zret (pc := 59) d_X12_operand_59 rfl (by omega) ⟨hS, _, rfl, by omega, by omega, (by first | exact (hd_o z55_0) | exact (hd_o z55_0).elim (fun h1 => by omega) (fun h1 => by omega)), (by omega), (by first | exact (hd_o z55_2) | exact (hd_o z55_2).elim (fun h1 => by omega) (fun h1 => h1.elim (fun h1 => by omega) (fun h1 => by omega))), (by and_intros <;> omega), (by first | exact (hd_o z55_6) | exact (hd_o z55_6).elim (fun h1 => by omega) (fun h1 => by omega)), (by exact (hd_o z42_0).elim (fun h1 => (hd_o z55_5).elim (fun h2 => by omega) (fun h2 => by omega)) (fun h1 => by omega)), (by exact (hd_o z42_0).elim (fun h1 => (hd_o t33_0).elim (fun h2 => by omega) (fun h2 => by omega)) (fun h1 => by omega)), (by omega), (by omega), (by omega), (by omega), (by exact (hd_o z42_0).elim (fun h1 => (hd_o t33_2).elim (fun h2 => (ne_o h2).elim (fun h3 => by omega) (fun h3 => by omega)) (fun h2 => h2.elim (fun h2 => by omega) (fun h2 => by omega))) (fun h1 => by omega)), (by exact (hd_o z51_1).elim (fun h1 => by omega) (fun h1 => (ne_o h1.1).elim (fun h2 => by omega) (fun h2 => by omega)))⟩
  have J32 : ∀ (M : Mem), St Pm1 ws_X12_operand_120 as_X12_operand_120 M0 M → rd M 120 3 = g120_3 → rd M 120 36 = g120_36 → rd M 120 4 = g120_4 → rd M 120 43 = g120_43 → rd M 120 44 = g120_44 → rd M 120 46 = g120_46 → rd M 120 5 = g120_5 → rd M 120 50 = g120_50 → rd M 120 6 = g120_6 → rd M 120 7 = g120_7 → rd M 120 8 = g120_8 → rd M 136 1 = g136_1 → rd M 145 (g120_43 - 1) = r12 → nb2v M = g9001_0 → n4v M = g9002_0 → Dv1 M = g9004_0 → fr0 M = g9005_0 → tav M = g9010_0 → (g120_3 = 0 ∨ g120_4 + 1 ≤ g120_5) → (g120_4 ≤ g120_5) → (g120_3 ≠ 1 ∨ g120_4 + 2 ≤ g120_5 ∨ g120_7 < 256) → (g120_4 ≤ g120_4 ∧ g120_5 ≤ g120_5 ∧ g9010_0 ≤ g9010_0) → (g120_8 = 0 ∨ g120_8 = g120_8) → Tr l K 3 mX12_operand 32 [(0, (2, 120)), (1, (0, (g120_43 - 1)))] [] M (q_X12_operand_120 M0) := by
    intro M  hS  k32_120_3 k32_120_36 k32_120_4 k32_120_43 k32_120_44 k32_120_46 k32_120_5 k32_120_50 k32_120_6 k32_120_7 k32_120_8 k32_136_1 k32_145_g120_431n1 k32_9001_0 k32_9002_0 k32_9004_0 k32_9005_0 k32_9010_0 t32_0 t32_1 t32_2 t32_3 t32_4
    clear er12
    replace t32_0 := hd_i t32_0
    replace t32_2 := hd_i t32_2
    replace t32_4 := hd_i t32_4
    refine Tr.iconst (pc := 32) d_X12_operand_32 (by decide) ?_
    refine Tr.pick [0, 1] (ls2 := [(0, (2, 120)), (1, (0, (g120_43 - 1)))]) rfl ?_
    exact J33 _ _ hS (by omega) k32_120_3 k32_120_36 k32_120_4 k32_120_43 k32_120_44 k32_120_46 k32_120_5 k32_120_50 k32_120_6 k32_120_7 k32_120_8 k32_136_1 k32_145_g120_431n1 k32_9001_0 k32_9002_0 k32_9004_0 k32_9005_0 k32_9010_0 (by first | exact (hd_o t32_0) | exact (hd_o t32_0).elim (fun h1 => by omega) (fun h1 => by omega)) (by omega) (by first | exact (hd_o t32_2) | exact (hd_o t32_2).elim (fun h1 => by omega) (fun h1 => h1.elim (fun h1 => by omega) (fun h1 => by omega))) (by and_intros <;> omega) (by first | exact (hd_o t32_4) | exact (hd_o t32_4).elim (fun h1 => by omega) (fun h1 => by omega))
  refine Tr.if_eq (pc := 16) (tgt := 32) d_X12_operand_16 rfl (fun c16 => ?_) (fun c16 => ?_)
  · refine Tr.pick [1, 0] (ls2 := [(0, (2, 120)), (1, (0, (g120_43 - 1)))]) rfl ?_
    exact J32 _ hS ((St.kp h13 (by decide) (by decide) (by decide)).trans eg120_3) ((St.kp h13 (by decide) (by decide) (by decide)).trans eg120_36) ((St.kp h13 (by decide) (by decide) (by decide)).trans eg120_4) ((St.kp h13 (by decide) (by decide) (by decide)).trans eg120_43) ((St.kp h13 (by decide) (by decide) (by decide)).trans eg120_44) ((St.kp h13 (by decide) (by decide) (by decide)).trans eg120_46) ((St.kp h13 (by decide) (by decide) (by decide)).trans eg120_5) ((St.kp h13 (by decide) (by decide) (by decide)).trans eg120_50) ((St.kp h13 (by decide) (by decide) (by decide)).trans eg120_6) ((St.kp h13 (by decide) (by decide) (by decide)).trans eg120_7) ((St.kp h13 (by decide) (by decide) (by decide)).trans eg120_8) ((St.kp h13 (by decide) (by decide) (by decide)).trans eg136_1) ((St.ka h13 (by decide) (by decide) (by decide)).trans er12) ((nb2v_of (fun j => ((St.ka h13 (by decide) (by decide) (by decide)).trans rfl)) ((St.kp h13 (by decide) (by decide) (by decide)).trans rfl)).trans eg9001_0) ((n4v_of (fun j => ((St.ka h13 (by decide) (by decide) (by decide)).trans rfl)) ((St.kp h13 (by decide) (by decide) (by decide)).trans rfl)).trans eg9002_0) ((Dv1_of (fun j => ((St.ka h13 (by decide) (by decide) (by decide)).trans rfl)) (fun j => ((St.ka h13 (by decide) (by decide) (by decide)).trans rfl)) ((St.kp h13 (by decide) (by decide) (by decide)).trans rfl) ((St.kp h13 (by decide) (by decide) (by decide)).trans rfl)).trans eg9004_0) ((fr0_of (fun j => ((St.ka h13 (by decide) (by decide) (by decide)).trans rfl))).trans eg9005_0) ((tav_of ((St.kp h13 (by decide) (by decide) (by decide)).trans rfl) ((St.kp h13 (by decide) (by decide) (by decide)).trans rfl)).trans eg9010_0) (by first | exact (hd_o hq0) | exact (hd_o hq0).elim (fun h1 => by omega) (fun h1 => by omega)) (by omega) (by first | exact (hd_o hq2) | exact (hd_o hq2).elim (fun h1 => by omega) (fun h1 => h1.elim (fun h1 => by omega) (fun h1 => by omega))) (by and_intros <;> omega) (by omega)
  · have c16b : 1 ≤ r13 ∧ r13 ≤ 1 := by omega
    replace c16 := hd_i c16
    refine Tr.aload_n (pc := 19) (i := 0) d_X12_operand_19 rfl rfl ?_
    refine Tr.getf (pc := 20) d_X12_operand_20 f_12_133 (by decide) (by decide) (ty_120 hS.1.1) ?_
    refine Tr.tp 147 (fx_120_40 hS.1.1) ?_
    refine Tr.iload_n (pc := 23) (i := 1) d_X12_operand_23 rfl rfl ?_
    refine Tr.zald (pc := 24) d_X12_operand_24 (ty_147 hS.1.1) (by omega) (by omega) ?_
    refine Tr.gen (P := fun v => 0 ≤ v ∧ v ≤ 1) (ar_147 hS.1.2.1 _) (fun r24 er24 br24 => ?_)
    refine Tr.if_eq (pc := 25) (tgt := 32) d_X12_operand_25 rfl (fun c25 => ?_) (fun c25 => ?_)
    · refine Tr.pick [1, 0] (ls2 := [(0, (2, 120)), (1, (0, (g120_43 - 1)))]) rfl ?_
      exact J32 _ hS ((St.kp h13 (by decide) (by decide) (by decide)).trans eg120_3) ((St.kp h13 (by decide) (by decide) (by decide)).trans eg120_36) ((St.kp h13 (by decide) (by decide) (by decide)).trans eg120_4) ((St.kp h13 (by decide) (by decide) (by decide)).trans eg120_43) ((St.kp h13 (by decide) (by decide) (by decide)).trans eg120_44) ((St.kp h13 (by decide) (by decide) (by decide)).trans eg120_46) ((St.kp h13 (by decide) (by decide) (by decide)).trans eg120_5) ((St.kp h13 (by decide) (by decide) (by decide)).trans eg120_50) ((St.kp h13 (by decide) (by decide) (by decide)).trans eg120_6) ((St.kp h13 (by decide) (by decide) (by decide)).trans eg120_7) ((St.kp h13 (by decide) (by decide) (by decide)).trans eg120_8) ((St.kp h13 (by decide) (by decide) (by decide)).trans eg136_1) ((St.ka h13 (by decide) (by decide) (by decide)).trans er12) ((nb2v_of (fun j => ((St.ka h13 (by decide) (by decide) (by decide)).trans rfl)) ((St.kp h13 (by decide) (by decide) (by decide)).trans rfl)).trans eg9001_0) ((n4v_of (fun j => ((St.ka h13 (by decide) (by decide) (by decide)).trans rfl)) ((St.kp h13 (by decide) (by decide) (by decide)).trans rfl)).trans eg9002_0) ((Dv1_of (fun j => ((St.ka h13 (by decide) (by decide) (by decide)).trans rfl)) (fun j => ((St.ka h13 (by decide) (by decide) (by decide)).trans rfl)) ((St.kp h13 (by decide) (by decide) (by decide)).trans rfl) ((St.kp h13 (by decide) (by decide) (by decide)).trans rfl)).trans eg9004_0) ((fr0_of (fun j => ((St.ka h13 (by decide) (by decide) (by decide)).trans rfl))).trans eg9005_0) ((tav_of ((St.kp h13 (by decide) (by decide) (by decide)).trans rfl) ((St.kp h13 (by decide) (by decide) (by decide)).trans rfl)).trans eg9010_0) (by first | exact (hd_o hq0) | exact (hd_o hq0).elim (fun h1 => by omega) (fun h1 => by omega)) (by omega) (by first | exact (hd_o hq2) | exact (hd_o hq2).elim (fun h1 => by omega) (fun h1 => h1.elim (fun h1 => by omega) (fun h1 => by omega))) (by and_intros <;> omega) (by omega)
    · have c25b : 1 ≤ r24 ∧ r24 ≤ 1 := by omega
      replace c25 := hd_i c25
      refine Tr.iconst (pc := 28) d_X12_operand_28 (by decide) ?_
      refine Tr.goto (pc := 29) (tgt := 33) d_X12_operand_29 rfl ?_
      refine Tr.pick [1, 0] (ls2 := [(0, (2, 120)), (1, (0, (g120_43 - 1)))]) rfl ?_
      exact J33 _ _ hS (by omega) ((St.kp h13 (by decide) (by decide) (by decide)).trans eg120_3) ((St.kp h13 (by decide) (by decide) (by decide)).trans eg120_36) ((St.kp h13 (by decide) (by decide) (by decide)).trans eg120_4) ((St.kp h13 (by decide) (by decide) (by decide)).trans eg120_43) ((St.kp h13 (by decide) (by decide) (by decide)).trans eg120_44) ((St.kp h13 (by decide) (by decide) (by decide)).trans eg120_46) ((St.kp h13 (by decide) (by decide) (by decide)).trans eg120_5) ((St.kp h13 (by decide) (by decide) (by decide)).trans eg120_50) ((St.kp h13 (by decide) (by decide) (by decide)).trans eg120_6) ((St.kp h13 (by decide) (by decide) (by decide)).trans eg120_7) ((St.kp h13 (by decide) (by decide) (by decide)).trans eg120_8) ((St.kp h13 (by decide) (by decide) (by decide)).trans eg136_1) ((St.ka h13 (by decide) (by decide) (by decide)).trans er12) ((nb2v_of (fun j => ((St.ka h13 (by decide) (by decide) (by decide)).trans rfl)) ((St.kp h13 (by decide) (by decide) (by decide)).trans rfl)).trans eg9001_0) ((n4v_of (fun j => ((St.ka h13 (by decide) (by decide) (by decide)).trans rfl)) ((St.kp h13 (by decide) (by decide) (by decide)).trans rfl)).trans eg9002_0) ((Dv1_of (fun j => ((St.ka h13 (by decide) (by decide) (by decide)).trans rfl)) (fun j => ((St.ka h13 (by decide) (by decide) (by decide)).trans rfl)) ((St.kp h13 (by decide) (by decide) (by decide)).trans rfl) ((St.kp h13 (by decide) (by decide) (by decide)).trans rfl)).trans eg9004_0) ((fr0_of (fun j => ((St.ka h13 (by decide) (by decide) (by decide)).trans rfl))).trans eg9005_0) ((tav_of ((St.kp h13 (by decide) (by decide) (by decide)).trans rfl) ((St.kp h13 (by decide) (by decide) (by decide)).trans rfl)).trans eg9010_0) (by first | exact (hd_o hq0) | exact (hd_o hq0).elim (fun h1 => by omega) (fun h1 => by omega)) (by omega) (by first | exact (hd_o hq2) | exact (hd_o hq2).elim (fun h1 => by omega) (fun h1 => h1.elim (fun h1 => by omega) (fun h1 => by omega))) (by and_intros <;> omega) (by omega)
