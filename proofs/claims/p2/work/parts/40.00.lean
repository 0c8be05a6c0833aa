
def ws_X12_has_120_w1 : List (Int × Int) := []
def as_X12_has_120_w1 : List Int := []
def q_X12_has_120_w1 (M0 M' : Mem) (r : Option PV) : Prop := St Tru ws_X12_has_120_w1 as_X12_has_120_w1 M0 M' ∧ ∃ v : Int, r = some (0, v) ∧ (-1) ≤ v ∧ v ≤ 60
set_option maxRecDepth 100000 in
set_option maxHeartbeats 4000000 in
theorem sp_X12_has_120_w1 {l : Launch} {K : EC} {M0 : Mem} (hI : In Tru M0) (en_120_12 : rd M0 120 12 = 1) (a1 : Int) (ha1 : (-2147483648) ≤ a1 ∧ a1 ≤ 2147483647)  : Tr l K 0 mX12_has 0 [(0, (2, 120)), (1, (0, a1))] [] M0 (q_X12_has_120_w1 M0) := by
  have hS : St Tru ws_X12_has_120_w1 as_X12_has_120_w1 M0 M0 := St.rf hI
  refine Tr.iload_n (pc := 0) (i := 1) d_X12_has_0 rfl rfl ?_
  rcases (show (a1 < 0 ∨ 5 < a1) ∨ a1 = 0 ∨ a1 = 1 ∨ a1 = 2 ∨ a1 = 3 ∨ a1 = 4 ∨ a1 = 5 by omega) with c1 | c1 | c1 | c1 | c1 | c1 | c1
  · refine Tr.tswOut (pc := 1) (tgt := 90) d_X12_has_1 c1 rfl ?_
    refine Tr.iconst (pc := 90) d_X12_has_90 (by decide) ?_
    exact Tr.iret (pc := 91) d_X12_has_91 rfl ⟨hS, _, rfl, by omega, by omega⟩
  · refine Tr.tp 0 c1 ?_
    refine Tr.tswIn (pc := 1) (off := 39) (tgt := 40) d_X12_has_1 (by decide) (by decide) rfl rfl ?_
    refine Tr.aload_n (pc := 40) (i := 0) d_X12_has_40 rfl rfl ?_
    refine Tr.getf (pc := 41) d_X12_has_41 f_12_63 (by decide) (by decide) (ty_120 hS.1.1) ?_
    refine Tr.tp 126 (fx_120_17 hS.1.1) ?_
    refine Tr.aload_n (pc := 44) (i := 0) d_X12_has_44 rfl rfl ?_
    refine Tr.getf (pc := 45) d_X12_has_45 f_12_48 (by decide) (by decide) (ty_120 hS.1.1) ?_
    refine Tr.tp 1 ((St.kp hS (by decide) (by decide) (by decide)).trans en_120_12) ?_
    refine Tr.iald (pc := 48) d_X12_has_48 (ty_126 hS.1.1) (by omega) (by omega) ?_
    refine Tr.gen (P := fun v => 0 ≤ v ∧ v ≤ 6) (ir_126_1 hS.1.2.1) (fun r48 er48 br48 => ?_)
    exact Tr.iret (pc := 49) d_X12_has_49 rfl ⟨hS, _, rfl, by omega, by omega⟩
  · refine Tr.tp 1 c1 ?_
    refine Tr.tswIn (pc := 1) (off := 49) (tgt := 50) d_X12_has_1 (by decide) (by decide) rfl rfl ?_
    refine Tr.aload_n (pc := 50) (i := 0) d_X12_has_50 rfl rfl ?_
    refine Tr.getf (pc := 51) d_X12_has_51 f_12_66 (by decide) (by decide) (ty_120 hS.1.1) ?_
    refine Tr.tp 127 (fx_120_18 hS.1.1) ?_
    refine Tr.aload_n (pc := 54) (i := 0) d_X12_has_54 rfl rfl ?_
    refine Tr.getf (pc := 55) d_X12_has_55 f_12_48 (by decide) (by decide) (ty_120 hS.1.1) ?_
    refine Tr.tp 1 ((St.kp hS (by decide) (by decide) (by decide)).trans en_120_12) ?_
    refine Tr.iald (pc := 58) d_X12_has_58 (ty_127 hS.1.1) (by omega) (by omega) ?_
    refine Tr.gen (P := fun v => 0 ≤ v ∧ v ≤ 3) (ir_127_1 hS.1.2.1) (fun r58 er58 br58 => ?_)
    exact Tr.iret (pc := 59) d_X12_has_59 rfl ⟨hS, _, rfl, by omega, by omega⟩
  · refine Tr.tp 2 c1 ?_
    refine Tr.tswIn (pc := 1) (off := 59) (tgt := 60) d_X12_has_1 (by decide) (by decide) rfl rfl ?_
    refine Tr.aload_n (pc := 60) (i := 0) d_X12_has_60 rfl rfl ?_
    refine Tr.getf (pc := 61) d_X12_has_61 f_12_69 (by decide) (by decide) (ty_120 hS.1.1) ?_
    refine Tr.tp 128 (fx_120_19 hS.1.1) ?_
    refine Tr.aload_n (pc := 64) (i := 0) d_X12_has_64 rfl rfl ?_
    refine Tr.getf (pc := 65) d_X12_has_65 f_12_48 (by decide) (by decide) (ty_120 hS.1.1) ?_
    refine Tr.tp 1 ((St.kp hS (by decide) (by decide) (by decide)).trans en_120_12) ?_
    refine Tr.iald (pc := 68) d_X12_has_68 (ty_128 hS.1.1) (by omega) (by omega) ?_
    refine Tr.gen (P := fun v => 0 ≤ v ∧ v ≤ 6) (ir_128_1 hS.1.2.1) (fun r68 er68 br68 => ?_)
    exact Tr.iret (pc := 69) d_X12_has_69 rfl ⟨hS, _, rfl, by omega, by omega⟩
  · refine Tr.tp 3 c1 ?_
    refine Tr.tswIn (pc := 1) (off := 69) (tgt := 70) d_X12_has_1 (by decide) (by decide) rfl rfl ?_
    refine Tr.aload_n (pc := 70) (i := 0) d_X12_has_70 rfl rfl ?_
    refine Tr.getf (pc := 71) d_X12_has_71 f_12_72 (by decide) (by decide) (ty_120 hS.1.1) ?_
    refine Tr.tp 129 (fx_120_20 hS.1.1) ?_
    refine Tr.aload_n (pc := 74) (i := 0) d_X12_has_74 rfl rfl ?_
    refine Tr.getf (pc := 75) d_X12_has_75 f_12_48 (by decide) (by decide) (ty_120 hS.1.1) ?_
    refine Tr.tp 1 ((St.kp hS (by decide) (by decide) (by decide)).trans en_120_12) ?_
    refine Tr.iald (pc := 78) d_X12_has_78 (ty_129 hS.1.1) (by omega) (by omega) ?_
    refine Tr.gen (P := fun v => 0 ≤ v ∧ v ≤ 60) (ir_129_1 hS.1.2.1) (fun r78 er78 br78 => ?_)
    exact Tr.iret (pc := 79) d_X12_has_79 rfl ⟨hS, _, rfl, by omega, by omega⟩
  · refine Tr.tp 4 c1 ?_
    refine Tr.tswIn (pc := 1) (off := 79) (tgt := 80) d_X12_has_1 (by decide) (by decide) rfl rfl ?_
    refine Tr.aload_n (pc := 80) (i := 0) d_X12_has_80 rfl rfl ?_
    refine Tr.getf (pc := 81) d_X12_has_81 f_12_333 (by decide) (by decide) (ty_120 hS.1.1) ?_
    refine Tr.gen (P := fun v => 0 ≤ v ∧ v ≤ 12) (ir_120_106 hS.1.2.1) (fun r81 er81 br81 => ?_)
    exact Tr.iret (pc := 84) d_X12_has_84 rfl ⟨hS, _, rfl, by omega, by omega⟩
  · refine Tr.tp 5 c1 ?_
    refine Tr.tswIn (pc := 1) (off := 84) (tgt := 85) d_X12_has_1 (by decide) (by decide) rfl rfl ?_
    refine Tr.aload_n (pc := 85) (i := 0) d_X12_has_85 rfl rfl ?_
    refine Tr.getf (pc := 86) d_X12_has_86 f_12_354 (by decide) (by decide) (ty_120 hS.1.1) ?_
    refine Tr.gen (P := fun v => 0 ≤ v ∧ v ≤ 6) (ir_120_113 hS.1.2.1) (fun r86 er86 br86 => ?_)
    exact Tr.iret (pc := 89) d_X12_has_89 rfl ⟨hS, _, rfl, by omega, by omega⟩

def ws_X12_isPart_120_w1 : List (Int × Int) := []
def as_X12_isPart_120_w1 : List Int := []
def q_X12_isPart_120_w1 (a1 : Int) (M0 M' : Mem) (r : Option PV) : Prop := St Tru ws_X12_isPart_120_w1 as_X12_isPart_120_w1 M0 M' ∧ ∃ v : Int, r = some (0, v) ∧ 0 ≤ v ∧ v ≤ 1 ∧ (v = 0 ∨ (0 ≤ a1 ∧ a1 < rd M' 126 1))
set_option maxRecDepth 100000 in
set_option maxHeartbeats 4000000 in
theorem sp_X12_isPart_120_w1 {l : Launch} {K : EC} {M0 : Mem} (hI : In Tru M0) (en_120_12 : rd M0 120 12 = 1) (a1 : Int) (ha1 : (-2147483648) ≤ a1 ∧ a1 ≤ 2147483647)  : Tr l K 1 mX12_isPart 0 [(0, (2, 120)), (1, (0, a1))] [] M0 (q_X12_isPart_120_w1 a1 M0) := by
  have hS : St Tru ws_X12_isPart_120_w1 as_X12_isPart_120_w1 M0 M0 := St.rf hI
  obtain ⟨g126_1, eg126_1⟩ : ∃ v, rd M0 126 1 = v := ⟨_, rfl⟩
  have bg126_1 : 0 ≤ g126_1 ∧ g126_1 ≤ 6 := by rw [← eg126_1]; exact ir_126_1 hI.2.1
  refine Tr.iload_n (pc := 0) (i := 1) d_X12_isPart_0 rfl rfl ?_
  refine Tr.iconst (pc := 1) d_X12_isPart_1 (by decide) ?_
  refine Tr.aload_n (pc := 2) (i := 0) d_X12_isPart_2 rfl rfl ?_
  refine Tr.getf (pc := 3) d_X12_isPart_3 f_12_63 (by decide) (by decide) (ty_120 hS.1.1) ?_
  refine Tr.tp 126 (fx_120_17 hS.1.1) ?_
  refine Tr.aload_n (pc := 6) (i := 0) d_X12_isPart_6 rfl rfl ?_
  refine Tr.getf (pc := 7) d_X12_isPart_7 f_12_48 (by decide) (by decide) (ty_120 hS.1.1) ?_
  refine Tr.tp 1 ((St.kp hS (by decide) (by decide) (by decide)).trans en_120_12) ?_
  refine Tr.iald (pc := 10) d_X12_isPart_10 (ty_126 hS.1.1) (by omega) (by omega) ?_
  refine Tr.tp g126_1 eg126_1 ?_
  refine Tr.iconst (pc := 11) d_X12_isPart_11 (by decide) ?_
  refine Tr.isub (pc := 12) d_X12_isPart_12 ?_
  refine Tr.tp (g126_1 - 1) ((w32_id (by omega)).trans (by omega)) ?_
  refine Tr.callS (pc := 13) (as := [_, _, _]) d_X12_isPart_13 s_12_467 ok_X12_is rfl rfl (Nat.le_of_ble_eq_true rfl) (Nat.le_of_ble_eq_true rfl) ?_
  refine Tr.imp (Tr.deep (by decide) (sp_X12_is hS.1 a1 (by omega) 0 (by omega) (g126_1 - 1) (by omega))) ?_
  rintro M13 _ ⟨h13, r13, rfl, lr13, ur13, wr13⟩
  have hS := St.tr hS h13 (by decide) (by decide)
  refine Tr.sc [(0, r13)] rfl ?_
  have kr_126_1 : rd M13 126 1 = g126_1 := ((St.kp h13 (by decide) (by decide) (by decide)).trans eg126_1)
  exact Tr.zret (pc := 16) d_X12_isPart_16 rfl (by omega) ⟨hS, _, rfl, by omega, by omega, by omega⟩

set_option maxRecDepth 100000 in
set_option maxHeartbeats 4000000 in
theorem ns_X12_isPart_120_w1 {l : Launch} {K : EC} {M0 : Mem} {G126_1 : Int} (hI : In Tru M0) (k126_1 : rd M0 126 1 = G126_1) (en_120_12 : rd M0 120 12 = 1) (a1 : Int) (ha1 : (-2147483648) ≤ a1 ∧ a1 ≤ 2147483647)  : Tr l K 1 mX12_isPart 0 [(0, (2, 120)), (1, (0, a1))] [] M0 (fun M' r => St Tru ws_X12_isPart_120_w1 as_X12_isPart_120_w1 M0 M' ∧ ∃ v : Int, r = some (0, v) ∧ 0 ≤ v ∧ v ≤ 1 ∧ Hd (v = 0 ∨ (0 ≤ a1 ∧ a1 < G126_1))) := by
  subst k126_1
  refine Tr.imp (sp_X12_isPart_120_w1 hI en_120_12 a1 ha1) ?_
  rintro M' _ ⟨hS, v, rfl, lr, ur, z0⟩
  rewrite [show rd M' 126 1 = rd M0 126 1 from ((St.kp hS (by decide) (by decide) (by decide)).trans rfl)] at z0
  exact ⟨hS, v, rfl, lr, ur, hd_i z0⟩

def ws_X12_isInput_120_w1 : List (Int × Int) := []
def as_X12_isInput_120_w1 : List Int := []
def q_X12_isInput_120_w1 (a1 : Int) (M0 M' : Mem) (r : Option PV) : Prop := St Tru ws_X12_isInput_120_w1 as_X12_isInput_120_w1 M0 M' ∧ ∃ v : Int, r = some (0, v) ∧ 0 ≤ v ∧ v ≤ 1 ∧ (v = 0 ∨ (0 ≤ a1 ∧ a1 < rd M' 127 1))
set_option maxRecDepth 100000 in
set_option maxHeartbeats 4000000 in
theorem sp_X12_isInput_120_w1 {l : Launch} {K : EC} {M0 : Mem} (hI : In Tru M0) (en_120_12 : rd M0 120 12 = 1) (a1 : Int) (ha1 : (-2147483648) ≤ a1 ∧ a1 ≤ 2147483647)  : Tr l K 1 mX12_isInput 0 [(0, (2, 120)), (1, (0, a1))] [] M0 (q_X12_isInput_120_w1 a1 M0) := by
  have hS : St Tru ws_X12_isInput_120_w1 as_X12_isInput_120_w1 M0 M0 := St.rf hI
  obtain ⟨g127_1, eg127_1⟩ : ∃ v, rd M0 127 1 = v := ⟨_, rfl⟩
  have bg127_1 : 0 ≤ g127_1 ∧ g127_1 ≤ 3 := by rw [← eg127_1]; exact ir_127_1 hI.2.1
  refine Tr.iload_n (pc := 0) (i := 1) d_X12_isInput_0 rfl rfl ?_
  refine Tr.iconst (pc := 1) d_X12_isInput_1 (by decide) ?_
  refine Tr.aload_n (pc := 2) (i := 0) d_X12_isInput_2 rfl rfl ?_
  refine Tr.getf (pc := 3) d_X12_isInput_3 f_12_66 (by decide) (by decide) (ty_120 hS.1.1) ?_
  refine Tr.tp 127 (fx_120_18 hS.1.1) ?_
  refine Tr.aload_n (pc := 6) (i := 0) d_X12_isInput_6 rfl rfl ?_
  refine Tr.getf (pc := 7) d_X12_isInput_7 f_12_48 (by decide) (by decide) (ty_120 hS.1.1) ?_
  refine Tr.tp 1 ((St.kp hS (by decide) (by decide) (by decide)).trans en_120_12) ?_
  refine Tr.iald (pc := 10) d_X12_isInput_10 (ty_127 hS.1.1) (by omega) (by omega) ?_
  refine Tr.tp g127_1 eg127_1 ?_
  refine Tr.iconst (pc := 11) d_X12_isInput_11 (by decide) ?_
  refine Tr.isub (pc := 12) d_X12_isInput_12 ?_
  refine Tr.tp (g127_1 - 1) ((w32_id (by omega)).trans (by omega)) ?_
  refine Tr.callS (pc := 13) (as := [_, _, _]) d_X12_isInput_13 s_12_467 ok_X12_is rfl rfl (Nat.le_of_ble_eq_true rfl) (Nat.le_of_ble_eq_true rfl) ?_
  refine Tr.imp (Tr.deep (by decide) (sp_X12_is hS.1 a1 (by omega) 0 (by omega) (g127_1 - 1) (by omega))) ?_
  rintro M13 _ ⟨h13, r13, rfl, lr13, ur13, wr13⟩
  have hS := St.tr hS h13 (by decide) (by decide)
  refine Tr.sc [(0, r13)] rfl ?_
  have kr_127_1 : rd M13 127 1 = g127_1 := ((St.kp h13 (by decide) (by decide) (by decide)).trans eg127_1)
  exact Tr.zret (pc := 16) d_X12_isInput_16 rfl (by omega) ⟨hS, _, rfl, by omega, by omega, by omega⟩

def ws_X12_letter_120_w1 : List (Int × Int) := []
def as_X12_letter_120_w1 : List Int := []
def q_X12_letter_120_w1 (M0 M' : Mem) (r : Option PV) : Prop := St Tru ws_X12_letter_120_w1 as_X12_letter_120_w1 M0 M' ∧ ∃ v : Int, r = some (0, v) ∧ (-1) ≤ v ∧ v ≤ 255
set_option maxRecDepth 100000 in
set_option maxHeartbeats 4000000 in
theorem sp_X12_letter_120_w1 {l : Launch} {K : EC} {M0 : Mem} (hI : In Tru M0) (en_120_12 : rd M0 120 12 = 1) (a1 : Int) (ha1 : (-2147483648) ≤ a1 ∧ a1 ≤ 2147483647) (a2 : Int) (ha2 : (-2147483648) ≤ a2 ∧ a2 ≤ 2147483647) (a3 : Int) (ha3 : (-2147483648) ≤ a3 ∧ a3 ≤ 2147483647)  : Tr l K 2 mX12_letter 0 [(0, (2, 120)), (1, (0, a1)), (2, (0, a2)), (3, (0, a3))] [] M0 (q_X12_letter_120_w1 M0) := by
  have hS : St Tru ws_X12_letter_120_w1 as_X12_letter_120_w1 M0 M0 := St.rf hI
  refine Tr.iload_n (pc := 0) (i := 1) d_X12_letter_0 rfl rfl ?_
  have J31 : ∀ (M : Mem), St Tru ws_X12_letter_120_w1 as_X12_letter_120_w1 M0 M → Tr l K 2 mX12_letter 31 [(0, (2, 120)), (1, (0, a1)), (2, (0, a2)), (3, (0, a3))] [] M (q_X12_letter_120_w1 M0) := by
    intro M  hS  
    refine Tr.iload_n (pc := 31) (i := 1) d_X12_letter_31 rfl rfl ?_
    refine Tr.iconst (pc := 32) d_X12_letter_32 (by decide) ?_
    have J62 : ∀ (M : Mem), St Tru ws_X12_letter_120_w1 as_X12_letter_120_w1 M0 M → Tr l K 2 mX12_letter 62 [(0, (2, 120)), (1, (0, a1)), (2, (0, a2)), (3, (0, a3))] [] M (q_X12_letter_120_w1 M0) := by
      intro M  hS  
      refine Tr.iload_n (pc := 62) (i := 1) d_X12_letter_62 rfl rfl ?_
      refine Tr.iconst (pc := 63) d_X12_letter_63 (by decide) ?_
      refine Tr.icmp_ne (pc := 64) (tgt := 105) d_X12_letter_64 rfl (fun c64 => ?_) (fun c64 => ?_)
      · refine Tr.iconst (pc := 105) d_X12_letter_105 (by decide) ?_
        exact Tr.iret (pc := 106) d_X12_letter_106 rfl ⟨hS, _, rfl, by omega, by omega⟩
      · refine Tr.iload_n (pc := 67) (i := 2) d_X12_letter_67 rfl rfl ?_
        refine Tr.iconst (pc := 68) d_X12_letter_68 (by decide) ?_
        refine Tr.aload_n (pc := 69) (i := 0) d_X12_letter_69 rfl rfl ?_
        refine Tr.getf (pc := 70) d_X12_letter_70 f_12_69 (by decide) (by decide) (ty_120 hS.1.1) ?_
        refine Tr.tp 128 (fx_120_19 hS.1.1) ?_
        refine Tr.aload_n (pc := 73) (i := 0) d_X12_letter_73 rfl rfl ?_
        refine Tr.getf (pc := 74) d_X12_letter_74 f_12_48 (by decide) (by decide) (ty_120 hS.1.1) ?_
        refine Tr.tp 1 ((St.kp hS (by decide) (by decide) (by decide)).trans en_120_12) ?_
        refine Tr.iald (pc := 77) d_X12_letter_77 (ty_128 hS.1.1) (by omega) (by omega) ?_
        refine Tr.gen (P := fun v => 0 ≤ v ∧ v ≤ 6) (ir_128_1 hS.1.2.1) (fun r77 er77 br77 => ?_)
        refine Tr.iconst (pc := 78) d_X12_letter_78 (by decide) ?_
        refine Tr.isub (pc := 79) d_X12_letter_79 ?_
        refine Tr.tp (r77 - 1) ((w32_id (by omega)).trans (by omega)) ?_
        refine Tr.callS (pc := 80) (as := [_, _, _]) d_X12_letter_80 s_12_467 ok_X12_is rfl rfl (Nat.le_of_ble_eq_true rfl) (Nat.le_of_ble_eq_true rfl) ?_
        refine Tr.imp (Tr.deep (by decide) (sp_X12_is hS.1 a2 (by omega) 0 (by omega) (r77 - 1) (by omega))) ?_
        rintro M80 _ ⟨h80, r80, rfl, lr80, ur80, wr80⟩
        have hS := St.tr hS h80 (by decide) (by decide)
        refine Tr.sc [(0, r80)] rfl ?_
        refine Tr.if_eq (pc := 83) (tgt := 105) d_X12_letter_83 rfl (fun c83 => ?_) (fun c83 => ?_)
        · refine Tr.iconst (pc := 105) d_X12_letter_105 (by decide) ?_
          exact Tr.iret (pc := 106) d_X12_letter_106 rfl ⟨hS, _, rfl, by omega, by omega⟩
        · refine Tr.aload_n (pc := 86) (i := 0) d_X12_letter_86 rfl rfl ?_
          refine Tr.getf (pc := 87) d_X12_letter_87 f_12_91 (by decide) (by decide) (ty_120 hS.1.1) ?_
          refine Tr.tp 135 (fx_120_26 hS.1.1) ?_
          refine Tr.bipush (pc := 90) d_X12_letter_90 rfl (by decide) ?_
          refine Tr.aload_n (pc := 92) (i := 0) d_X12_letter_92 rfl rfl ?_
          refine Tr.getf (pc := 93) d_X12_letter_93 f_12_48 (by decide) (by decide) (ty_120 hS.1.1) ?_
          refine Tr.tp 1 ((St.kp hS (by decide) (by decide) (by decide)).trans en_120_12) ?_
          refine Tr.imul (pc := 96) d_X12_letter_96 ?_
          refine Tr.tp 6 (by decide) ?_
          refine Tr.iload_n (pc := 97) (i := 2) d_X12_letter_97 rfl rfl ?_
          refine Tr.iadd (pc := 98) d_X12_letter_98 ?_
          refine Tr.tp (a2 + 6) ((w32_id (by omega)).trans (by omega)) ?_
          refine Tr.lald (pc := 99) d_X12_letter_99 (ty_135 hS.1.1) (by omega) (by omega) ?_
          refine Tr.gen (P := fun v => (-9223372036854775808) ≤ v ∧ v ≤ 9223372036854775807) (ar_135 hS.1.2.1 _) (fun r99 er99 br99 => ?_)
          refine Tr.iload_n (pc := 100) (i := 3) d_X12_letter_100 rfl rfl ?_
          refine Tr.callS (pc := 101) (as := [_, _]) d_X12_letter_101 s_12_558 ok_X12_letterOf rfl rfl (Nat.le_of_ble_eq_true rfl) (Nat.le_of_ble_eq_true rfl) ?_
          refine Tr.imp (Tr.deep (by decide) (sp_X12_letterOf hS.1 r99 (by omega) a3 (by omega))) ?_
          rintro M101 _ ⟨h101, r101, rfl, lr101, ur101⟩
          have hS := St.tr hS h101 (by decide) (by decide)
          refine Tr.sc [(0, r101)] rfl ?_
          exact Tr.iret (pc := 104) d_X12_letter_104 rfl ⟨hS, _, rfl, by omega, by omega⟩
    refine Tr.icmp_ne (pc := 33) (tgt := 62) d_X12_letter_33 rfl (fun c33 => ?_) (fun c33 => ?_)
    · refine Tr.pick [0, 1, 2, 3] (ls2 := [(0, (2, 120)), (1, (0, a1)), (2, (0, a2)), (3, (0, a3))]) rfl ?_
      exact J62 _ hS 
    · refine Tr.aload_n (pc := 36) (i := 0) d_X12_letter_36 rfl rfl ?_
      refine Tr.iload_n (pc := 37) (i := 2) d_X12_letter_37 rfl rfl ?_
      refine Tr.callV (pc := 38) (as := [_]) d_X12_letter_38 s_12_562 ok_X12_isInput rfl rfl (Nat.le_of_ble_eq_true rfl) (Nat.le_of_ble_eq_true rfl) (by decide) (ty_120 hS.1.1) ?_
      refine Tr.imp (Tr.deep (by decide) (sp_X12_isInput_120_w1 hS.1 ((St.kp hS (by decide) (by decide) (by decide)).trans en_120_12) a2 (by omega))) ?_
      rintro M38 _ ⟨h38, r38, rfl, lr38, ur38, z38_0⟩
      have hS := St.tr hS h38 (by decide) (by decide)
      obtain ⟨w38_127_1, ew38_127_1⟩ : ∃ v, rd M38 127 1 = v := ⟨_, rfl⟩
      have bw38_127_1 : 0 ≤ w38_127_1 ∧ w38_127_1 ≤ 3 := by rw [← ew38_127_1]; exact ir_127_1 hS.1.2.1
      have ka38_127_1 : rd M38 127 1 = w38_127_1 := ew38_127_1
      refine Tr.sc [(0, r38)] rfl ?_
      refine Tr.if_eq (pc := 41) (tgt := 62) d_X12_letter_41 rfl (fun c41 => ?_) (fun c41 => ?_)
      · refine Tr.pick [0, 1, 2, 3] (ls2 := [(0, (2, 120)), (1, (0, a1)), (2, (0, a2)), (3, (0, a3))]) rfl ?_
        exact J62 _ hS 
      · refine Tr.aload_n (pc := 44) (i := 0) d_X12_letter_44 rfl rfl ?_
        refine Tr.getf (pc := 45) d_X12_letter_45 f_12_82 (by decide) (by decide) (ty_120 hS.1.1) ?_
        refine Tr.tp 132 (fx_120_23 hS.1.1) ?_
        refine Tr.iconst (pc := 48) d_X12_letter_48 (by decide) ?_
        refine Tr.aload_n (pc := 49) (i := 0) d_X12_letter_49 rfl rfl ?_
        refine Tr.getf (pc := 50) d_X12_letter_50 f_12_48 (by decide) (by decide) (ty_120 hS.1.1) ?_
        refine Tr.tp 1 ((St.kp hS (by decide) (by decide) (by decide)).trans en_120_12) ?_
        refine Tr.imul (pc := 53) d_X12_letter_53 ?_
        refine Tr.tp 3 (by decide) ?_
        refine Tr.iload_n (pc := 54) (i := 2) d_X12_letter_54 rfl rfl ?_
        refine Tr.iadd (pc := 55) d_X12_letter_55 ?_
        refine Tr.tp (a2 + 3) ((w32_id (by omega)).trans (by omega)) ?_
        refine Tr.lald (pc := 56) d_X12_letter_56 (ty_132 hS.1.1) (by omega) (by omega) ?_
        refine Tr.gen (P := fun v => (-9223372036854775808) ≤ v ∧ v ≤ 9223372036854775807) (ar_132 hS.1.2.1 _) (fun r56 er56 br56 => ?_)
        refine Tr.iload_n (pc := 57) (i := 3) d_X12_letter_57 rfl rfl ?_
        refine Tr.callS (pc := 58) (as := [_, _]) d_X12_letter_58 s_12_558 ok_X12_letterOf rfl rfl (Nat.le_of_ble_eq_true rfl) (Nat.le_of_ble_eq_true rfl) ?_
        refine Tr.imp (Tr.deep (by decide) (sp_X12_letterOf hS.1 r56 (by omega) a3 (by omega))) ?_
        rintro M58 _ ⟨h58, r58, rfl, lr58, ur58⟩
        have hS := St.tr hS h58 (by decide) (by decide)
        refine Tr.sc [(0, r58)] rfl ?_
        exact Tr.iret (pc := 61) d_X12_letter_61 rfl ⟨hS, _, rfl, by omega, by omega⟩
  refine Tr.if_ne (pc := 1) (tgt := 31) d_X12_letter_1 rfl (fun c1 => ?_) (fun c1 => ?_)
  · refine Tr.pick [0, 1, 2, 3] (ls2 := [(0, (2, 120)), (1, (0, a1)), (2, (0, a2)), (3, (0, a3))]) rfl ?_
    exact J31 _ hS 
  · refine Tr.aload_n (pc := 4) (i := 0) d_X12_letter_4 rfl rfl ?_
    refine Tr.iload_n (pc := 5) (i := 2) d_X12_letter_5 rfl rfl ?_
    refine Tr.callV (pc := 6) (as := [_]) d_X12_letter_6 s_12_555 ok_X12_isPart rfl rfl (Nat.le_of_ble_eq_true rfl) (Nat.le_of_ble_eq_true rfl) (by decide) (ty_120 hS.1.1) ?_
    refine Tr.imp (Tr.deep (by decide) (sp_X12_isPart_120_w1 hS.1 ((St.kp hS (by decide) (by decide) (by decide)).trans en_120_12) a2 (by omega))) ?_
    rintro M6 _ ⟨h6, r6, rfl, lr6, ur6, z6_0⟩
    have hS := St.tr hS h6 (by decide) (by decide)
    obtain ⟨w6_126_1, ew6_126_1⟩ : ∃ v, rd M6 126 1 = v := ⟨_, rfl⟩
    have bw6_126_1 : 0 ≤ w6_126_1 ∧ w6_126_1 ≤ 6 := by rw [← ew6_126_1]; exact ir_126_1 hS.1.2.1
    have ka6_126_1 : rd M6 126 1 = w6_126_1 := ew6_126_1
    refine Tr.sc [(0, r6)] rfl ?_
    refine Tr.if_eq (pc := 9) (tgt := 31) d_X12_letter_9 rfl (fun c9 => ?_) (fun c9 => ?_)
    · refine Tr.pick [0, 1, 2, 3] (ls2 := [(0, (2, 120)), (1, (0, a1)), (2, (0, a2)), (3, (0, a3))]) rfl ?_
      exact J31 _ hS 
    · refine Tr.aload_n (pc := 12) (i := 0) d_X12_letter_12 rfl rfl ?_
      refine Tr.getf (pc := 13) d_X12_letter_13 f_12_75 (by decide) (by decide) (ty_120 hS.1.1) ?_
      refine Tr.tp 130 (fx_120_21 hS.1.1) ?_
      refine Tr.bipush (pc := 16) d_X12_letter_16 rfl (by decide) ?_
      refine Tr.aload_n (pc := 18) (i := 0) d_X12_letter_18 rfl rfl ?_
      refine Tr.getf (pc := 19) d_X12_letter_19 f_12_48 (by decide) (by decide) (ty_120 hS.1.1) ?_
      refine Tr.tp 1 ((St.kp hS (by decide) (by decide) (by decide)).trans en_120_12) ?_
      refine Tr.imul (pc := 22) d_X12_letter_22 ?_
      refine Tr.tp 6 (by decide) ?_
      refine Tr.iload_n (pc := 23) (i := 2) d_X12_letter_23 rfl rfl ?_
      refine Tr.iadd (pc := 24) d_X12_letter_24 ?_
      refine Tr.tp (a2 + 6) ((w32_id (by omega)).trans (by omega)) ?_
      refine Tr.lald (pc := 25) d_X12_letter_25 (ty_130 hS.1.1) (by omega) (by omega) ?_
      refine Tr.gen (P := fun v => (-9223372036854775808) ≤ v ∧ v ≤ 9223372036854775807) (ar_130 hS.1.2.1 _) (fun r25 er25 br25 => ?_)
      refine Tr.iload_n (pc := 26) (i := 3) d_X12_letter_26 rfl rfl ?_
      refine Tr.callS (pc := 27) (as := [_, _]) d_X12_letter_27 s_12_558 ok_X12_letterOf rfl rfl (Nat.le_of_ble_eq_true rfl) (Nat.le_of_ble_eq_true rfl) ?_
      refine Tr.imp (Tr.deep (by decide) (sp_X12_letterOf hS.1 r25 (by omega) a3 (by omega))) ?_
      rintro M27 _ ⟨h27, r27, rfl, lr27, ur27⟩
      have hS := St.tr hS h27 (by decide) (by decide)
      refine Tr.sc [(0, r27)] rfl ?_
      exact Tr.iret (pc := 30) d_X12_letter_30 rfl ⟨hS, _, rfl, by omega, by omega⟩

def ws_X12_put__120_w1 : List (Int × Int) := []
def as_X12_put__120_w1 : List Int := [153]
def q_X12_put__120_w1 (M0 M' : Mem) (r : Option PV) : Prop := St Tru ws_X12_put__120_w1 as_X12_put__120_w1 M0 M' ∧ ∃ v : Int, r = some (0, v) ∧ 0 ≤ v ∧ v ≤ 1
set_option maxRecDepth 100000 in
set_option maxHeartbeats 4000000 in
theorem sp_X12_put__120_w1 {l : Launch} {K : EC} {M0 : Mem} (hI : In Tru M0) (en_120_12 : rd M0 120 12 = 1) (a1 : Int) (ha1 : (-2147483648) ≤ a1 ∧ a1 ≤ 2147483647) (a2 : Int) (ha2 : (-2147483648) ≤ a2 ∧ a2 ≤ 2147483647)  : Tr l K 2 mX12_put_ 0 [(0, (2, 120)), (1, (0, a1)), (2, (0, a2))] [] M0 (q_X12_put__120_w1 M0) := by
  have hS : St Tru ws_X12_put__120_w1 as_X12_put__120_w1 M0 M0 := St.rf hI
  refine Tr.aload_n (pc := 0) (i := 0) d_X12_put__0 rfl rfl ?_
  refine Tr.iload_n (pc := 1) (i := 1) d_X12_put__1 rfl rfl ?_
  refine Tr.callV (pc := 2) (as := [_]) d_X12_put__2 s_12_562 ok_X12_isInput rfl rfl (Nat.le_of_ble_eq_true rfl) (Nat.le_of_ble_eq_true rfl) (by decide) (ty_120 hS.1.1) ?_
  refine Tr.imp (Tr.deep (by decide) (sp_X12_isInput_120_w1 hS.1 ((St.kp hS (by decide) (by decide) (by decide)).trans en_120_12) a1 (by omega))) ?_
  rintro M2 _ ⟨h2, r2, rfl, lr2, ur2, z2_0⟩
  have hS := St.tr hS h2 (by decide) (by decide)
  obtain ⟨w2_127_1, ew2_127_1⟩ : ∃ v, rd M2 127 1 = v := ⟨_, rfl⟩
  have bw2_127_1 : 0 ≤ w2_127_1 ∧ w2_127_1 ≤ 3 := by rw [← ew2_127_1]; exact ir_127_1 hS.1.2.1
  have ka2_127_1 : rd M2 127 1 = w2_127_1 := ew2_127_1
  refine Tr.sc [(0, r2)] rfl ?_
  refine Tr.if_eq (pc := 5) (tgt := 41) d_X12_put__5 rfl (fun c5 => ?_) (fun c5 => ?_)
  · refine Tr.iconst (pc := 41) d_X12_put__41 (by decide) ?_
    exact Tr.zret (pc := 42) d_X12_put__42 rfl (by omega) ⟨hS, _, rfl, by omega, by omega⟩
  · refine Tr.iload_n (pc := 8) (i := 2) d_X12_put__8 rfl rfl ?_
    refine Tr.aload_n (pc := 9) (i := 0) d_X12_put__9 rfl rfl ?_
    refine Tr.getf (pc := 10) d_X12_put__10 f_12_85 (by decide) (by decide) (ty_120 hS.1.1) ?_
    refine Tr.tp 133 (fx_120_24 hS.1.1) ?_
    refine Tr.iconst (pc := 13) d_X12_put__13 (by decide) ?_
    refine Tr.aload_n (pc := 14) (i := 0) d_X12_put__14 rfl rfl ?_
    refine Tr.getf (pc := 15) d_X12_put__15 f_12_48 (by decide) (by decide) (ty_120 hS.1.1) ?_
    refine Tr.tp 1 ((St.kp hS (by decide) (by decide) (by decide)).trans en_120_12) ?_
    refine Tr.imul (pc := 18) d_X12_put__18 ?_
    refine Tr.tp 3 (by decide) ?_
    refine Tr.iload_n (pc := 19) (i := 1) d_X12_put__19 rfl rfl ?_
    refine Tr.iadd (pc := 20) d_X12_put__20 ?_
    refine Tr.tp (a1 + 3) ((w32_id (by omega)).trans (by omega)) ?_
    refine Tr.iald (pc := 21) d_X12_put__21 (ty_133 hS.1.1) (by omega) (by omega) ?_
    refine Tr.gen (P := fun v => (-2147483648) ≤ v ∧ v ≤ 2147483647) (ar_133 hS.1.2.1 _) (fun r21 er21 br21 => ?_)
    refine Tr.aload_n (pc := 22) (i := 0) d_X12_put__22 rfl rfl ?_
    refine Tr.getf (pc := 23) d_X12_put__23 f_12_88 (by decide) (by decide) (ty_120 hS.1.1) ?_
    refine Tr.tp 134 (fx_120_25 hS.1.1) ?_
    refine Tr.iconst (pc := 26) d_X12_put__26 (by decide) ?_
    refine Tr.aload_n (pc := 27) (i := 0) d_X12_put__27 rfl rfl ?_
    refine Tr.getf (pc := 28) d_X12_put__28 f_12_48 (by decide) (by decide) (ty_120 hS.1.1) ?_
    refine Tr.tp 1 ((St.kp hS (by decide) (by decide) (by decide)).trans en_120_12) ?_
    refine Tr.imul (pc := 31) d_X12_put__31 ?_
    refine Tr.tp 3 (by decide) ?_
    refine Tr.iload_n (pc := 32) (i := 1) d_X12_put__32 rfl rfl ?_
    refine Tr.iadd (pc := 33) d_X12_put__33 ?_
    refine Tr.tp (a1 + 3) ((w32_id (by omega)).trans (by omega)) ?_
    refine Tr.iald (pc := 34) d_X12_put__34 (ty_134 hS.1.1) (by omega) (by omega) ?_
    refine Tr.gen (P := fun v => (-2147483648) ≤ v ∧ v ≤ 2147483647) (ar_134 hS.1.2.1 _) (fun r34 er34 br34 => ?_)
    refine Tr.callS (pc := 35) (as := [_, _, _]) d_X12_put__35 s_12_467 ok_X12_is rfl rfl (Nat.le_of_ble_eq_true rfl) (Nat.le_of_ble_eq_true rfl) ?_
    refine Tr.imp (Tr.deep (by decide) (sp_X12_is hS.1 a2 (by omega) r21 (by omega) r34 (by omega))) ?_
    rintro M35 _ ⟨h35, r35, rfl, lr35, ur35, wr35⟩
    have hS := St.tr hS h35 (by decide) (by decide)
    refine Tr.sc [(0, r35)] rfl ?_
    refine Tr.if_ne (pc := 38) (tgt := 43) d_X12_put__38 rfl (fun c38 => ?_) (fun c38 => ?_)
    · refine Tr.aload_n (pc := 43) (i := 0) d_X12_put__43 rfl rfl ?_
      refine Tr.getf (pc := 44) d_X12_put__44 f_12_168 (by decide) (by decide) (ty_120 hS.1.1) ?_
      refine Tr.tp 153 (fx_120_51 hS.1.1) ?_
      refine Tr.iload_n (pc := 47) (i := 1) d_X12_put__47 rfl rfl ?_
      refine Tr.iload_n (pc := 48) (i := 2) d_X12_put__48 rfl rfl ?_
      refine Tr.iastS (pc := 49) (P := St Tru ws_X12_put__120_w1 as_X12_put__120_w1 M0) d_X12_put__49 (ty_153 hS.1.1) (by omega) (by omega) (sa_153 hS (by decide) (by omega) trivial) (fun M49 hS w49 => ?_)
      refine Tr.iconst (pc := 50) d_X12_put__50 (by decide) ?_
      exact Tr.zret (pc := 51) d_X12_put__51 rfl (by omega) ⟨hS, _, rfl, by omega, by omega⟩
    · refine Tr.iconst (pc := 41) d_X12_put__41 (by decide) ?_
      exact Tr.zret (pc := 42) d_X12_put__42 rfl (by omega) ⟨hS, _, rfl, by omega, by omega⟩

def ws_X12_value_120_w1 : List (Int × Int) := []
def as_X12_value_120_w1 : List Int := []
def q_X12_value_120_w1 (M0 M' : Mem) (r : Option PV) : Prop := St Tru ws_X12_value_120_w1 as_X12_value_120_w1 M0 M' ∧ ∃ v : Int, r = some (0, v) ∧ (-2147483648) ≤ v ∧ v ≤ 2147483647
set_option maxRecDepth 100000 in
set_option maxHeartbeats 4000000 in
theorem sp_X12_value_120_w1 {l : Launch} {K : EC} {M0 : Mem} (hI : In Tru M0) (en_120_12 : rd M0 120 12 = 1) (a1 : Int) (ha1 : (-2147483648) ≤ a1 ∧ a1 ≤ 2147483647)  : Tr l K 1 mX12_value 0 [(0, (2, 120)), (1, (0, a1))] [] M0 (q_X12_value_120_w1 M0) := by
  have hS : St Tru ws_X12_value_120_w1 as_X12_value_120_w1 M0 M0 := St.rf hI
  refine Tr.aload_n (pc := 0) (i := 0) d_X12_value_0 rfl rfl ?_
  refine Tr.getz (pc := 1) d_X12_value_1 f_12_270 (by decide) (ty_120 hS.1.1) ?_
  refine Tr.gen (P := fun v => 0 ≤ v ∧ v ≤ 1) (ir_120_85 hS.1.2.1) (fun r1 er1 br1 => ?_)
  refine Tr.if_eq (pc := 4) (tgt := 35) d_X12_value_4 rfl (fun c4 => ?_) (fun c4 => ?_)
  · refine Tr.ldcw (pc := 35) d_X12_value_35 k_12_640 (by decide) ?_
    exact Tr.iret (pc := 38) d_X12_value_38 rfl ⟨hS, _, rfl, by omega, by omega⟩
  · refine Tr.iload_n (pc := 7) (i := 1) d_X12_value_7 rfl rfl ?_
    refine Tr.iconst (pc := 8) d_X12_value_8 (by decide) ?_
    refine Tr.aload_n (pc := 9) (i := 0) d_X12_value_9 rfl rfl ?_
    refine Tr.getf (pc := 10) d_X12_value_10 f_12_69 (by decide) (by decide) (ty_120 hS.1.1) ?_
    refine Tr.tp 128 (fx_120_19 hS.1.1) ?_
    refine Tr.aload_n (pc := 13) (i := 0) d_X12_value_13 rfl rfl ?_
    refine Tr.getf (pc := 14) d_X12_value_14 f_12_48 (by decide) (by decide) (ty_120 hS.1.1) ?_
    refine Tr.tp 1 ((St.kp hS (by decide) (by decide) (by decide)).trans en_120_12) ?_
    refine Tr.iald (pc := 17) d_X12_value_17 (ty_128 hS.1.1) (by omega) (by omega) ?_
    refine Tr.gen (P := fun v => 0 ≤ v ∧ v ≤ 6) (ir_128_1 hS.1.2.1) (fun r17 er17 br17 => ?_)
    refine Tr.iconst (pc := 18) d_X12_value_18 (by decide) ?_
    refine Tr.isub (pc := 19) d_X12_value_19 ?_
    refine Tr.tp (r17 - 1) ((w32_id (by omega)).trans (by omega)) ?_
    refine Tr.callS (pc := 20) (as := [_, _, _]) d_X12_value_20 s_12_467 ok_X12_is rfl rfl (Nat.le_of_ble_eq_true rfl) (Nat.le_of_ble_eq_true rfl) ?_
    refine Tr.imp (Tr.deep (by decide) (sp_X12_is hS.1 a1 (by omega) 0 (by omega) (r17 - 1) (by omega))) ?_
    rintro M20 _ ⟨h20, r20, rfl, lr20, ur20, wr20⟩
    have hS := St.tr hS h20 (by decide) (by decide)
    refine Tr.sc [(0, r20)] rfl ?_
    refine Tr.if_eq (pc := 23) (tgt := 35) d_X12_value_23 rfl (fun c23 => ?_) (fun c23 => ?_)
    · refine Tr.ldcw (pc := 35) d_X12_value_35 k_12_640 (by decide) ?_
      exact Tr.iret (pc := 38) d_X12_value_38 rfl ⟨hS, _, rfl, by omega, by omega⟩
    · refine Tr.aload_n (pc := 26) (i := 0) d_X12_value_26 rfl rfl ?_
      refine Tr.getf (pc := 27) d_X12_value_27 f_12_291 (by decide) (by decide) (ty_120 hS.1.1) ?_
      refine Tr.tp 173 (fx_120_92 hS.1.1) ?_
      refine Tr.iload_n (pc := 30) (i := 1) d_X12_value_30 rfl rfl ?_
      refine Tr.iald (pc := 31) d_X12_value_31 (ty_173 hS.1.1) (by omega) (by omega) ?_
      refine Tr.gen (P := fun v => (-2147483648) ≤ v ∧ v ≤ 2147483647) (ar_173 hS.1.2.1 _) (fun r31 er31 br31 => ?_)
      refine Tr.goto (pc := 32) (tgt := 38) d_X12_value_32 rfl ?_
      exact Tr.iret (pc := 38) d_X12_value_38 rfl ⟨hS, _, rfl, by omega, by omega⟩

def ws_X12_spent_120_w1 : List (Int × Int) := []
def as_X12_spent_120_w1 : List Int := []
def q_X12_spent_120_w1 (M0 M' : Mem) (r : Option PV) : Prop := St Tru ws_X12_spent_120_w1 as_X12_spent_120_w1 M0 M' ∧ ∃ v : Int, r = some (0, v) ∧ (-2147483648) ≤ v ∧ v ≤ 2147483647
set_option maxRecDepth 100000 in
set_option maxHeartbeats 4000000 in
theorem sp_X12_spent_120_w1 {l : Launch} {K : EC} {M0 : Mem} (hI : In Tru M0) (en_120_12 : rd M0 120 12 = 1) (a1 : Int) (ha1 : (-2147483648) ≤ a1 ∧ a1 ≤ 2147483647) (a2 : Int) (ha2 : (-2147483648) ≤ a2 ∧ a2 ≤ 2147483647)  : Tr l K 2 mX12_spent 0 [(0, (2, 120)), (1, (0, a1)), (2, (0, a2))] [] M0 (q_X12_spent_120_w1 M0) := by
  have hS : St Tru ws_X12_spent_120_w1 as_X12_spent_120_w1 M0 M0 := St.rf hI
  refine Tr.aload_n (pc := 0) (i := 0) d_X12_spent_0 rfl rfl ?_
  refine Tr.getz (pc := 1) d_X12_spent_1 f_12_270 (by decide) (ty_120 hS.1.1) ?_
  refine Tr.gen (P := fun v => 0 ≤ v ∧ v ≤ 1) (ir_120_85 hS.1.2.1) (fun r1 er1 br1 => ?_)
  refine Tr.if_eq (pc := 4) (tgt := 37) d_X12_spent_4 rfl (fun c4 => ?_) (fun c4 => ?_)
  · refine Tr.iconst (pc := 37) d_X12_spent_37 (by decide) ?_
    exact Tr.iret (pc := 38) d_X12_spent_38 rfl ⟨hS, _, rfl, by omega, by omega⟩
  · refine Tr.aload_n (pc := 7) (i := 0) d_X12_spent_7 rfl rfl ?_
    refine Tr.iload_n (pc := 8) (i := 1) d_X12_spent_8 rfl rfl ?_
    refine Tr.callV (pc := 9) (as := [_]) d_X12_spent_9 s_12_555 ok_X12_isPart rfl rfl (Nat.le_of_ble_eq_true rfl) (Nat.le_of_ble_eq_true rfl) (by decide) (ty_120 hS.1.1) ?_
    refine Tr.imp (Tr.deep (by decide) (sp_X12_isPart_120_w1 hS.1 ((St.kp hS (by decide) (by decide) (by decide)).trans en_120_12) a1 (by omega))) ?_
    rintro M9 _ ⟨h9, r9, rfl, lr9, ur9, z9_0⟩
    have hS := St.tr hS h9 (by decide) (by decide)
    obtain ⟨w9_126_1, ew9_126_1⟩ : ∃ v, rd M9 126 1 = v := ⟨_, rfl⟩
    have bw9_126_1 : 0 ≤ w9_126_1 ∧ w9_126_1 ≤ 6 := by rw [← ew9_126_1]; exact ir_126_1 hS.1.2.1
    have ka9_126_1 : rd M9 126 1 = w9_126_1 := ew9_126_1
    refine Tr.sc [(0, r9)] rfl ?_
    refine Tr.if_eq (pc := 12) (tgt := 37) d_X12_spent_12 rfl (fun c12 => ?_) (fun c12 => ?_)
    · refine Tr.iconst (pc := 37) d_X12_spent_37 (by decide) ?_
      exact Tr.iret (pc := 38) d_X12_spent_38 rfl ⟨hS, _, rfl, by omega, by omega⟩
    · refine Tr.iload_n (pc := 15) (i := 2) d_X12_spent_15 rfl rfl ?_
      refine Tr.iconst (pc := 16) d_X12_spent_16 (by decide) ?_
      refine Tr.iconst (pc := 17) d_X12_spent_17 (by decide) ?_
      refine Tr.callS (pc := 18) (as := [_, _, _]) d_X12_spent_18 s_12_467 ok_X12_is rfl rfl (Nat.le_of_ble_eq_true rfl) (Nat.le_of_ble_eq_true rfl) ?_
      refine Tr.imp (Tr.deep (by decide) (sp_X12_is hS.1 a2 (by omega) 0 (by omega) 3 (by omega))) ?_
      rintro M18 _ ⟨h18, r18, rfl, lr18, ur18, wr18⟩
      have hS := St.tr hS h18 (by decide) (by decide)
      refine Tr.sc [(0, r18)] rfl ?_
      refine Tr.if_eq (pc := 21) (tgt := 37) d_X12_spent_21 rfl (fun c21 => ?_) (fun c21 => ?_)
      · refine Tr.iconst (pc := 37) d_X12_spent_37 (by decide) ?_
        exact Tr.iret (pc := 38) d_X12_spent_38 rfl ⟨hS, _, rfl, by omega, by omega⟩
      · refine Tr.aload_n (pc := 24) (i := 0) d_X12_spent_24 rfl rfl ?_
        refine Tr.getf (pc := 25) d_X12_spent_25 f_12_294 (by decide) (by decide) (ty_120 hS.1.1) ?_
        refine Tr.tp 174 (fx_120_93 hS.1.1) ?_
        refine Tr.iconst (pc := 28) d_X12_spent_28 (by decide) ?_
        refine Tr.iload_n (pc := 29) (i := 1) d_X12_spent_29 rfl rfl ?_
        refine Tr.imul (pc := 30) d_X12_spent_30 ?_
        refine Tr.tp (4 * a1) ((w32_id (by omega)).trans (by omega)) ?_
        refine Tr.iload_n (pc := 31) (i := 2) d_X12_spent_31 rfl rfl ?_
        refine Tr.iadd (pc := 32) d_X12_spent_32 ?_
        refine Tr.tp (4 * a1 + a2) ((w32_id (by omega)).trans (by omega)) ?_
        refine Tr.iald (pc := 33) d_X12_spent_33 (ty_174 hS.1.1) (by omega) (by omega) ?_
        refine Tr.gen (P := fun v => (-2147483648) ≤ v ∧ v ≤ 2147483647) (ar_174 hS.1.2.1 _) (fun r33 er33 br33 => ?_)
        refine Tr.goto (pc := 34) (tgt := 38) d_X12_spent_34 rfl ?_
        exact Tr.iret (pc := 38) d_X12_spent_38 rfl ⟨hS, _, rfl, by omega, by omega⟩

def ws_X12_isLine_120_w1 : List (Int × Int) := []
def as_X12_isLine_120_w1 : List Int := []
def q_X12_isLine_120_w1 (a1 : Int) (M0 M' : Mem) (r : Option PV) : Prop := St Tru ws_X12_isLine_120_w1 as_X12_isLine_120_w1 M0 M' ∧ ∃ v : Int, r = some (0, v) ∧ 0 ≤ v ∧ v ≤ 1 ∧ (v = 0 ∨ (0 ≤ a1 ∧ a1 < rd M' 129 1))
set_option maxRecDepth 100000 in
set_option maxHeartbeats 4000000 in
theorem sp_X12_isLine_120_w1 {l : Launch} {K : EC} {M0 : Mem} (hI : In Tru M0) (en_120_12 : rd M0 120 12 = 1) (a1 : Int) (ha1 : (-2147483648) ≤ a1 ∧ a1 ≤ 2147483647)  : Tr l K 1 mX12_isLine 0 [(0, (2, 120)), (1, (0, a1))] [] M0 (q_X12_isLine_120_w1 a1 M0) := by
  have hS : St Tru ws_X12_isLine_120_w1 as_X12_isLine_120_w1 M0 M0 := St.rf hI
  obtain ⟨g129_1, eg129_1⟩ : ∃ v, rd M0 129 1 = v := ⟨_, rfl⟩
  have bg129_1 : 0 ≤ g129_1 ∧ g129_1 ≤ 60 := by rw [← eg129_1]; exact ir_129_1 hI.2.1
  refine Tr.iload_n (pc := 0) (i := 1) d_X12_isLine_0 rfl rfl ?_
  refine Tr.iconst (pc := 1) d_X12_isLine_1 (by decide) ?_
  refine Tr.aload_n (pc := 2) (i := 0) d_X12_isLine_2 rfl rfl ?_
  refine Tr.getf (pc := 3) d_X12_isLine_3 f_12_72 (by decide) (by decide) (ty_120 hS.1.1) ?_
  refine Tr.tp 129 (fx_120_20 hS.1.1) ?_
  refine Tr.aload_n (pc := 6) (i := 0) d_X12_isLine_6 rfl rfl ?_
  refine Tr.getf (pc := 7) d_X12_isLine_7 f_12_48 (by decide) (by decide) (ty_120 hS.1.1) ?_
  refine Tr.tp 1 ((St.kp hS (by decide) (by decide) (by decide)).trans en_120_12) ?_
  refine Tr.iald (pc := 10) d_X12_isLine_10 (ty_129 hS.1.1) (by omega) (by omega) ?_
  refine Tr.tp g129_1 eg129_1 ?_
  refine Tr.iconst (pc := 11) d_X12_isLine_11 (by decide) ?_
  refine Tr.isub (pc := 12) d_X12_isLine_12 ?_
  refine Tr.tp (g129_1 - 1) ((w32_id (by omega)).trans (by omega)) ?_
  refine Tr.callS (pc := 13) (as := [_, _, _]) d_X12_isLine_13 s_12_467 ok_X12_is rfl rfl (Nat.le_of_ble_eq_true rfl) (Nat.le_of_ble_eq_true rfl) ?_
  refine Tr.imp (Tr.deep (by decide) (sp_X12_is hS.1 a1 (by omega) 0 (by omega) (g129_1 - 1) (by omega))) ?_
  rintro M13 _ ⟨h13, r13, rfl, lr13, ur13, wr13⟩
  have hS := St.tr hS h13 (by decide) (by decide)
  refine Tr.sc [(0, r13)] rfl ?_
  have kr_129_1 : rd M13 129 1 = g129_1 := ((St.kp h13 (by decide) (by decide) (by decide)).trans eg129_1)
  exact Tr.zret (pc := 16) d_X12_isLine_16 rfl (by omega) ⟨hS, _, rfl, by omega, by omega, by omega⟩

set_option maxRecDepth 100000 in
set_option maxHeartbeats 4000000 in
theorem ns_X12_isLine_120_w1 {l : Launch} {K : EC} {M0 : Mem} {G129_1 : Int} (hI : In Tru M0) (k129_1 : rd M0 129 1 = G129_1) (en_120_12 : rd M0 120 12 = 1) (a1 : Int) (ha1 : (-2147483648) ≤ a1 ∧ a1 ≤ 2147483647)  : Tr l K 1 mX12_isLine 0 [(0, (2, 120)), (1, (0, a1))] [] M0 (fun M' r => St Tru ws_X12_isLine_120_w1 as_X12_isLine_120_w1 M0 M' ∧ ∃ v : Int, r = some (0, v) ∧ 0 ≤ v ∧ v ≤ 1 ∧ Hd (v = 0 ∨ (0 ≤ a1 ∧ a1 < G129_1))) := by
  subst k129_1
  refine Tr.imp (sp_X12_isLine_120_w1 hI en_120_12 a1 ha1) ?_
  rintro M' _ ⟨hS, v, rfl, lr, ur, z0⟩
  rewrite [show rd M' 129 1 = rd M0 129 1 from ((St.kp hS (by decide) (by decide) (by decide)).trans rfl)] at z0
  exact ⟨hS, v, rfl, lr, ur, hd_i z0⟩

def ws_X12_rate_120_w1 : List (Int × Int) := []
def as_X12_rate_120_w1 : List Int := []
def q_X12_rate_120_w1 (a1 : Int) (a2 : Int) (M0 M' : Mem) (r : Option PV) : Prop := St Tru ws_X12_rate_120_w1 as_X12_rate_120_w1 M0 M' ∧ ∃ v : Int, r = some (0, v) ∧ (-2147483648) ≤ v ∧ v ≤ 2147483647 ∧ (a2 ≠ 5 ∨ rd M' 126 1 ≤ a1 ∨ v ≤ 50)
set_option maxRecDepth 100000 in
set_option maxHeartbeats 4000000 in
theorem sp_X12_rate_120_w1 {l : Launch} {K : EC} {M0 : Mem} (hI : In Tru M0) (en_120_12 : rd M0 120 12 = 1) (a1 : Int) (ha1 : 0 ≤ a1 ∧ a1 ≤ 5) (a2 : Int) (ha2 : 0 ≤ a2 ∧ a2 ≤ 5)  (hF_Bk1 : Bk1 M0) : Tr l K 0 mX12_rate 0 [(0, (2, 120)), (1, (0, a1)), (2, (0, a2))] [] M0 (q_X12_rate_120_w1 a1 a2 M0) := by
  have hS : St Tru ws_X12_rate_120_w1 as_X12_rate_120_w1 M0 M0 := St.rf hI
  obtain ⟨g126_1, eg126_1⟩ : ∃ v, rd M0 126 1 = v := ⟨_, rfl⟩
  have bg126_1 : 0 ≤ g126_1 ∧ g126_1 ≤ 6 := by rw [← eg126_1]; exact ir_126_1 hI.2.1
  refine Tr.aload_n (pc := 0) (i := 0) d_X12_rate_0 rfl rfl ?_
  refine Tr.getf (pc := 1) d_X12_rate_1 f_12_79 (by decide) (by decide) (ty_120 hS.1.1) ?_
  refine Tr.tp 131 (fx_120_22 hS.1.1) ?_
  refine Tr.bipush (pc := 4) d_X12_rate_4 rfl (by decide) ?_
  refine Tr.bipush (pc := 6) d_X12_rate_6 rfl (by decide) ?_
  refine Tr.aload_n (pc := 8) (i := 0) d_X12_rate_8 rfl rfl ?_
  refine Tr.getf (pc := 9) d_X12_rate_9 f_12_48 (by decide) (by decide) (ty_120 hS.1.1) ?_
  refine Tr.tp 1 ((St.kp hS (by decide) (by decide) (by decide)).trans en_120_12) ?_
  refine Tr.imul (pc := 12) d_X12_rate_12 ?_
  refine Tr.tp 6 (by decide) ?_
  refine Tr.iload_n (pc := 13) (i := 1) d_X12_rate_13 rfl rfl ?_
  refine Tr.iadd (pc := 14) d_X12_rate_14 ?_
  refine Tr.tp (a1 + 6) ((w32_id (by omega)).trans (by omega)) ?_
  refine Tr.imul (pc := 15) d_X12_rate_15 ?_
  refine Tr.tp (6 * a1 + 36) ((w32_id (by omega)).trans (by omega)) ?_
  refine Tr.iload_n (pc := 16) (i := 2) d_X12_rate_16 rfl rfl ?_
  refine Tr.iadd (pc := 17) d_X12_rate_17 ?_
  refine Tr.tp (6 * a1 + a2 + 36) ((w32_id (by omega)).trans (by omega)) ?_
  refine Tr.iald (pc := 18) d_X12_rate_18 (ty_131 hS.1.1) (by omega) (by omega) ?_
  refine Tr.gen (P := fun v => ((-2147483648) ≤ v ∧ v ≤ 2147483647) ∧ (a2 ≠ 5 ∨ g126_1 ≤ a1 ∨ v ≤ 50)) (by have h9 := (ar_131 hS.1.2.1 ((6 * a1 + a2 + 36))); have h8 := Bk1_rt (Bk1.of hF_Bk1 (fun j => (St.ka hS (by decide) (by decide) (by decide))) (fun j => (St.ka hS (by decide) (by decide) (by decide))) (fun j => (St.ka hS (by decide) (by decide) (by decide))) (fun j => (St.ka hS (by decide) (by decide) (by decide))) (fun j => (St.ka hS (by decide) (by decide) (by decide))) (fun j => (St.ka hS (by decide) (by decide) (by decide))) (fun j => (St.ka hS (by decide) (by decide) (by decide))) (fun j => (St.ka hS (by decide) (by decide) (by decide))) (St.kp hS (by decide) (by decide) (by decide)) (St.kp hS (by decide) (by decide) (by decide)) (St.kp hS (by decide) (by decide) (by decide)) (St.kp hS (by decide) (by decide) (by decide))) (p := a1) (k := a2) (i := (6 * a1 + a2 + 36)) (by omega) (by omega); have e8 := eg126_1; rw [e8] at h8; exact ⟨h9, h8⟩) (fun r18 er18 br18 => ?_)
  have kr_126_1 : rd M0 126 1 = g126_1 := eg126_1
  exact Tr.iret (pc := 19) d_X12_rate_19 rfl ⟨hS, _, rfl, by omega, by omega, by omega⟩

def ws_X12_sharesOf_120_w1 : List (Int × Int) := [(120, 97), (120, 98), (120, 99)]
def as_X12_sharesOf_120_w1 : List Int := []
def q_X12_sharesOf_120_w1 (M0 M' : Mem) (r : Option PV) : Prop := St Tru ws_X12_sharesOf_120_w1 as_X12_sharesOf_120_w1 M0 M' ∧ ∃ v : Int, r = some (1, v) ∧ (-9223372036854775808) ≤ v ∧ v ≤ 9223372036854775807
set_option maxRecDepth 100000 in
set_option maxHeartbeats 4000000 in
theorem sp_X12_sharesOf_120_w1 {l : Launch} {K : EC} {M0 : Mem} (hI : In Tru M0) (en_120_12 : rd M0 120 12 = 1) (a1 : Int) (ha1 : 0 ≤ a1 ∧ a1 ≤ 5) (a2 : Int) (ha2 : (-2147483648) ≤ a2 ∧ a2 ≤ 2147483647)  (hF_Bk1 : Bk1 M0) : Tr l K 2 mX12_sharesOf 0 [(0, (2, 120)), (1, (0, a1)), (2, (0, a2))] [] M0 (q_X12_sharesOf_120_w1 M0) := by
  have hS : St Tru ws_X12_sharesOf_120_w1 as_X12_sharesOf_120_w1 M0 M0 := St.rf hI
  refine Tr.lconst (pc := 0) (v := 0) d_X12_sharesOf_0 rfl (by decide) ?_
  refine Tr.lstore_n (pc := 1) (i := 3) (ls2 := [(3, (1, 0)), (0, (2, 120)), (1, (0, a1)), (2, (0, a2))]) d_X12_sharesOf_1 rfl (by decide) rfl ?_
  refine Tr.iconst (pc := 2) d_X12_sharesOf_2 (by decide) ?_
  refine Tr.istore (pc := 3) (i := 5) (ls2 := [(5, (0, 1)), (3, (1, 0)), (0, (2, 120)), (1, (0, a1)), (2, (0, a2))]) d_X12_sharesOf_3 (by decide) rfl ?_
  refine Tr.iconst (pc := 5) d_X12_sharesOf_5 (by decide) ?_
  refine Tr.istore (pc := 6) (i := 6) (ls2 := [(6, (0, 0)), (5, (0, 1)), (3, (1, 0)), (0, (2, 120)), (1, (0, a1)), (2, (0, a2))]) d_X12_sharesOf_6 (by decide) rfl ?_
  have J8 : ∀ (n8 : Nat) (M : Mem) (p8_3 p8_5 p8_6 : Int), St Tru ws_X12_sharesOf_120_w1 as_X12_sharesOf_120_w1 M0 M → ((-9223372036854775808) ≤ p8_3 ∧ p8_3 ≤ 9223372036854775807) → (0 ≤ p8_5 ∧ p8_5 ≤ 1) → (0 ≤ p8_6 ∧ p8_6 ≤ 2147483647) → (p8_6 ≤ 2102 ∧ (p8_5 = 0 ∨ p8_6 ≤ 2101)) → (2300 - p8_6).toNat < n8 → Tr l K 2 mX12_sharesOf 8 [(0, (2, 120)), (1, (0, a1)), (2, (0, a2)), (3, (1, p8_3)), (5, (0, p8_5)), (6, (0, p8_6))] [] M (q_X12_sharesOf_120_w1 M0) := by
    intro n8
    induction n8 with
    | zero => intro M p8_3 p8_5 p8_6 hS bp8_3 bp8_5 bp8_6  t8_0 hm8; exact absurd hm8 (Nat.not_lt_zero _)
    | succ n8 J8 =>
      intro M p8_3 p8_5 p8_6 hS bp8_3 bp8_5 bp8_6  t8_0 hm8
      refine Tr.iload (pc := 8) (i := 5) d_X12_sharesOf_8 rfl ?_
      refine Tr.if_eq (pc := 10) (tgt := 117) d_X12_sharesOf_10 rfl (fun c10 => ?_) (fun c10 => ?_)
      · refine Tr.lload_n (pc := 117) (i := 3) d_X12_sharesOf_117 rfl rfl ?_
        exact Tr.lret (pc := 118) d_X12_sharesOf_118 rfl ⟨hS, _, rfl, by omega, by omega⟩
      · refine Tr.aload_n (pc := 13) (i := 0) d_X12_sharesOf_13 rfl rfl ?_
        refine Tr.iload_n (pc := 14) (i := 1) d_X12_sharesOf_14 rfl rfl ?_
        refine Tr.iload (pc := 15) (i := 6) d_X12_sharesOf_15 rfl ?_
        refine Tr.callV (pc := 17) (as := [_, _]) d_X12_sharesOf_17 s_12_644 ok_X12_finds rfl rfl (Nat.le_of_ble_eq_true rfl) (Nat.le_of_ble_eq_true rfl) (by decide) (ty_120 hS.1.1) ?_
        refine Tr.imp (Tr.deep (by decide) (sp_X12_finds_120 hS.1 a1 (by omega) p8_6 (by omega))) ?_
        rintro M17 _ ⟨h17, r17, rfl, lr17, ur17, z17_0⟩
        have hS := St.tr hS h17 (by decide) (by decide)
        refine Tr.sc [(0, r17)] rfl ?_
        refine Tr.istore (pc := 20) (i := 5) (ls2 := [(5, (0, r17)), (0, (2, 120)), (1, (0, a1)), (2, (0, a2)), (3, (1, p8_3)), (6, (0, p8_6))]) d_X12_sharesOf_20 (by decide) rfl ?_
        refine Tr.iload (pc := 22) (i := 5) d_X12_sharesOf_22 rfl ?_
        have J111 : ∀ (M : Mem) (p111_3 : Int), St Tru ws_X12_sharesOf_120_w1 as_X12_sharesOf_120_w1 M0 M → ((-9223372036854775808) ≤ p111_3 ∧ p111_3 ≤ 9223372036854775807) → (p8_6 ≤ 2101 ∧ (r17 = 0 ∨ p8_6 ≤ 2100)) → Tr l K 2 mX12_sharesOf 111 [(0, (2, 120)), (1, (0, a1)), (2, (0, a2)), (3, (1, p111_3)), (5, (0, r17)), (6, (0, p8_6))] [] M (q_X12_sharesOf_120_w1 M0) := by
          intro M p111_3 hS bp111_3  t111_0
          refine Tr.iincV (pc := 111) (n2 := (p8_6 + 1)) (ls2 := [(6, (0, (p8_6 + 1))), (0, (2, 120)), (1, (0, a1)), (2, (0, a2)), (3, (1, p111_3)), (5, (0, r17))]) d_X12_sharesOf_111 rfl (by decide) ((w32_id (by omega)).trans (by omega)) rfl ?_
          refine Tr.goto (pc := 114) (tgt := 8) d_X12_sharesOf_114 rfl ?_
          refine Tr.pick [1, 2, 3, 4, 5, 0] (ls2 := [(0, (2, 120)), (1, (0, a1)), (2, (0, a2)), (3, (1, p111_3)), (5, (0, r17)), (6, (0, (p8_6 + 1)))]) rfl ?_
          exact J8 _ _ _ _ hS (by omega) (by omega) (by omega) (by first | assumption | omega) (by omega)
        refine Tr.if_ne (pc := 24) (tgt := 30) d_X12_sharesOf_24 rfl (fun c24 => ?_) (fun c24 => ?_)
        · refine Tr.aload_n (pc := 30) (i := 0) d_X12_sharesOf_30 rfl rfl ?_
          refine Tr.iload_n (pc := 31) (i := 1) d_X12_sharesOf_31 rfl rfl ?_
          refine Tr.callV (pc := 32) (as := [_]) d_X12_sharesOf_32 s_12_650 ok_X12_linesIn rfl rfl (Nat.le_of_ble_eq_true rfl) (Nat.le_of_ble_eq_true rfl) (by decide) (ty_120 hS.1.1) ?_
          refine Tr.imp (Tr.deep (by decide) (sp_X12_linesIn_120 hS.1 a1 (by omega))) ?_
          rintro M32 _ ⟨h32, r32, rfl, lr32, ur32⟩
          have hS := St.tr hS h32 (by decide) (by decide)
          refine Tr.sc [(1, r32)] rfl ?_
          refine Tr.lstore (pc := 35) (i := 7) (ls2 := [(7, (1, r32)), (5, (0, r17)), (0, (2, 120)), (1, (0, a1)), (2, (0, a2)), (3, (1, p8_3)), (6, (0, p8_6))]) d_X12_sharesOf_35 (by decide) rfl ?_
          refine Tr.lload (pc := 37) (i := 7) d_X12_sharesOf_37 rfl ?_
          refine Tr.iload_n (pc := 39) (i := 2) d_X12_sharesOf_39 rfl rfl ?_
          refine Tr.lshr (pc := 40) d_X12_sharesOf_40 ?_
          refine Tr.gen (P := fun v => ((-9223372036854775808) ≤ v ∧ v ≤ 9223372036854775807) ∧ (r32 ≠ 0 ∨ v = 0)) (lshr_z _ _) (fun r40 er40 br40 => ?_)
          refine Tr.lconst (pc := 41) (v := 1) d_X12_sharesOf_41 rfl (by decide) ?_
          refine Tr.land (pc := 42) d_X12_sharesOf_42 ?_
          refine Tr.gen (P := fun v => v = r40 % 2 ∧ (0 ≤ v ∧ v ≤ 1)) ⟨(f_land_1 _).1, (f_land_1 _).2⟩ (fun r42 er42 br42 => ?_)
          refine Tr.lconst (pc := 43) (v := 0) d_X12_sharesOf_43 rfl (by decide) ?_
          refine Tr.lcmp (pc := 44) d_X12_sharesOf_44 ?_
          refine Tr.gen (P := fun v => (v = 1 ∧ 0 < r42) ∨ (v = 0 ∧ r42 = 0) ∨ (v = -1 ∧ r42 < 0)) (f_lcmp_c _ _) (fun r44 er44 br44 => ?_)
          refine Tr.if_ne (pc := 45) (tgt := 51) d_X12_sharesOf_45 rfl (fun c45 => ?_) (fun c45 => ?_)
          · refine Tr.lload (pc := 51) (i := 7) d_X12_sharesOf_51 rfl ?_
            refine Tr.callS (pc := 53) (as := [_]) d_X12_sharesOf_53 s_12_653 ok_X12_bitsOf rfl rfl (Nat.le_of_ble_eq_true rfl) (Nat.le_of_ble_eq_true rfl) ?_
            refine Tr.imp (Tr.deep (by decide) (sp_X12_bitsOf hS.1 r32 (by omega))) ?_
            rintro M53 _ ⟨h53, r53, rfl, lr53, ur53, wr53⟩
            have hS := St.tr hS h53 (by decide) (by decide)
            refine Tr.sc [(0, r53)] rfl ?_
            refine Tr.istore (pc := 56) (i := 9) (ls2 := [(9, (0, r53)), (7, (1, r32)), (5, (0, r17)), (0, (2, 120)), (1, (0, a1)), (2, (0, a2)), (3, (1, p8_3)), (6, (0, p8_6))]) d_X12_sharesOf_56 (by decide) rfl ?_
            refine Tr.aload_n (pc := 58) (i := 0) d_X12_sharesOf_58 rfl rfl ?_
            refine Tr.iload_n (pc := 59) (i := 1) d_X12_sharesOf_59 rfl rfl ?_
            refine Tr.callV (pc := 60) (as := [_]) d_X12_sharesOf_60 s_12_647 ok_X12_onIn rfl rfl (Nat.le_of_ble_eq_true rfl) (Nat.le_of_ble_eq_true rfl) (by decide) (ty_120 hS.1.1) ?_
            refine Tr.imp (Tr.deep (by decide) (sp_X12_onIn_120 hS.1 a1 (by omega))) ?_
            rintro M60 _ ⟨h60, r60, rfl, lr60, ur60⟩
            have hS := St.tr hS h60 (by decide) (by decide)
            refine Tr.sc [(0, r60)] rfl ?_
            refine Tr.i2l (pc := 63) d_X12_sharesOf_63 ?_
            refine Tr.aload_n (pc := 64) (i := 0) d_X12_sharesOf_64 rfl rfl ?_
            refine Tr.iload_n (pc := 65) (i := 1) d_X12_sharesOf_65 rfl rfl ?_
            refine Tr.iconst (pc := 66) d_X12_sharesOf_66 (by decide) ?_
            refine Tr.callV (pc := 67) (as := [_, _]) d_X12_sharesOf_67 s_12_565 ok_X12_rate rfl rfl (Nat.le_of_ble_eq_true rfl) (Nat.le_of_ble_eq_true rfl) (by decide) (ty_120 hS.1.1) ?_
            refine Tr.imp (Tr.deep (by decide) (sp_X12_rate_120_w1 hS.1 ((St.kp hS (by decide) (by decide) (by decide)).trans en_120_12) a1 (by omega) 3 (by omega) (Bk1.of hF_Bk1 (fun j => (St.ka hS (by decide) (by decide) (by decide))) (fun j => (St.ka hS (by decide) (by decide) (by decide))) (fun j => (St.ka hS (by decide) (by decide) (by decide))) (fun j => (St.ka hS (by decide) (by decide) (by decide))) (fun j => (St.ka hS (by decide) (by decide) (by decide))) (fun j => (St.ka hS (by decide) (by decide) (by decide))) (fun j => (St.ka hS (by decide) (by decide) (by decide))) (fun j => (St.ka hS (by decide) (by decide) (by decide))) (St.kp hS (by decide) (by decide) (by decide)) (St.kp hS (by decide) (by decide) (by decide)) (St.kp hS (by decide) (by decide) (by decide)) (St.kp hS (by decide) (by decide) (by decide))))) ?_
            rintro M67 _ ⟨h67, r67, rfl, lr67, ur67, z67_0⟩
            have hS := St.tr hS h67 (by decide) (by decide)
            obtain ⟨w67_126_1, ew67_126_1⟩ : ∃ v, rd M67 126 1 = v := ⟨_, rfl⟩
            have bw67_126_1 : 0 ≤ w67_126_1 ∧ w67_126_1 ≤ 6 := by rw [← ew67_126_1]; exact ir_126_1 hS.1.2.1
            have ka67_126_1 : rd M67 126 1 = w67_126_1 := ew67_126_1
            refine Tr.sc [(0, r67), (1, r60)] rfl ?_
            refine Tr.i2l (pc := 70) d_X12_sharesOf_70 ?_
            refine Tr.lmul (pc := 71) d_X12_sharesOf_71 ?_
            refine Tr.gen (P := fun v => (-9223372036854775808) ≤ v ∧ v ≤ 9223372036854775807) (w64_b _) (fun r71 er71 br71 => ?_)
            refine Tr.lstore (pc := 72) (i := 10) (ls2 := [(10, (1, r71)), (9, (0, r53)), (7, (1, r32)), (5, (0, r17)), (0, (2, 120)), (1, (0, a1)), (2, (0, a2)), (3, (1, p8_3)), (6, (0, p8_6))]) d_X12_sharesOf_72 (by decide) rfl ?_
            refine Tr.lload_n (pc := 74) (i := 3) d_X12_sharesOf_74 rfl rfl ?_
            refine Tr.lload (pc := 75) (i := 10) d_X12_sharesOf_75 rfl ?_
            refine Tr.iload (pc := 77) (i := 9) d_X12_sharesOf_77 rfl ?_
            refine Tr.i2l (pc := 79) d_X12_sharesOf_79 ?_
            refine Tr.ldiv (pc := 80) d_X12_sharesOf_80 (by omega) ?_
            refine Tr.gen (P := fun v => (-9223372036854775808) ≤ v ∧ v ≤ 9223372036854775807) (w64_b _) (fun r80 er80 br80 => ?_)
            refine Tr.lload (pc := 81) (i := 7) d_X12_sharesOf_81 rfl ?_
            refine Tr.lconst (pc := 83) (v := 1) d_X12_sharesOf_83 rfl (by decide) ?_
            refine Tr.iload_n (pc := 84) (i := 2) d_X12_sharesOf_84 rfl rfl ?_
            refine Tr.lshl (pc := 85) d_X12_sharesOf_85 ?_
            refine Tr.gen (P := fun v => (-9223372036854775808) ≤ v ∧ v ≤ 9223372036854775807) (i64_b _) (fun r85 er85 br85 => ?_)
            refine Tr.lconst (pc := 86) (v := 1) d_X12_sharesOf_86 rfl (by decide) ?_
            refine Tr.lsub (pc := 87) d_X12_sharesOf_87 ?_
            refine Tr.gen (P := fun v => (-9223372036854775808) ≤ v ∧ v ≤ 9223372036854775807) (w64_b _) (fun r87 er87 br87 => ?_)
            refine Tr.land (pc := 88) d_X12_sharesOf_88 ?_
            refine Tr.gen (P := fun v => (-9223372036854775808) ≤ v ∧ v ≤ 9223372036854775807) (i64_b _) (fun r88 er88 br88 => ?_)
            refine Tr.callS (pc := 89) (as := [_]) d_X12_sharesOf_89 s_12_653 ok_X12_bitsOf rfl rfl (Nat.le_of_ble_eq_true rfl) (Nat.le_of_ble_eq_true rfl) ?_
            refine Tr.imp (Tr.deep (by decide) (sp_X12_bitsOf hS.1 r88 (by omega))) ?_
            rintro M89 _ ⟨h89, r89, rfl, lr89, ur89, wr89⟩
            have hS := St.tr hS h89 (by decide) (by decide)
            refine Tr.sc [(0, r89), (1, r80), (1, p8_3)] rfl ?_
            refine Tr.i2l (pc := 92) d_X12_sharesOf_92 ?_
            refine Tr.lload (pc := 93) (i := 10) d_X12_sharesOf_93 rfl ?_
            refine Tr.iload (pc := 95) (i := 9) d_X12_sharesOf_95 rfl ?_
            refine Tr.i2l (pc := 97) d_X12_sharesOf_97 ?_
            refine Tr.lrem (pc := 98) d_X12_sharesOf_98 (by omega) ?_
            refine Tr.gen (P := fun v => (-9223372036854775808) ≤ v ∧ v ≤ 9223372036854775807) (rem64_b _ _ (by omega)) (fun r98 er98 br98 => ?_)
            refine Tr.lcmp (pc := 99) d_X12_sharesOf_99 ?_
            refine Tr.gen (P := fun v => (v = 1 ∧ r98 < r89) ∨ (v = 0 ∧ r89 = r98) ∨ (v = -1 ∧ r89 < r98)) (f_lcmp_c _ _) (fun r99 er99 br99 => ?_)
            have J108 : ∀ (M : Mem) (q108_2 : Int), St Tru ws_X12_sharesOf_120_w1 as_X12_sharesOf_120_w1 M0 M → (0 ≤ q108_2 ∧ q108_2 ≤ 1) → rd M 126 1 = w67_126_1 → Tr l K 2 mX12_sharesOf 108 [(0, (2, 120)), (1, (0, a1)), (2, (0, a2)), (5, (0, r17)), (6, (0, p8_6))] [(1, q108_2), (1, r80), (1, p8_3)] M (q_X12_sharesOf_120_w1 M0) := by
              intro M q108_2 hS bq108_2 k108_126_1
              refine Tr.ladd (pc := 108) d_X12_sharesOf_108 ?_
              refine Tr.gen (P := fun v => (-9223372036854775808) ≤ v ∧ v ≤ 9223372036854775807) (w64_b _) (fun r108 er108 br108 => ?_)
              refine Tr.ladd (pc := 109) d_X12_sharesOf_109 ?_
              refine Tr.gen (P := fun v => (-9223372036854775808) ≤ v ∧ v ≤ 9223372036854775807) (w64_b _) (fun r109 er109 br109 => ?_)
              refine Tr.lstore_n (pc := 110) (i := 3) (ls2 := [(3, (1, r109)), (0, (2, 120)), (1, (0, a1)), (2, (0, a2)), (5, (0, r17)), (6, (0, p8_6))]) d_X12_sharesOf_110 rfl (by decide) rfl ?_
              refine Tr.pick [1, 2, 3, 0, 4, 5] (ls2 := [(0, (2, 120)), (1, (0, a1)), (2, (0, a2)), (3, (1, r109)), (5, (0, r17)), (6, (0, p8_6))]) rfl ?_
              exact J111 _ _ hS (by omega) (by first | assumption | omega)
            refine Tr.if_ge (pc := 100) (tgt := 107) d_X12_sharesOf_100 rfl (fun c100 => ?_) (fun c100 => ?_)
            · refine Tr.lconst (pc := 107) (v := 0) d_X12_sharesOf_107 rfl (by decide) ?_
              refine Tr.pick [4, 5, 6, 3, 8] (ls2 := [(0, (2, 120)), (1, (0, a1)), (2, (0, a2)), (5, (0, r17)), (6, (0, p8_6))]) rfl ?_
              exact J108 _ _ hS (by omega) ((St.kp h89 (by decide) (by decide) (by decide)).trans ew67_126_1)
            · refine Tr.lconst (pc := 103) (v := 1) d_X12_sharesOf_103 rfl (by decide) ?_
              refine Tr.goto (pc := 104) (tgt := 108) d_X12_sharesOf_104 rfl ?_
              refine Tr.pick [4, 5, 6, 3, 8] (ls2 := [(0, (2, 120)), (1, (0, a1)), (2, (0, a2)), (5, (0, r17)), (6, (0, p8_6))]) rfl ?_
              exact J108 _ _ hS (by omega) ((St.kp h89 (by decide) (by decide) (by decide)).trans ew67_126_1)
          · refine Tr.goto (pc := 48) (tgt := 111) d_X12_sharesOf_48 rfl ?_
            refine Tr.pick [2, 3, 4, 5, 1, 6] (ls2 := [(0, (2, 120)), (1, (0, a1)), (2, (0, a2)), (3, (1, p8_3)), (5, (0, r17)), (6, (0, p8_6))]) rfl ?_
            exact J111 _ _ hS (by omega) (by first | assumption | omega)
        · refine Tr.goto (pc := 27) (tgt := 111) d_X12_sharesOf_27 rfl ?_
          refine Tr.pick [1, 2, 3, 4, 0, 5] (ls2 := [(0, (2, 120)), (1, (0, a1)), (2, (0, a2)), (3, (1, p8_3)), (5, (0, r17)), (6, (0, p8_6))]) rfl ?_
          exact J111 _ _ hS (by omega) (by first | assumption | omega)
  refine Tr.pick [3, 4, 5, 2, 1, 0] (ls2 := [(0, (2, 120)), (1, (0, a1)), (2, (0, a2)), (3, (1, 0)), (5, (0, 1)), (6, (0, 0))]) rfl ?_
  exact J8 _ _ _ _ _ hS (by omega) (by omega) (by omega) (by first | assumption | omega) (Nat.lt_succ_self _)

def ws_X12_sleeps_120_w1 : List (Int × Int) := []
def as_X12_sleeps_120_w1 : List Int := []
def q_X12_sleeps_120_w1 (M0 M' : Mem) (r : Option PV) : Prop := St Tru ws_X12_sleeps_120_w1 as_X12_sleeps_120_w1 M0 M' ∧ ∃ v : Int, r = some (0, v) ∧ (-2147483648) ≤ v ∧ v ≤ 2147483647
set_option maxRecDepth 100000 in
set_option maxHeartbeats 4000000 in
theorem sp_X12_sleeps_120_w1 {l : Launch} {K : EC} {M0 : Mem} (hI : In Tru M0) (en_120_12 : rd M0 120 12 = 1) (a1 : Int) (ha1 : 0 ≤ a1 ∧ a1 ≤ 5)  (hF_Bk1 : Bk1 M0) : Tr l K 1 mX12_sleeps 0 [(0, (2, 120)), (1, (0, a1))] [] M0 (q_X12_sleeps_120_w1 M0) := by
  have hS : St Tru ws_X12_sleeps_120_w1 as_X12_sleeps_120_w1 M0 M0 := St.rf hI
  refine Tr.aload_n (pc := 0) (i := 0) d_X12_sleeps_0 rfl rfl ?_
  refine Tr.iload_n (pc := 1) (i := 1) d_X12_sleeps_1 rfl rfl ?_
  refine Tr.iconst (pc := 2) d_X12_sleeps_2 (by decide) ?_
  refine Tr.callV (pc := 3) (as := [_, _]) d_X12_sleeps_3 s_12_565 ok_X12_rate rfl rfl (Nat.le_of_ble_eq_true rfl) (Nat.le_of_ble_eq_true rfl) (by decide) (ty_120 hS.1.1) ?_
  refine Tr.imp (Tr.deep (by decide) (sp_X12_rate_120_w1 hS.1 ((St.kp hS (by decide) (by decide) (by decide)).trans en_120_12) a1 (by omega) 0 (by omega) (Bk1.of hF_Bk1 (fun j => (St.ka hS (by decide) (by decide) (by decide))) (fun j => (St.ka hS (by decide) (by decide) (by decide))) (fun j => (St.ka hS (by decide) (by decide) (by decide))) (fun j => (St.ka hS (by decide) (by decide) (by decide))) (fun j => (St.ka hS (by decide) (by decide) (by decide))) (fun j => (St.ka hS (by decide) (by decide) (by decide))) (fun j => (St.ka hS (by decide) (by decide) (by decide))) (fun j => (St.ka hS (by decide) (by decide) (by decide))) (St.kp hS (by decide) (by decide) (by decide)) (St.kp hS (by decide) (by decide) (by decide)) (St.kp hS (by decide) (by decide) (by decide)) (St.kp hS (by decide) (by decide) (by decide))))) ?_
  rintro M3 _ ⟨h3, r3, rfl, lr3, ur3, z3_0⟩
  have hS := St.tr hS h3 (by decide) (by decide)
  obtain ⟨w3_126_1, ew3_126_1⟩ : ∃ v, rd M3 126 1 = v := ⟨_, rfl⟩
  have bw3_126_1 : 0 ≤ w3_126_1 ∧ w3_126_1 ≤ 6 := by rw [← ew3_126_1]; exact ir_126_1 hS.1.2.1
  have ka3_126_1 : rd M3 126 1 = w3_126_1 := ew3_126_1
  refine Tr.sc [(0, r3)] rfl ?_
  exact Tr.iret (pc := 6) d_X12_sleeps_6 rfl ⟨hS, _, rfl, by omega, by omega⟩

def ws_X12_sips_120_w1 : List (Int × Int) := []
def as_X12_sips_120_w1 : List Int := []
def q_X12_sips_120_w1 (M0 M' : Mem) (r : Option PV) : Prop := St Tru ws_X12_sips_120_w1 as_X12_sips_120_w1 M0 M' ∧ ∃ v : Int, r = some (0, v) ∧ (-2147483648) ≤ v ∧ v ≤ 2147483647
set_option maxRecDepth 100000 in
set_option maxHeartbeats 4000000 in
theorem sp_X12_sips_120_w1 {l : Launch} {K : EC} {M0 : Mem} (hI : In Tru M0) (en_120_12 : rd M0 120 12 = 1) (a1 : Int) (ha1 : 0 ≤ a1 ∧ a1 ≤ 5) (a2 : Int) (ha2 : 0 ≤ a2 ∧ a2 ≤ 3)  (hF_Bk1 : Bk1 M0) : Tr l K 2 mX12_sips 0 [(0, (2, 120)), (1, (0, a1)), (2, (0, a2))] [] M0 (q_X12_sips_120_w1 M0) := by
  have hS : St Tru ws_X12_sips_120_w1 as_X12_sips_120_w1 M0 M0 := St.rf hI
  refine Tr.iload_n (pc := 0) (i := 2) d_X12_sips_0 rfl rfl ?_
  refine Tr.if_ne (pc := 1) (tgt := 12) d_X12_sips_1 rfl (fun c1 => ?_) (fun c1 => ?_)
  · refine Tr.iload_n (pc := 12) (i := 2) d_X12_sips_12 rfl rfl ?_
    refine Tr.iconst (pc := 13) d_X12_sips_13 (by decide) ?_
    refine Tr.icmp_ne (pc := 14) (tgt := 26) d_X12_sips_14 rfl (fun c14 => ?_) (fun c14 => ?_)
    · refine Tr.iload_n (pc := 26) (i := 2) d_X12_sips_26 rfl rfl ?_
      refine Tr.iconst (pc := 27) d_X12_sips_27 (by decide) ?_
      refine Tr.icmp_ne (pc := 28) (tgt := 40) d_X12_sips_28 rfl (fun c28 => ?_) (fun c28 => ?_)
      · refine Tr.aload_n (pc := 40) (i := 0) d_X12_sips_40 rfl rfl ?_
        refine Tr.iload_n (pc := 41) (i := 1) d_X12_sips_41 rfl rfl ?_
        refine Tr.iconst (pc := 42) d_X12_sips_42 (by decide) ?_
        refine Tr.callV (pc := 43) (as := [_, _]) d_X12_sips_43 s_12_565 ok_X12_rate rfl rfl (Nat.le_of_ble_eq_true rfl) (Nat.le_of_ble_eq_true rfl) (by decide) (ty_120 hS.1.1) ?_
        refine Tr.imp (Tr.deep (by decide) (sp_X12_rate_120_w1 hS.1 ((St.kp hS (by decide) (by decide) (by decide)).trans en_120_12) a1 (by omega) 4 (by omega) (Bk1.of hF_Bk1 (fun j => (St.ka hS (by decide) (by decide) (by decide))) (fun j => (St.ka hS (by decide) (by decide) (by decide))) (fun j => (St.ka hS (by decide) (by decide) (by decide))) (fun j => (St.ka hS (by decide) (by decide) (by decide))) (fun j => (St.ka hS (by decide) (by decide) (by decide))) (fun j => (St.ka hS (by decide) (by decide) (by decide))) (fun j => (St.ka hS (by decide) (by decide) (by decide))) (fun j => (St.ka hS (by decide) (by decide) (by decide))) (St.kp hS (by decide) (by decide) (by decide)) (St.kp hS (by decide) (by decide) (by decide)) (St.kp hS (by decide) (by decide) (by decide)) (St.kp hS (by decide) (by decide) (by decide))))) ?_
        rintro M43 _ ⟨h43, r43, rfl, lr43, ur43, z43_0⟩
        have hS := St.tr hS h43 (by decide) (by decide)
        obtain ⟨w43_126_1, ew43_126_1⟩ : ∃ v, rd M43 126 1 = v := ⟨_, rfl⟩
        have bw43_126_1 : 0 ≤ w43_126_1 ∧ w43_126_1 ≤ 6 := by rw [← ew43_126_1]; exact ir_126_1 hS.1.2.1
        have ka43_126_1 : rd M43 126 1 = w43_126_1 := ew43_126_1
        refine Tr.sc [(0, r43)] rfl ?_
        exact Tr.iret (pc := 46) d_X12_sips_46 rfl ⟨hS, _, rfl, by omega, by omega⟩
      · refine Tr.aload_n (pc := 31) (i := 0) d_X12_sips_31 rfl rfl ?_
        refine Tr.iload_n (pc := 32) (i := 1) d_X12_sips_32 rfl rfl ?_
        refine Tr.iconst (pc := 33) d_X12_sips_33 (by decide) ?_
        refine Tr.callV (pc := 34) (as := [_, _]) d_X12_sips_34 s_12_565 ok_X12_rate rfl rfl (Nat.le_of_ble_eq_true rfl) (Nat.le_of_ble_eq_true rfl) (by decide) (ty_120 hS.1.1) ?_
        refine Tr.imp (Tr.deep (by decide) (sp_X12_rate_120_w1 hS.1 ((St.kp hS (by decide) (by decide) (by decide)).trans en_120_12) a1 (by omega) 3 (by omega) (Bk1.of hF_Bk1 (fun j => (St.ka hS (by decide) (by decide) (by decide))) (fun j => (St.ka hS (by decide) (by decide) (by decide))) (fun j => (St.ka hS (by decide) (by decide) (by decide))) (fun j => (St.ka hS (by decide) (by decide) (by decide))) (fun j => (St.ka hS (by decide) (by decide) (by decide))) (fun j => (St.ka hS (by decide) (by decide) (by decide))) (fun j => (St.ka hS (by decide) (by decide) (by decide))) (fun j => (St.ka hS (by decide) (by decide) (by decide))) (St.kp hS (by decide) (by decide) (by decide)) (St.kp hS (by decide) (by decide) (by decide)) (St.kp hS (by decide) (by decide) (by decide)) (St.kp hS (by decide) (by decide) (by decide))))) ?_
        rintro M34 _ ⟨h34, r34, rfl, lr34, ur34, z34_0⟩
        have hS := St.tr hS h34 (by decide) (by decide)
        obtain ⟨w34_126_1, ew34_126_1⟩ : ∃ v, rd M34 126 1 = v := ⟨_, rfl⟩
        have bw34_126_1 : 0 ≤ w34_126_1 ∧ w34_126_1 ≤ 6 := by rw [← ew34_126_1]; exact ir_126_1 hS.1.2.1
        have ka34_126_1 : rd M34 126 1 = w34_126_1 := ew34_126_1
        refine Tr.sc [(0, r34)] rfl ?_
        refine Tr.goto (pc := 37) (tgt := 46) d_X12_sips_37 rfl ?_
        exact Tr.iret (pc := 46) d_X12_sips_46 rfl ⟨hS, _, rfl, by omega, by omega⟩
    · refine Tr.aload_n (pc := 17) (i := 0) d_X12_sips_17 rfl rfl ?_
      refine Tr.iload_n (pc := 18) (i := 1) d_X12_sips_18 rfl rfl ?_
      refine Tr.iconst (pc := 19) d_X12_sips_19 (by decide) ?_
      refine Tr.callV (pc := 20) (as := [_, _]) d_X12_sips_20 s_12_565 ok_X12_rate rfl rfl (Nat.le_of_ble_eq_true rfl) (Nat.le_of_ble_eq_true rfl) (by decide) (ty_120 hS.1.1) ?_
      refine Tr.imp (Tr.deep (by decide) (sp_X12_rate_120_w1 hS.1 ((St.kp hS (by decide) (by decide) (by decide)).trans en_120_12) a1 (by omega) 2 (by omega) (Bk1.of hF_Bk1 (fun j => (St.ka hS (by decide) (by decide) (by decide))) (fun j => (St.ka hS (by decide) (by decide) (by decide))) (fun j => (St.ka hS (by decide) (by decide) (by decide))) (fun j => (St.ka hS (by decide) (by decide) (by decide))) (fun j => (St.ka hS (by decide) (by decide) (by decide))) (fun j => (St.ka hS (by decide) (by decide) (by decide))) (fun j => (St.ka hS (by decide) (by decide) (by decide))) (fun j => (St.ka hS (by decide) (by decide) (by decide))) (St.kp hS (by decide) (by decide) (by decide)) (St.kp hS (by decide) (by decide) (by decide)) (St.kp hS (by decide) (by decide) (by decide)) (St.kp hS (by decide) (by decide) (by decide))))) ?_
      rintro M20 _ ⟨h20, r20, rfl, lr20, ur20, z20_0⟩
      have hS := St.tr hS h20 (by decide) (by decide)
      obtain ⟨w20_126_1, ew20_126_1⟩ : ∃ v, rd M20 126 1 = v := ⟨_, rfl⟩
      have bw20_126_1 : 0 ≤ w20_126_1 ∧ w20_126_1 ≤ 6 := by rw [← ew20_126_1]; exact ir_126_1 hS.1.2.1
      have ka20_126_1 : rd M20 126 1 = w20_126_1 := ew20_126_1
      refine Tr.sc [(0, r20)] rfl ?_
      refine Tr.goto (pc := 23) (tgt := 46) d_X12_sips_23 rfl ?_
      exact Tr.iret (pc := 46) d_X12_sips_46 rfl ⟨hS, _, rfl, by omega, by omega⟩
  · refine Tr.aload_n (pc := 4) (i := 0) d_X12_sips_4 rfl rfl ?_
    refine Tr.iload_n (pc := 5) (i := 1) d_X12_sips_5 rfl rfl ?_
    refine Tr.callV (pc := 6) (as := [_]) d_X12_sips_6 s_12_568 ok_X12_sleeps rfl rfl (Nat.le_of_ble_eq_true rfl) (Nat.le_of_ble_eq_true rfl) (by decide) (ty_120 hS.1.1) ?_
    refine Tr.imp (Tr.deep (by decide) (sp_X12_sleeps_120_w1 hS.1 ((St.kp hS (by decide) (by decide) (by decide)).trans en_120_12) a1 (by omega) (Bk1.of hF_Bk1 (fun j => (St.ka hS (by decide) (by decide) (by decide))) (fun j => (St.ka hS (by decide) (by decide) (by decide))) (fun j => (St.ka hS (by decide) (by decide) (by decide))) (fun j => (St.ka hS (by decide) (by decide) (by decide))) (fun j => (St.ka hS (by decide) (by decide) (by decide))) (fun j => (St.ka hS (by decide) (by decide) (by decide))) (fun j => (St.ka hS (by decide) (by decide) (by decide))) (fun j => (St.ka hS (by decide) (by decide) (by decide))) (St.kp hS (by decide) (by decide) (by decide)) (St.kp hS (by decide) (by decide) (by decide)) (St.kp hS (by decide) (by decide) (by decide)) (St.kp hS (by decide) (by decide) (by decide))))) ?_
    rintro M6 _ ⟨h6, r6, rfl, lr6, ur6⟩
    have hS := St.tr hS h6 (by decide) (by decide)
    refine Tr.sc [(0, r6)] rfl ?_
    refine Tr.goto (pc := 9) (tgt := 46) d_X12_sips_9 rfl ?_
    exact Tr.iret (pc := 46) d_X12_sips_46 rfl ⟨hS, _, rfl, by omega, by omega⟩
