/-! 40.00 -/
section

def ws_X12_has_120_w1 : List (Int × Int) := []
def as_X12_has_120_w1 : List Int := []
def q_X12_has_120_w1 (M0 M' : Mem) (r : Option PV) : Prop := St Tru ws_X12_has_120_w1 as_X12_has_120_w1 M0 M' ∧ ∃ v : Int, r = some (0, v) ∧ (-1) ≤ v ∧ v ≤ 60
set_option maxRecDepth 100000 in
set_option maxHeartbeats 4000000 in
theorem sp_X12_has_120_w1 {l : Launch} {K : EC} {M0 : Mem} (hI : In Tru M0) (en_120_12 : rd M0 120 12 = 1) (a1 : Int) (ha1 : (-2147483648) ≤ a1 ∧ a1 ≤ 2147483647)  : Tr l K 0 mX12_has 0 [(0, (2, 120)), (1, (0, a1))] [] M0 (q_X12_has_120_w1 M0) := by
  have hS : St Tru ws_X12_has_120_w1 as_X12_has_120_w1 M0 M0 := St.rf hI
  refine Tr.iload_n (pc := 0) (i := 1) d_X12_has_0 rfl rfl ?_
  rcases (show (a1 < 0 ∨ 5 < a1) ∨ a1 = 0 ∨ a1 = 1 ∨ a1 = 2 ∨ a1 = 3 ∨ a1 = 4 ∨ a1 = 5 by omega) with c1 | c1 | c1 | c1 | c1 | c1 | c1
  · refine Tr.tswOut (pc := 1) (tgt := 90) d_X12_has_1 c1 rfl ?_
    refine Tr.iconst (pc := 90) d_X12_has_90 (by decide) ?_
    exact Tr.iret (pc := 91) d_X12_has_91 rfl ⟨hS, _, rfl, by omega, by omega⟩
  · refine Tr.tp 0 c1 ?_
    refine Tr.tswIn (pc := 1) (off := 39) (tgt := 40) d_X12_has_1 (by decide) (by decide) rfl rfl ?_
    refine Tr.aload_n (pc := 40) (i := 0) d_X12_has_40 rfl rfl ?_
    refine Tr.getf (pc := 41) d_X12_has_41 f_12_63 (by decide) (by decide) (ty_120 hS.1.1) ?_
    refine Tr.tp 126 (fx_120_17 hS.1.1) ?_
    refine Tr.aload_n (pc := 44) (i := 0) d_X12_has_44 rfl rfl ?_
    refine Tr.getf (pc := 45) d_X12_has_45 f_12_48 (by decide) (by decide) (ty_120 hS.1.1) ?_
    refine Tr.tp 1 ((St.kp hS (by decide) (by decide) (by decide)).trans en_120_12) ?_
    refine Tr.iald (pc := 48) d_X12_has_48 (ty_126 hS.1.1) (by omega) (by omega) ?_
    refine Tr.gen (P := fun v => 0 ≤ v ∧ v ≤ 6) (ir_126_1 hS.1.2.1) (fun r48 er48 br48 => ?_)
    exact Tr.iret (pc := 49) d_X12_has_49 rfl ⟨hS, _, rfl, by omega, by omega⟩
  · refine Tr.tp 1 c1 ?_
    refine Tr.tswIn (pc := 1) (off := 49) (tgt := 50) d_X12_has_1 (by decide) (by decide) rfl rfl ?_
    refine Tr.aload_n (pc := 50) (i := 0) d_X12_has_50 rfl rfl ?_
    refine Tr.getf (pc := 51) d_X12_has_51 f_12_66 (by decide) (by decide) (ty_120 hS.1.1) ?_
    refine Tr.tp 127 (fx_120_18 hS.1.1) ?_
    refine Tr.aload_n (pc := 54) (i := 0) d_X12_has_54 rfl rfl ?_
    refine Tr.getf (pc := 55) d_X12_has_55 f_12_48 (by decide) (by decide) (ty_120 hS.1.1) ?_
    refine Tr.tp 1 ((St.kp hS (by decide) (by decide) (by decide)).trans en_120_12) ?_
    refine Tr.iald (pc := 58) d_X12_has_58 (ty_127 hS.1.1) (by omega) (by omega) ?_
    refine Tr.gen (P := fun v => 0 ≤ v ∧ v ≤ 3) (ir_127_1 hS.1.2.1) (fun r58 er58 br58 => ?_)
    exact Tr.iret (pc := 59) d_X12_has_59 rfl ⟨hS, _, rfl, by omega, by omega⟩
  · refine Tr.tp 2 c1 ?_
    refine Tr.tswIn (pc := 1) (off := 59) (tgt := 60) d_X12_has_1 (by decide) (by decide) rfl rfl ?_
    refine Tr.aload_n (pc := 60) (i := 0) d_X12_has_60 rfl rfl ?_
    refine Tr.getf (pc := 61) d_X12_has_61 f_12_69 (by decide) (by decide) (ty_120 hS.1.1) ?_
    refine Tr.tp 128 (fx_120_19 hS.1.1) ?_
    refine Tr.aload_n (pc := 64) (i := 0) d_X12_has_64 rfl rfl ?_
    refine Tr.getf (pc := 65) d_X12_has_65 f_12_48 (by decide) (by decide) (ty_120 hS.1.1) ?_
    refine Tr.tp 1 ((St.kp hS (by decide) (by decide) (by decide)).trans en_120_12) ?_
    refine Tr.iald (pc := 68) d_X12_has_68 (ty_128 hS.1.1) (by omega) (by omega) ?_
    refine Tr.gen (P := fun v => 0 ≤ v ∧ v ≤ 6) (ir_128_1 hS.1.2.1) (fun r68 er68 br68 => ?_)
    exact Tr.iret (pc := 69) d_X12_has_69 rfl ⟨hS, _, rfl, by omega, by omega⟩
  · refine Tr.tp 3 c1 ?_
    refine Tr.tswIn (pc := 1) (off := 69) (tgt := 70) d_X12_has_1 (by decide) (by decide) rfl rfl ?_
    refine Tr.aload_n (pc := 70) (i := 0) d_X12_has_70 rfl rfl ?_
    refine Tr.getf (pc := 71) d_X12_has_71 f_12_72 (by decide) (by decide) (ty_120 hS.1.1) ?_
    refine Tr.tp 129 (fx_120_20 hS.1.1) ?_
    refine Tr.aload_n (pc := 74) (i := 0) d_X12_has_74 rfl rfl ?_
    refine Tr.getf (pc := 75) d_X12_has_75 f_12_48 (by decide) (by decide) (ty_120 hS.1.1) ?_
    refine Tr.tp 1 ((St.kp hS (by decide) (by decide) (by decide)).trans en_120_12) ?_
    refine Tr.iald (pc := 78) d_X12_has_78 (ty_129 hS.1.1) (by omega) (by omega) ?_
    refine Tr.gen (P := fun v => 0 ≤ v ∧ v ≤ 60) (ir_129_1 hS.1.2.1) (fun r78 er78 br78 => ?_)
    exact Tr.iret (pc := 79) d_X12_has_79 rfl ⟨hS, _, rfl, by omega, by omega⟩
  · refine Tr.tp 4 c1 ?_
    refine Tr.tswIn (pc := 1) (off := 79) (tgt := 80) d_X12_has_1 (by decide) (by decide) rfl rfl ?_
    refine Tr.aload_n (pc := 80) (i := 0) d_X12_has_80 rfl rfl ?_
    refine Tr.getf (pc := 81) d_X12_has_81 f_12_333 (by decide) (by decide) (ty_120 hS.1.1) ?_
    refine Tr.gen (P := fun v => 0 ≤ v ∧ v ≤ 12) (ir_120_106 hS.1.2.1) (fun r81 er81 br81 => ?_)
    exact Tr.iret (pc := 84) d_X12_has_84 rfl ⟨hS, _, rfl, by omega, by omega⟩
  · refine Tr.tp 5 c1 ?_
    refine Tr.tswIn (pc := 1) (off := 84) (tgt := 85) d_X12_has_1 (by decide) (by decide) rfl rfl ?_
    refine Tr.aload_n (pc := 85) (i := 0) d_X12_has_85 rfl rfl ?_
    refine Tr.getf (pc := 86) d_X12_has_86 f_12_354 (by decide) (by decide) (ty_120 hS.1.1) ?_
    refine Tr.gen (P := fun v => 0 ≤ v ∧ v ≤ 6) (ir_120_113 hS.1.2.1) (fun r86 er86 br86 => ?_)
    exact Tr.iret (pc := 89) d_X12_has_89 rfl ⟨hS, _, rfl, by omega, by omega⟩

def ws_X12_isPart_120_w1 : List (Int × Int) := []
def as_X12_isPart_120_w1 : List Int := []
def q_X12_isPart_120_w1 (a1 : Int) (M0 M' : Mem) (r : Option PV) : Prop := St Tru ws_X12_isPart_120_w1 as_X12_isPart_120_w1 M0 M' ∧ ∃ v : Int, r = some (0, v) ∧ 0 ≤ v ∧ v ≤ 1 ∧ (v = 0 ∨ (0 ≤ a1 ∧ a1 < rd M' 126 1))
set_option maxRecDepth 100000 in
set_option maxHeartbeats 4000000 in
theorem sp_X12_isPart_120_w1 {l : Launch} {K : EC} {M0 : Mem} (hI : In Tru M0) (en_120_12 : rd M0 120 12 = 1) (a1 : Int) (ha1 : (-2147483648) ≤ a1 ∧ a1 ≤ 2147483647)  : Tr l K 1 mX12_isPart 0 [(0, (2, 120)), (1, (0, a1))] [] M0 (q_X12_isPart_120_w1 a1 M0) := by
  have hS : St Tru ws_X12_isPart_120_w1 as_X12_isPart_120_w1 M0 M0 := St.rf hI
  obtain ⟨g126_1, eg126_1⟩ : ∃ v, rd M0 126 1 = v := ⟨_, rfl⟩
  have bg126_1 : 0 ≤ g126_1 ∧ g126_1 ≤ 6 := by rw [← eg126_1]; exact ir_126_1 hI.2.1
  refine Tr.iload_n (pc := 0) (i := 1) d_X12_isPart_0 rfl rfl ?_
  refine Tr.iconst (pc := 1) d_X12_isPart_1 (by decide) ?_
  refine Tr.aload_n (pc := 2) (i := 0) d_X12_isPart_2 rfl rfl ?_
  refine Tr.getf (pc := 3) d_X12_isPart_3 f_12_63 (by decide) (by decide) (ty_120 hS.1.1) ?_
  refine Tr.tp 126 (fx_120_17 hS.1.1) ?_
  refine Tr.aload_n (pc := 6) (i := 0) d_X12_isPart_6 rfl rfl ?_
  refine Tr.getf (pc := 7) d_X12_isPart_7 f_12_48 (by decide) (by decide) (ty_120 hS.1.1) ?_
  refine Tr.tp 1 ((St.kp hS (by decide) (by decide) (by decide)).trans en_120_12) ?_
  refine Tr.iald (pc := 10) d_X12_isPart_10 (ty_126 hS.1.1) (by omega) (by omega) ?_
  refine Tr.tp g126_1 eg126_1 ?_
  refine Tr.iconst (pc := 11) d_X12_isPart_11 (by decide) ?_
  refine Tr.isub (pc := 12) d_X12_isPart_12 ?_
  refine Tr.tp (g126_1 - 1) ((w32_id (by omega)).trans (by omega)) ?_
  refine Tr.callS (pc := 13) (as := [_, _, _]) d_X12_isPart_13 s_12_467 ok_X12_is rfl rfl (Nat.le_of_ble_eq_true rfl) (Nat.le_of_ble_eq_true rfl) ?_
  refine Tr.imp (Tr.deep (by decide) (sp_X12_is hS.1 a1 (by omega) 0 (by omega) (g126_1 - 1) (by omega))) ?_
  rintro M13 _ ⟨h13, r13, rfl, lr13, ur13, wr13⟩
  have hS := St.tr hS h13 (by decide) (by decide)
  refine Tr.sc [(0, r13)] rfl ?_
  have kr_126_1 : rd M13 126 1 = g126_1 := ((St.kp h13 (by decide) (by decide) (by decide)).trans eg126_1)
  exact Tr.zret (pc := 16) d_X12_isPart_16 rfl (by omega) ⟨hS, _, rfl, by omega, by omega, by omega⟩

set_option maxRecDepth 100000 in
set_option maxHeartbeats 4000000 in
theorem ns_X12_isPart_120_w1 {l : Launch} {K : EC} {M0 : Mem} {G126_1 : Int} (hI : In Tru M0) (k126_1 : rd M0 126 1 = G126_1) (en_120_12 : rd M0 120 12 = 1) (a1 : Int) (ha1 : (-2147483648) ≤ a1 ∧ a1 ≤ 2147483647)  : Tr l K 1 mX12_isPart 0 [(0, (2, 120)), (1, (0, a1))] [] M0 (fun M' r => St Tru ws_X12_isPart_120_w1 as_X12_isPart_120_w1 M0 M' ∧ ∃ v : Int, r = some (0, v) ∧ 0 ≤ v ∧ v ≤ 1 ∧ Hd (v = 0 ∨ (0 ≤ a1 ∧ a1 < G126_1))) := by
  subst k126_1
  refine Tr.imp (sp_X12_isPart_120_w1 hI en_120_12 a1 ha1) ?_
  rintro M' _ ⟨hS, v, rfl, lr, ur, z0⟩
  rewrite [show rd M' 126 1 = rd M0 126 1 from ((St.kp hS (by decide) (by decide) (by decide)).trans rfl)] at z0
  exact ⟨hS, v, rfl, lr, ur, hd_i z0⟩

def ws_X12_isInput_120_w1 : List (Int × Int) := []
def as_X12_isInput_120_w1 : List Int := []
def q_X12_isInput_120_w1 (a1 : Int) (M0 M' : Mem) (r : Option PV) : Prop := St Tru ws_X12_isInput_120_w1 as_X12_isInput_120_w1 M0 M' ∧ ∃ v : Int, r = some (0, v) ∧ 0 ≤ v ∧ v ≤ 1 ∧ (v = 0 ∨ (0 ≤ a1 ∧ a1 < rd M' 127 1))
set_option maxRecDepth 100000 in
set_option maxHeartbeats 4000000 in
theorem sp_X12_isInput_120_w1 {l : Launch} {K : EC} {M0 : Mem} (hI : In Tru M0) (en_120_12 : rd M0 120 12 = 1) (a1 : Int) (ha1 : (-2147483648) ≤ a1 ∧ a1 ≤ 2147483647)  : Tr l K 1 mX12_isInput 0 [(0, (2, 120)), (1, (0, a1))] [] M0 (q_X12_isInput_120_w1 a1 M0) := by
  have hS : St Tru ws_X12_isInput_120_w1 as_X12_isInput_120_w1 M0 M0 := St.rf hI
  obtain ⟨g127_1, eg127_1⟩ : ∃ v, rd M0 127 1 = v := ⟨_, rfl⟩
  have bg127_1 : 0 ≤ g127_1 ∧ g127_1 ≤ 3 := by rw [← eg127_1]; exact ir_127_1 hI.2.1
  refine Tr.iload_n (pc := 0) (i := 1) d_X12_isInput_0 rfl rfl ?_
  refine Tr.iconst (pc := 1) d_X12_isInput_1 (by decide) ?_
  refine Tr.aload_n (pc := 2) (i := 0) d_X12_isInput_2 rfl rfl ?_
  refine Tr.getf (pc := 3) d_X12_isInput_3 f_12_66 (by decide) (by decide) (ty_120 hS.1.1) ?_
  refine Tr.tp 127 (fx_120_18 hS.1.1) ?_
  refine Tr.aload_n (pc := 6) (i := 0) d_X12_isInput_6 rfl rfl ?_
  refine Tr.getf (pc := 7) d_X12_isInput_7 f_12_48 (by decide) (by decide) (ty_120 hS.1.1) ?_
  refine Tr.tp 1 ((St.kp hS (by decide) (by decide) (by decide)).trans en_120_12) ?_
  refine Tr.iald (pc := 10) d_X12_isInput_10 (ty_127 hS.1.1) (by omega) (by omega) ?_
  refine Tr.tp g127_1 eg127_1 ?_
  refine Tr.iconst (pc := 11) d_X12_isInput_11 (by decide) ?_
  refine Tr.isub (pc := 12) d_X12_isInput_12 ?_
  refine Tr.tp (g127_1 - 1) ((w32_id (by omega)).trans (by omega)) ?_
  refine Tr.callS (pc := 13) (as := [_, _, _]) d_X12_isInput_13 s_12_467 ok_X12_is rfl rfl (Nat.le_of_ble_eq_true rfl) (Nat.le_of_ble_eq_true rfl) ?_
  refine Tr.imp (Tr.deep (by decide) (sp_X12_is hS.1 a1 (by omega) 0 (by omega) (g127_1 - 1) (by omega))) ?_
  rintro M13 _ ⟨h13, r13, rfl, lr13, ur13, wr13⟩
  have hS := St.tr hS h13 (by decide) (by decide)
  refine Tr.sc [(0, r13)] rfl ?_
  have kr_127_1 : rd M13 127 1 = g127_1 := ((St.kp h13 (by decide) (by decide) (by decide)).trans eg127_1)
  exact Tr.zret (pc := 16) d_X12_isInput_16 rfl (by omega) ⟨hS, _, rfl, by omega, by omega, by omega⟩

def ws_X12_letter_120_w1 : List (Int × Int) := []
def as_X12_letter_120_w1 : List Int := []
def q_X12_letter_120_w1 (M0 M' : Mem) (r : Option PV) : Prop := St Tru ws_X12_letter_120_w1 as_X12_letter_120_w1 M0 M' ∧ ∃ v : Int, r = some (0, v) ∧ (-1) ≤ v ∧ v ≤ 255
set_option maxRecDepth 100000 in
set_option maxHeartbeats 4000000 in
theorem sp_X12_letter_120_w1 {l : Launch} {K : EC} {M0 : Mem} (hI : In Tru M0) (en_120_12 : rd M0 120 12 = 1) (a1 : Int) (ha1 : (-2147483648) ≤ a1 ∧ a1 ≤ 2147483647) (a2 : Int) (ha2 : (-2147483648) ≤ a2 ∧ a2 ≤ 2147483647) (a3 : Int) (ha3 : (-2147483648) ≤ a3 ∧ a3 ≤ 2147483647)  : Tr l K 2 mX12_letter 0 [(0, (2, 120)), (1, (0, a1)), (2, (0, a2)), (3, (0, a3))] [] M0 (q_X12_letter_120_w1 M0) := by
  have hS : St Tru ws_X12_letter_120_w1 as_X12_letter_120_w1 M0 M0 := St.rf hI
  refine Tr.iload_n (pc := 0) (i := 1) d_X12_letter_0 rfl rfl ?_
  have J31 : ∀ (M : Mem), St Tru ws_X12_letter_120_w1 as_X12_letter_120_w1 M0 M → Tr l K 2 mX12_letter 31 [(0, (2, 120)), (1, (0, a1)), (2, (0, a2)), (3, (0, a3))] [] M (q_X12_letter_120_w1 M0) := by
    intro M  hS  
    refine Tr.iload_n (pc := 31) (i := 1) d_X12_letter_31 rfl rfl ?_
    refine Tr.iconst (pc := 32) d_X12_letter_32 (by decide) ?_
    have J62 : ∀ (M : Mem), St Tru ws_X12_letter_120_w1 as_X12_letter_120_w1 M0 M → Tr l K 2 mX12_letter 62 [(0, (2, 120)), (1, (0, a1)), (2, (0, a2)), (3, (0, a3))] [] M (q_X12_letter_120_w1 M0) := by
      intro M  hS  
      refine Tr.iload_n (pc := 62) (i := 1) d_X12_letter_62 rfl rfl ?_
      refine Tr.iconst (pc := 63) d_X12_letter_63 (by decide) ?_
      refine Tr.icmp_ne (pc := 64) (tgt := 105) d_X12_letter_64 rfl (fun c64 => ?_) (fun c64 => ?_)
      · refine Tr.iconst (pc := 105) d_X12_letter_105 (by decide) ?_
        exact Tr.iret (pc := 106) d_X12_letter_106 rfl ⟨hS, _, rfl, by omega, by omega⟩
      · refine Tr.iload_n (pc := 67) (i := 2) d_X12_letter_67 rfl rfl ?_
        refine Tr.iconst (pc := 68) d_X12_letter_68 (by decide) ?_
        refine Tr.aload_n (pc := 69) (i := 0) d_X12_letter_69 rfl rfl ?_
        refine Tr.getf (pc := 70) d_X12_letter_70 f_12_69 (by decide) (by decide) (ty_120 hS.1.1) ?_
        refine Tr.tp 128 (fx_120_19 hS.1.1) ?_
        refine Tr.aload_n (pc := 73) (i := 0) d_X12_letter_73 rfl rfl ?_
        refine Tr.getf (pc := 74) d_X12_letter_74 f_12_48 (by decide) (by decide) (ty_120 hS.1.1) ?_
        refine Tr.tp 1 ((St.kp hS (by decide) (by decide) (by decide)).trans en_120_12) ?_
        refine Tr.iald (pc := 77) d_X12_letter_77 (ty_128 hS.1.1) (by omega) (by omega) ?_
        refine Tr.gen (P := fun v => 0 ≤ v ∧ v ≤ 6) (ir_128_1 hS.1.2.1) (fun r77 er77 br77 => ?_)
        refine Tr.iconst (pc := 78) d_X12_letter_78 (by decide) ?_
        refine Tr.isub (pc := 79) d_X12_letter_79 ?_
        refine Tr.tp (r77 - 1) ((w32_id (by omega)).trans (by omega)) ?_
        refine Tr.callS (pc := 80) (as := [_, _, _]) d_X12_letter_80 s_12_467 ok_X12_is rfl rfl (Nat.le_of_ble_eq_true rfl) (Nat.le_of_ble_eq_true rfl) ?_
        refine Tr.imp (Tr.deep (by decide) (sp_X12_is hS.1 a2 (by omega) 0 (by omega) (r77 - 1) (by omega))) ?_
        rintro M80 _ ⟨h80, r80, rfl, lr80, ur80, wr80⟩
        have hS := St.tr hS h80 (by decide) (by decide)
        refine Tr.sc [(0, r80)] rfl ?_
        refine Tr.if_eq (pc := 83) (tgt := 105) d_X12_letter_83 rfl (fun c83 => ?_) (fun c83 => ?_)
        · refine Tr.iconst (pc := 105) d_X12_letter_105 (by decide) ?_
          exact Tr.iret (pc := 106) d_X12_letter_106 rfl ⟨hS, _, rfl, by omega, by omega⟩
        · refine Tr.aload_n (pc := 86) (i := 0) d_X12_letter_86 rfl rfl ?_
          refine Tr.getf (pc := 87) d_X12_letter_87 f_12_91 (by decide) (by decide) (ty_120 hS.1.1) ?_
          refine Tr.tp 135 (fx_120_26 hS.1.1) ?_
          refine Tr.bipush (pc := 90) d_X12_letter_90 rfl (by decide) ?_
          refine Tr.aload_n (pc := 92) (i := 0) d_X12_letter_92 rfl rfl ?_
          refine Tr.getf (pc := 93) d_X12_letter_93 f_12_48 (by decide) (by decide) (ty_120 hS.1.1) ?_
          refine Tr.tp 1 ((St.kp hS (by decide) (by decide) (by decide)).trans en_120_12) ?_
          refine Tr.imul (pc := 96) d_X12_letter_96 ?_
          refine Tr.tp 6 (by decide) ?_
          refine Tr.iload_n (pc := 97) (i := 2) d_X12_letter_97 rfl rfl ?_
          refine Tr.iadd (pc := 98) d_X12_letter_98 ?_
          refine Tr.tp (a2 + 6) ((w32_id (by omega)).trans (by omega)) ?_
          refine Tr.lald (pc := 99) d_X12_letter_99 (ty_135 hS.1.1) (by omega) (by omega) ?_
          refine Tr.gen (P := fun v => (-9223372036854775808) ≤ v ∧ v ≤ 9223372036854775807) (ar_135 hS.1.2.1 _) (fun r99 er99 br99 => ?_)
          refine Tr.iload_n (pc := 100) (i := 3) d_X12_letter_100 rfl rfl ?_
          refine Tr.callS (pc := 101) (as := [_, _]) d_X12_letter_101 s_12_558 ok_X12_letterOf rfl rfl (Nat.le_of_ble_eq_true rfl) (Nat.le_of_ble_eq_true rfl) ?_
          refine Tr.imp (Tr.deep (by decide) (sp_X12_letterOf hS.1 r99 (by omega) a3 (by omega))) ?_
          rintro M101 _ ⟨h101, r101, rfl, lr101, ur101⟩
          have hS := St.tr hS h101 (by decide) (by decide)
          refine Tr.sc [(0, r101)] rfl ?_
          exact Tr.iret (pc := 104) d_X12_letter_104 rfl ⟨hS, _, rfl, by omega, by omega⟩
    refine Tr.icmp_ne (pc := 33) (tgt := 62) d_X12_letter_33 rfl (fun c33 => ?_) (fun c33 => ?_)
    · refine Tr.pick [0, 1, 2, 3] (ls2 := [(0, (2, 120)), (1, (0, a1)), (2, (0, a2)), (3, (0, a3))]) rfl ?_
      exact J62 _ hS 
    · refine Tr.aload_n (pc := 36) (i := 0) d_X12_letter_36 rfl rfl ?_
      refine Tr.iload_n (pc := 37) (i := 2) d_X12_letter_37 rfl rfl ?_
      refine Tr.callV (pc := 38) (as := [_]) d_X12_letter_38 s_12_562 ok_X12_isInput rfl rfl (Nat.le_of_ble_eq_true rfl) (Nat.le_of_ble_eq_true rfl) (by decide) (ty_120 hS.1.1) ?_
      refine Tr.imp (Tr.deep (by decide) (sp_X12_isInput_120_w1 hS.1 ((St.kp hS (by decide) (by decide) (by decide)).trans en_120_12) a2 (by omega))) ?_
      rintro M38 _ ⟨h38, r38, rfl, lr38, ur38, z38_0⟩
      have hS := St.tr hS h38 (by decide) (by decide)
      obtain ⟨w38_127_1, ew38_127_1⟩ : ∃ v, rd M38 127 1 = v := ⟨_, rfl⟩
      have bw38_127_1 : 0 ≤ w38_127_1 ∧ w38_127_1 ≤ 3 := by rw [← ew38_127_1]; exact ir_127_1 hS.1.2.1
      have ka38_127_1 : rd M38 127 1 = w38_127_1 := ew38_127_1
      refine Tr.sc [(0, r38)] rfl ?_
      refine Tr.if_eq (pc := 41) (tgt := 62) d_X12_letter_41 rfl (fun c41 => ?_) (fun c41 => ?_)
      · refine Tr.pick [0, 1, 2, 3] (ls2 := [(0, (2, 120)), (1, (0, a1)), (2, (0, a2)), (3, (0, a3))]) rfl ?_
        exact J62 _ hS 
      · refine Tr.aload_n (pc := 44) (i := 0) d_X12_letter_44 rfl rfl ?_
        refine Tr.getf (pc := 45) d_X12_letter_45 f_12_82 (by decide) (by decide) (ty_120 hS.1.1) ?_
        refine Tr.tp 132 (fx_120_23 hS.1.1) ?_
        refine Tr.iconst (pc := 48) d_X12_letter_48 (by decide) ?_
        refine Tr.aload_n (pc := 49) (i := 0) d_X12_letter_49 rfl rfl ?_
        refine Tr.getf (pc := 50) d_X12_letter_50 f_12_48 (by decide) (by decide) (ty_120 hS.1.1) ?_
        refine Tr.tp 1 ((St.kp hS (by decide) (by decide) (by decide)).trans en_120_12) ?_
        refine Tr.imul (pc := 53) d_X12_letter_53 ?_
        refine Tr.tp 3 (by decide) ?_
        refine Tr.iload_n (pc := 54) (i := 2) d_X12_letter_54 rfl rfl ?_
        refine Tr.iadd (pc := 55) d_X12_letter_55 ?_
        refine Tr.tp (a2 + 3) ((w32_id (by omega)).trans (by omega)) ?_
        refine Tr.lald (pc := 56) d_X12_letter_56 (ty_132 hS.1.1) (by omega) (by omega) ?_
        refine Tr.gen (P := fun v => (-9223372036854775808) ≤ v ∧ v ≤ 9223372036854775807) (ar_132 hS.1.2.1 _) (fun r56 er56 br56 => ?_)
        refine Tr.iload_n (pc := 57) (i := 3) d_X12_letter_57 rfl rfl ?_
        refine Tr.callS (pc := 58) (as := [_, _]) d_X12_letter_58 s_12_558 ok_X12_letterOf rfl rfl (Nat.le_of_ble_eq_true rfl) (Nat.le_of_ble_eq_true rfl) ?_
        refine Tr.imp (Tr.deep (by decide) (sp_X12_letterOf hS.1 r56 (by omega) a3 (by omega))) ?_
        rintro M58 _ ⟨h58, r58, rfl, lr58, ur58⟩
        have hS := St.tr hS h58 (by decide) (by decide)
        refine Tr.sc [(0, r58)] rfl ?_
        exact Tr.iret (pc := 61) d_X12_letter_61 rfl ⟨hS, _, rfl, by omega, by omega⟩
  refine Tr.if_ne (pc := 1) (tgt := 31) d_X12_letter_1 rfl (fun c1 => ?_) (fun c1 => ?_)
  · refine Tr.pick [0, 1, 2, 3] (ls2 := [(0, (2, 120)), (1, (0, a1)), (2, (0, a2)), (3, (0, a3))]) rfl ?_
    exact J31 _ hS 
  · refine Tr.aload_n (pc := 4) (i := 0) d_X12_letter_4 rfl rfl ?_
    refine Tr.iload_n (pc := 5) (i := 2) d_X12_letter_5 rfl rfl ?_
    refine Tr.callV (pc := 6) (as := [_]) d_X12_letter_6 s_12_555 ok_X12_isPart rfl rfl (Nat.le_of_ble_eq_true rfl) (Nat.le_of_ble_eq_true rfl) (by decide) (ty_120 hS.1.1) ?_
    refine Tr.imp (Tr.deep (by decide) (sp_X12_isPart_120_w1 hS.1 ((St.kp hS (by decide) (by decide) (by decide)).trans en_120_12) a2 (by omega))) ?_
    rintro M6 _ ⟨h6, r6, rfl, lr6, ur6, z6_0⟩
    have hS := St.tr hS h6 (by decide) (by decide)
    obtain ⟨w6_126_1, ew6_126_1⟩ : ∃ v, rd M6 126 1 = v := ⟨_, rfl⟩
    have bw6_126_1 : 0 ≤ w6_126_1 ∧ w6_126_1 ≤ 6 := by rw [← ew6_126_1]; exact ir_126_1 hS.1.2.1
    have ka6_126_1 : rd M6 126 1 = w6_126_1 := ew6_126_1
    refine Tr.sc [(0, r6)] rfl ?_
    refine Tr.if_eq (pc := 9) (tgt := 31) d_X12_letter_9 rfl (fun c9 => ?_) (fun c9 => ?_)
    · refine Tr.pick [0, 1, 2, 3] (ls2 := [(0, (2, 120)), (1, (0, a1)), (2, (0, a2)), (3, (0, a3))]) rfl ?_
      exact J31 _ hS 
    · refine Tr.aload_n (pc := 12) (i := 0) d_X12_letter_12 rfl rfl ?_
      refine Tr.getf (pc := 13) d_X12_letter_13 f_12_75 (by decide) (by decide) (ty_120 hS.1.1) ?_
      refine Tr.tp 130 (fx_120_21 hS.1.1) ?_
      refine Tr.bipush (pc := 16) d_X12_letter_16 rfl (by decide) ?_
      refine Tr.aload_n (pc := 18) (i := 0) d_X12_letter_18 rfl rfl ?_
      refine Tr.getf (pc := 19) d_X12_letter_19 f_12_48 (by decide) (by decide) (ty_120 hS.1.1) ?_
      refine Tr.tp 1 ((St.kp hS (by decide) (by decide) (by decide)).trans en_120_12) ?_
      refine Tr.imul (pc := 22) d_X12_letter_22 ?_
      refine Tr.tp 6 (by decide) ?_
      refine Tr.iload_n (pc := 23) (i := 2) d_X12_letter_23 rfl rfl ?_
      refine Tr.iadd (pc := 24) d_X12_letter_24 ?_
      refine Tr.tp (a2 + 6) ((w32_id (by omega)).trans (by omega)) ?_
      refine Tr.lald (pc := 25) d_X12_letter_25 (ty_130 hS.1.1) (by omega) (by omega) ?_
      refine Tr.gen (P := fun v => (-9223372036854775808) ≤ v ∧ v ≤ 9223372036854775807) (ar_130 hS.1.2.1 _) (fun r25 er25 br25 => ?_)
      refine Tr.iload_n (pc := 26) (i := 3) d_X12_letter_26 rfl rfl ?_
      refine Tr.callS (pc := 27) (as := [_, _]) d_X12_letter_27 s_12_558 ok_X12_letterOf rfl rfl (Nat.le_of_ble_eq_true rfl) (Nat.le_of_ble_eq_true rfl) ?_
      refine Tr.imp (Tr.deep (by decide) (sp_X12_letterOf hS.1 r25 (by omega) a3 (by omega))) ?_
      rintro M27 _ ⟨h27, r27, rfl, lr27, ur27⟩
      have hS := St.tr hS h27 (by decide) (by decide)
      refine Tr.sc [(0, r27)] rfl ?_
      exact Tr.iret (pc := 30) d_X12_letter_30 rfl ⟨hS, _, rfl, by omega, by omega⟩

def ws_X12_put__120_w1 : List (Int × Int) := []
def as_X12_put__120_w1 : List Int := [153]
def q_X12_put__120_w1 (M0 M' : Mem) (r : Option PV) : Prop := St Tru ws_X12_put__120_w1 as_X12_put__120_w1 M0 M' ∧ ∃ v : Int, r = some (0, v) ∧ 0 ≤ v ∧ v ≤ 1
set_option maxRecDepth 100000 in
set_option maxHeartbeats 4000000 in
theorem sp_X12_put__120_w1 {l : Launch} {K : EC} {M0 : Mem} (hI : In Tru M0) (en_120_12 : rd M0 120 12 = 1) (a1 : Int) (ha1 : (-2147483648) ≤ a1 ∧ a1 ≤ 2147483647) (a2 : Int) (ha2 : (-2147483648) ≤ a2 ∧ a2 ≤ 2147483647)  : Tr l K 2 mX12_put_ 0 [(0, (2, 120)), (1, (0, a1)), (2, (0, a2))] [] M0 (q_X12_put__120_w1 M0) := by
  have hS : St Tru ws_X12_put__120_w1 as_X12_put__120_w1 M0 M0 := St.rf hI
  refine Tr.aload_n (pc := 0) (i := 0) d_X12_put__0 rfl rfl ?_
  refine Tr.iload_n (pc := 1) (i := 1) d_X12_put__1 rfl rfl ?_
  refine Tr.callV (pc := 2) (as := [_]) d_X12_put__2 s_12_562 ok_X12_isInput rfl rfl (Nat.le_of_ble_eq_true rfl) (Nat.le_of_ble_eq_true rfl) (by decide) (ty_120 hS.1.1) ?_
  refine Tr.imp (Tr.deep (by decide) (sp_X12_isInput_120_w1 hS.1 ((St.kp hS (by decide) (by decide) (by decide)).trans en_120_12) a1 (by omega))) ?_
  rintro M2 _ ⟨h2, r2, rfl, lr2, ur2, z2_0⟩
  have hS := St.tr hS h2 (by decide) (by decide)
  obtain ⟨w2_127_1, ew2_127_1⟩ : ∃ v, rd M2 127 1 = v := ⟨_, rfl⟩
  have bw2_127_1 : 0 ≤ w2_127_1 ∧ w2_127_1 ≤ 3 := by rw [← ew2_127_1]; exact ir_127_1 hS.1.2.1
  have ka2_127_1 : rd M2 127 1 = w2_127_1 := ew2_127_1
  refine Tr.sc [(0, r2)] rfl ?_
  refine Tr.if_eq (pc := 5) (tgt := 41) d_X12_put__5 rfl (fun c5 => ?_) (fun c5 => ?_)
  · refine Tr.iconst (pc := 41) d_X12_put__41 (by decide) ?_
    exact Tr.zret (pc := 42) d_X12_put__42 rfl (by omega) ⟨hS, _, rfl, by omega, by omega⟩
  · refine Tr.iload_n (pc := 8) (i := 2) d_X12_put__8 rfl rfl ?_
    refine Tr.aload_n (pc := 9) (i := 0) d_X12_put__9 rfl rfl ?_
    refine Tr.getf (pc := 10) d_X12_put__10 f_12_85 (by decide) (by decide) (ty_120 hS.1.1) ?_
    refine Tr.tp 133 (fx_120_24 hS.1.1) ?_
    refine Tr.iconst (pc := 13) d_X12_put__13 (by decide) ?_
    refine Tr.aload_n (pc := 14) (i := 0) d_X12_put__14 rfl rfl ?_
    refine Tr.getf (pc := 15) d_X12_put__15 f_12_48 (by decide) (by decide) (ty_120 hS.1.1) ?_
    refine Tr.tp 1 ((St.kp hS (by decide) (by decide) (by decide)).trans en_120_12) ?_
    refine Tr.imul (pc := 18) d_X12_put__18 ?_
    refine Tr.tp 3 (by decide) ?_
    refine Tr.iload_n (pc := 19) (i := 1) d_X12_put__19 rfl rfl ?_
    refine Tr.iadd (pc := 20) d_X12_put__20 ?_
    refine Tr.tp (a1 + 3) ((w32_id (by omega)).trans (by omega)) ?_
    refine Tr.iald (pc := 21) d_X12_put__21 (ty_133 hS.1.1) (by omega) (by omega) ?_
    refine Tr.gen (P := fun v => (-2147483648) ≤ v ∧ v ≤ 2147483647) (ar_133 hS.1.2.1 _) (fun r21 er21 br21 => ?_)
    refine Tr.aload_n (pc := 22) (i := 0) d_X12_put__22 rfl rfl ?_
    refine Tr.getf (pc := 23) d_X12_put__23 f_12_88 (by decide) (by decide) (ty_120 hS.1.1) ?_
    refine Tr.tp 134 (fx_120_25 hS.1.1) ?_
    refine Tr.iconst (pc := 26) d_X12_put__26 (by decide) ?_
    refine Tr.aload_n (pc := 27) (i := 0) d_X12_put__27 rfl rfl ?_
    refine Tr.getf (pc := 28) d_X12_put__28 f_12_48 (by decide) (by decide) (ty_120 hS.1.1) ?_
    refine Tr.tp 1 ((St.kp hS (by decide) (by decide) (by decide)).trans en_120_12) ?_
    refine Tr.imul (pc := 31) d_X12_put__31 ?_
    refine Tr.tp 3 (by decide) ?_
    refine Tr.iload_n (pc := 32) (i := 1) d_X12_put__32 rfl rfl ?_
    refine Tr.iadd (pc := 33) d_X12_put__33 ?_
    refine Tr.tp (a1 + 3) ((w32_id (by omega)).trans (by omega)) ?_
    refine Tr.iald (pc := 34) d_X12_put__34 (ty_134 hS.1.1) (by omega) (by omega) ?_
    refine Tr.gen (P := fun v => (-2147483648) ≤ v ∧ v ≤ 2147483647) (ar_134 hS.1.2.1 _) (fun r34 er34 br34 => ?_)
    refine Tr.callS (pc := 35) (as := [_, _, _]) d_X12_put__35 s_12_467 ok_X12_is rfl rfl (Nat.le_of_ble_eq_true rfl) (Nat.le_of_ble_eq_true rfl) ?_
    refine Tr.imp (Tr.deep (by decide) (sp_X12_is hS.1 a2 (by omega) r21 (by omega) r34 (by omega))) ?_
    rintro M35 _ ⟨h35, r35, rfl, lr35, ur35, wr35⟩
    have hS := St.tr hS h35 (by decide) (by decide)
    refine Tr.sc [(0, r35)] rfl ?_
    refine Tr.if_ne (pc := 38) (tgt := 43) d_X12_put__38 rfl (fun c38 => ?_) (fun c38 => ?_)
    · refine Tr.aload_n (pc := 43) (i := 0) d_X12_put__43 rfl rfl ?_
      refine Tr.getf (pc := 44) d_X12_put__44 f_12_168 (by decide) (by decide) (ty_120 hS.1.1) ?_
      refine Tr.tp 153 (fx_120_51 hS.1.1) ?_
      refine Tr.iload_n (pc := 47) (i := 1) d_X12_put__47 rfl rfl ?_
      refine Tr.iload_n (pc := 48) (i := 2) d_X12_put__48 rfl rfl ?_
      refine Tr.iastS (pc := 49) (P := St Tru ws_X12_put__120_w1 as_X12_put__120_w1 M0) d_X12_put__49 (ty_153 hS.1.1) (by omega) (by omega) (sa_153 hS (by decide) (by omega) trivial) (fun M49 hS w49 => ?_)
      refine Tr.iconst (pc := 50) d_X12_put__50 (by decide) ?_
      exact Tr.zret (pc := 51) d_X12_put__51 rfl (by omega) ⟨hS, _, rfl, by omega, by omega⟩
    · refine Tr.iconst (pc := 41) d_X12_put__41 (by decide) ?_
      exact Tr.zret (pc := 42) d_X12_put__42 rfl (by omega) ⟨hS, _, rfl, by omega, by omega⟩

def ws_X12_value_120_w1 : List (Int × Int) := []
def as_X12_value_120_w1 : List Int := []
def q_X12_value_120_w1 (M0 M' : Mem) (r : Option PV) : Prop := St Tru ws_X12_value_120_w1 as_X12_value_120_w1 M0 M' ∧ ∃ v : Int, r = some (0, v) ∧ (-2147483648) ≤ v ∧ v ≤ 2147483647
set_option maxRecDepth 100000 in
set_option maxHeartbeats 4000000 in
theorem sp_X12_value_120_w1 {l : Launch} {K : EC} {M0 : Mem} (hI : In Tru M0) (en_120_12 : rd M0 120 12 = 1) (a1 : Int) (ha1 : (-2147483648) ≤ a1 ∧ a1 ≤ 2147483647)  : Tr l K 1 mX12_value 0 [(0, (2, 120)), (1, (0, a1))] [] M0 (q_X12_value_120_w1 M0) := by
  have hS : St Tru ws_X12_value_120_w1 as_X12_value_120_w1 M0 M0 := St.rf hI
  refine Tr.aload_n (pc := 0) (i := 0) d_X12_value_0 rfl rfl ?_
  refine Tr.getz (pc := 1) d_X12_value_1 f_12_270 (by decide) (ty_120 hS.1.1) ?_
  refine Tr.gen (P := fun v => 0 ≤ v ∧ v ≤ 1) (ir_120_85 hS.1.2.1) (fun r1 er1 br1 => ?_)
  refine Tr.if_eq (pc := 4) (tgt := 35) d_X12_value_4 rfl (fun c4 => ?_) (fun c4 => ?_)
  · refine Tr.ldcw (pc := 35) d_X12_value_35 k_12_640 (by decide) ?_
    exact Tr.iret (pc := 38) d_X12_value_38 rfl ⟨hS, _, rfl, by omega, by omega⟩
  · refine Tr.iload_n (pc := 7) (i := 1) d_X12_value_7 rfl rfl ?_
    refine Tr.iconst (pc := 8) d_X12_value_8 (by decide) ?_
    refine Tr.aload_n (pc := 9) (i := 0) d_X12_value_9 rfl rfl ?_
    refine Tr.getf (pc := 10) d_X12_value_10 f_12_69 (by decide) (by decide) (ty_120 hS.1.1) ?_
    refine Tr.tp 128 (fx_120_19 hS.1.1) ?_
    refine Tr.aload_n (pc := 13) (i := 0) d_X12_value_13 rfl rfl ?_
    refine Tr.getf (pc := 14) d_X12_value_14 f_12_48 (by decide) (by decide) (ty_120 hS.1.1) ?_
    refine Tr.tp 1 ((St.kp hS (by decide) (by decide) (by decide)).trans en_120_12) ?_
    refine Tr.iald (pc := 17) d_X12_value_17 (ty_128 hS.1.1) (by omega) (by omega) ?_
    refine Tr.gen (P := fun v => 0 ≤ v ∧ v ≤ 6) (ir_128_1 hS.1.2.1) (fun r17 er17 br17 => ?_)
    refine Tr.iconst (pc := 18) d_X12_value_18 (by decide) ?_
    refine Tr.isub (pc := 19) d_X12_value_19 ?_
    refine Tr.tp (r17 - 1) ((w32_id (by omega)).trans (by omega)) ?_
    refine Tr.callS (pc := 20) (as := [_, _, _]) d_X12_value_20 s_12_467 ok_X12_is rfl rfl (Nat.le_of_ble_eq_true rfl) (Nat.le_of_ble_eq_true rfl) ?_
    refine Tr.imp (Tr.deep (by decide) (sp_X12_is hS.1 a1 (by omega) 0 (by omega) (r17 - 1) (by omega))) ?_
    rintro M20 _ ⟨h20, r20, rfl, lr20, ur20, wr20⟩
    have hS := St.tr hS h20 (by decide) (by decide)
    refine Tr.sc [(0, r20)] rfl ?_
    refine Tr.if_eq (pc := 23) (tgt := 35) d_X12_value_23 rfl (fun c23 => ?_) (fun c23 => ?_)
    · refine Tr.ldcw (pc := 35) d_X12_value_35 k_12_640 (by decide) ?_
      exact Tr.iret (pc := 38) d_X12_value_38 rfl ⟨hS, _, rfl, by omega, by omega⟩
    · refine Tr.aload_n (pc := 26) (i := 0) d_X12_value_26 rfl rfl ?_
      refine Tr.getf (pc := 27) d_X12_value_27 f_12_291 (by decide) (by decide) (ty_120 hS.1.1) ?_
      refine Tr.tp 173 (fx_120_92 hS.1.1) ?_
      refine Tr.iload_n (pc := 30) (i := 1) d_X12_value_30 rfl rfl ?_
      refine Tr.iald (pc := 31) d_X12_value_31 (ty_173 hS.1.1) (by omega) (by omega) ?_
      refine Tr.gen (P := fun v => (-2147483648) ≤ v ∧ v ≤ 2147483647) (ar_173 hS.1.2.1 _) (fun r31 er31 br31 => ?_)
      refine Tr.goto (pc := 32) (tgt := 38) d_X12_value_32 rfl ?_
      exact Tr.iret (pc := 38) d_X12_value_38 rfl ⟨hS, _, rfl, by omega, by omega⟩

def ws_X12_spent_120_w1 : List (Int × Int) := []
def as_X12_spent_120_w1 : List Int := []
def q_X12_spent_120_w1 (M0 M' : Mem) (r : Option PV) : Prop := St Tru ws_X12_spent_120_w1 as_X12_spent_120_w1 M0 M' ∧ ∃ v : Int, r = some (0, v) ∧ (-2147483648) ≤ v ∧ v ≤ 2147483647
set_option maxRecDepth 100000 in
set_option maxHeartbeats 4000000 in
theorem sp_X12_spent_120_w1 {l : Launch} {K : EC} {M0 : Mem} (hI : In Tru M0) (en_120_12 : rd M0 120 12 = 1) (a1 : Int) (ha1 : (-2147483648) ≤ a1 ∧ a1 ≤ 2147483647) (a2 : Int) (ha2 : (-2147483648) ≤ a2 ∧ a2 ≤ 2147483647)  : Tr l K 2 mX12_spent 0 [(0, (2, 120)), (1, (0, a1)), (2, (0, a2))] [] M0 (q_X12_spent_120_w1 M0) := by
  have hS : St Tru ws_X12_spent_120_w1 as_X12_spent_120_w1 M0 M0 := St.rf hI
  refine Tr.aload_n (pc := 0) (i := 0) d_X12_spent_0 rfl rfl ?_
  refine Tr.getz (pc := 1) d_X12_spent_1 f_12_270 (by decide) (ty_120 hS.1.1) ?_
  refine Tr.gen (P := fun v => 0 ≤ v ∧ v ≤ 1) (ir_120_85 hS.1.2.1) (fun r1 er1 br1 => ?_)
  refine Tr.if_eq (pc := 4) (tgt := 37) d_X12_spent_4 rfl (fun c4 => ?_) (fun c4 => ?_)
  · refine Tr.iconst (pc := 37) d_X12_spent_37 (by decide) ?_
    exact Tr.iret (pc := 38) d_X12_spent_38 rfl ⟨hS, _, rfl, by omega, by omega⟩
  · refine Tr.aload_n (pc := 7) (i := 0) d_X12_spent_7 rfl rfl ?_
    refine Tr.iload_n (pc := 8) (i := 1) d_X12_spent_8 rfl rfl ?_
    refine Tr.callV (pc := 9) (as := [_]) d_X12_spent_9 s_12_555 ok_X12_isPart rfl rfl (Nat.le_of_ble_eq_true rfl) (Nat.le_of_ble_eq_true rfl) (by decide) (ty_120 hS.1.1) ?_
    refine Tr.imp (Tr.deep (by decide) (sp_X12_isPart_120_w1 hS.1 ((St.kp hS (by decide) (by decide) (by decide)).trans en_120_12) a1 (by omega))) ?_
    rintro M9 _ ⟨h9, r9, rfl, lr9, ur9, z9_0⟩
    have hS := St.tr hS h9 (by decide) (by decide)
    obtain ⟨w9_126_1, ew9_126_1⟩ : ∃ v, rd M9 126 1 = v := ⟨_, rfl⟩
    have bw9_126_1 : 0 ≤ w9_126_1 ∧ w9_126_1 ≤ 6 := by rw [← ew9_126_1]; exact ir_126_1 hS.1.2.1
    have ka9_126_1 : rd M9 126 1 = w9_126_1 := ew9_126_1
    refine Tr.sc [(0, r9)] rfl ?_
    refine Tr.if_eq (pc := 12) (tgt := 37) d_X12_spent_12 rfl (fun c12 => ?_) (fun c12 => ?_)
    · refine Tr.iconst (pc := 37) d_X12_spent_37 (by decide) ?_
      exact Tr.iret (pc := 38) d_X12_spent_38 rfl ⟨hS, _, rfl, by omega, by omega⟩
    · refine Tr.iload_n (pc := 15) (i := 2) d_X12_spent_15 rfl rfl ?_
      refine Tr.iconst (pc := 16) d_X12_spent_16 (by decide) ?_
      refine Tr.iconst (pc := 17) d_X12_spent_17 (by decide) ?_
      refine Tr.callS (pc := 18) (as := [_, _, _]) d_X12_spent_18 s_12_467 ok_X12_is rfl rfl (Nat.le_of_ble_eq_true rfl) (Nat.le_of_ble_eq_true rfl) ?_
      refine Tr.imp (Tr.deep (by decide) (sp_X12_is hS.1 a2 (by omega) 0 (by omega) 3 (by omega))) ?_
      rintro M18 _ ⟨h18, r18, rfl, lr18, ur18, wr18⟩
      have hS := St.tr hS h18 (by decide) (by decide)
      refine Tr.sc [(0, r18)] rfl ?_
      refine Tr.if_eq (pc := 21) (tgt := 37) d_X12_spent_21 rfl (fun c21 => ?_) (fun c21 => ?_)
      · refine Tr.iconst (pc := 37) d_X12_spent_37 (by decide) ?_
        exact Tr.iret (pc := 38) d_X12_spent_38 rfl ⟨hS, _, rfl, by omega, by omega⟩
      · refine Tr.aload_n (pc := 24) (i := 0) d_X12_spent_24 rfl rfl ?_
        refine Tr.getf (pc := 25) d_X12_spent_25 f_12_294 (by decide) (by decide) (ty_120 hS.1.1) ?_
        refine Tr.tp 174 (fx_120_93 hS.1.1) ?_
        refine Tr.iconst (pc := 28) d_X12_spent_28 (by decide) ?_
        refine Tr.iload_n (pc := 29) (i := 1) d_X12_spent_29 rfl rfl ?_
        refine Tr.imul (pc := 30) d_X12_spent_30 ?_
        refine Tr.tp (4 * a1) ((w32_id (by omega)).trans (by omega)) ?_
        refine Tr.iload_n (pc := 31) (i := 2) d_X12_spent_31 rfl rfl ?_
        refine Tr.iadd (pc := 32) d_X12_spent_32 ?_
        refine Tr.tp (4 * a1 + a2) ((w32_id (by omega)).trans (by omega)) ?_
        refine Tr.iald (pc := 33) d_X12_spent_33 (ty_174 hS.1.1) (by omega) (by omega) ?_
        refine Tr.gen (P := fun v => (-2147483648) ≤ v ∧ v ≤ 2147483647) (ar_174 hS.1.2.1 _) (fun r33 er33 br33 => ?_)
        refine Tr.goto (pc := 34) (tgt := 38) d_X12_spent_34 rfl ?_
        exact Tr.iret (pc := 38) d_X12_spent_38 rfl ⟨hS, _, rfl, by omega, by omega⟩

def ws_X12_isLine_120_w1 : List (Int × Int) := []
def as_X12_isLine_120_w1 : List Int := []
def q_X12_isLine_120_w1 (a1 : Int) (M0 M' : Mem) (r : Option PV) : Prop := St Tru ws_X12_isLine_120_w1 as_X12_isLine_120_w1 M0 M' ∧ ∃ v : Int, r = some (0, v) ∧ 0 ≤ v ∧ v ≤ 1 ∧ (v = 0 ∨ (0 ≤ a1 ∧ a1 < rd M' 129 1))
set_option maxRecDepth 100000 in
set_option maxHeartbeats 4000000 in
theorem sp_X12_isLine_120_w1 {l : Launch} {K : EC} {M0 : Mem} (hI : In Tru M0) (en_120_12 : rd M0 120 12 = 1) (a1 : Int) (ha1 : (-2147483648) ≤ a1 ∧ a1 ≤ 2147483647)  : Tr l K 1 mX12_isLine 0 [(0, (2, 120)), (1, (0, a1))] [] M0 (q_X12_isLine_120_w1 a1 M0) := by
  have hS : St Tru ws_X12_isLine_120_w1 as_X12_isLine_120_w1 M0 M0 := St.rf hI
  obtain ⟨g129_1, eg129_1⟩ : ∃ v, rd M0 129 1 = v := ⟨_, rfl⟩
  have bg129_1 : 0 ≤ g129_1 ∧ g129_1 ≤ 60 := by rw [← eg129_1]; exact ir_129_1 hI.2.1
  refine Tr.iload_n (pc := 0) (i := 1) d_X12_isLine_0 rfl rfl ?_
  refine Tr.iconst (pc := 1) d_X12_isLine_1 (by decide) ?_
  refine Tr.aload_n (pc := 2) (i := 0) d_X12_isLine_2 rfl rfl ?_
  refine Tr.getf (pc := 3) d_X12_isLine_3 f_12_72 (by decide) (by decide) (ty_120 hS.1.1) ?_
  refine Tr.tp 129 (fx_120_20 hS.1.1) ?_
  refine Tr.aload_n (pc := 6) (i := 0) d_X12_isLine_6 rfl rfl ?_
  refine Tr.getf (pc := 7) d_X12_isLine_7 f_12_48 (by decide) (by decide) (ty_120 hS.1.1) ?_
  refine Tr.tp 1 ((St.kp hS (by decide) (by decide) (by decide)).trans en_120_12) ?_
  refine Tr.iald (pc := 10) d_X12_isLine_10 (ty_129 hS.1.1) (by omega) (by omega) ?_
  refine Tr.tp g129_1 eg129_1 ?_
  refine Tr.iconst (pc := 11) d_X12_isLine_11 (by decide) ?_
  refine Tr.isub (pc := 12) d_X12_isLine_12 ?_
  refine Tr.tp (g129_1 - 1) ((w32_id (by omega)).trans (by omega)) ?_
  refine Tr.callS (pc := 13) (as := [_, _, _]) d_X12_isLine_13 s_12_467 ok_X12_is rfl rfl (Nat.le_of_ble_eq_true rfl) (Nat.le_of_ble_eq_true rfl) ?_
  refine Tr.imp (Tr.deep (by decide) (sp_X12_is hS.1 a1 (by omega) 0 (by omega) (g129_1 - 1) (by omega))) ?_
  rintro M13 _ ⟨h13, r13, rfl, lr13, ur13, wr13⟩
  have hS := St.tr hS h13 (by decide) (by decide)
  refine Tr.sc [(0, r13)] rfl ?_
  have kr_129_1 : rd M13 129 1 = g129_1 := ((St.kp h13 (by decide) (by decide) (by decide)).trans eg129_1)
  exact Tr.zret (pc := 16) d_X12_isLine_16 rfl (by omega) ⟨hS, _, rfl, by omega, by omega, by omega⟩

set_option maxRecDepth 100000 in
set_option maxHeartbeats 4000000 in
theorem ns_X12_isLine_120_w1 {l : Launch} {K : EC} {M0 : Mem} {G129_1 : Int} (hI : In Tru M0) (k129_1 : rd M0 129 1 = G129_1) (en_120_12 : rd M0 120 12 = 1) (a1 : Int) (ha1 : (-2147483648) ≤ a1 ∧ a1 ≤ 2147483647)  : Tr l K 1 mX12_isLine 0 [(0, (2, 120)), (1, (0, a1))] [] M0 (fun M' r => St Tru ws_X12_isLine_120_w1 as_X12_isLine_120_w1 M0 M' ∧ ∃ v : Int, r = some (0, v) ∧ 0 ≤ v ∧ v ≤ 1 ∧ Hd (v = 0 ∨ (0 ≤ a1 ∧ a1 < G129_1))) := by
  subst k129_1
  refine Tr.imp (sp_X12_isLine_120_w1 hI en_120_12 a1 ha1) ?_
  rintro M' _ ⟨hS, v, rfl, lr, ur, z0⟩
  rewrite [show rd M' 129 1 = rd M0 129 1 from ((St.kp hS (by decide) (by decide) (by decide)).trans rfl)] at z0
  exact ⟨hS, v, rfl, lr, ur, hd_i z0⟩

def ws_X12_rate_120_w1 : List (Int × Int) := []
def as_X12_rate_120_w1 : List Int := []
def q_X12_rate_120_w1 (a1 : Int) (a2 : Int) (M0 M' : Mem) (r : Option PV) : Prop := St Tru ws_X12_rate_120_w1 as_X12_rate_120_w1 M0 M' ∧ ∃ v : Int, r = some (0, v) ∧ (-2147483648) ≤ v ∧ v ≤ 2147483647 ∧ (a2 ≠ 5 ∨ rd M' 126 1 ≤ a1 ∨ v ≤ 50)
set_option maxRecDepth 100000 in
set_option maxHeartbeats 4000000 in
theorem sp_X12_rate_120_w1 {l : Launch} {K : EC} {M0 : Mem} (hI : In Tru M0) (en_120_12 : rd M0 120 12 = 1) (a1 : Int) (ha1 : 0 ≤ a1 ∧ a1 ≤ 5) (a2 : Int) (ha2 : 0 ≤ a2 ∧ a2 ≤ 5)  (hF_Bk1 : Bk1 M0) : Tr l K 0 mX12_rate 0 [(0, (2, 120)), (1, (0, a1)), (2, (0, a2))] [] M0 (q_X12_rate_120_w1 a1 a2 M0) := by
  have hS : St Tru ws_X12_rate_120_w1 as_X12_rate_120_w1 M0 M0 := St.rf hI
  obtain ⟨g126_1, eg126_1⟩ : ∃ v, rd M0 126 1 = v := ⟨_, rfl⟩
  have bg126_1 : 0 ≤ g126_1 ∧ g126_1 ≤ 6 := by rw [← eg126_1]; exact ir_126_1 hI.2.1
  refine Tr.aload_n (pc := 0) (i := 0) d_X12_rate_0 rfl rfl ?_
  refine Tr.getf (pc := 1) d_X12_rate_1 f_12_79 (by decide) (by decide) (ty_120 hS.1.1) ?_
  refine Tr.tp 131 (fx_120_22 hS.1.1) ?_
  refine Tr.bipush (pc := 4) d_X12_rate_4 rfl (by decide) ?_
  refine Tr.bipush (pc := 6) d_X12_rate_6 rfl (by decide) ?_
  refine Tr.aload_n (pc := 8) (i := 0) d_X12_rate_8 rfl rfl ?_
  refine Tr.getf (pc := 9) d_X12_rate_9 f_12_48 (by decide) (by decide) (ty_120 hS.1.1) ?_
  refine Tr.tp 1 ((St.kp hS (by decide) (by decide) (by decide)).trans en_120_12) ?_
  refine Tr.imul (pc := 12) d_X12_rate_12 ?_
  refine Tr.tp 6 (by decide) ?_
  refine Tr.iload_n (pc := 13) (i := 1) d_X12_rate_13 rfl rfl ?_
  refine Tr.iadd (pc := 14) d_X12_rate_14 ?_
  refine Tr.tp (a1 + 6) ((w32_id (by omega)).trans (by omega)) ?_
  refine Tr.imul (pc := 15) d_X12_rate_15 ?_
  refine Tr.tp (6 * a1 + 36) ((w32_id (by omega)).trans (by omega)) ?_
  refine Tr.iload_n (pc := 16) (i := 2) d_X12_rate_16 rfl rfl ?_
  refine Tr.iadd (pc := 17) d_X12_rate_17 ?_
  refine Tr.tp (6 * a1 + a2 + 36) ((w32_id (by omega)).trans (by omega)) ?_
  refine Tr.iald (pc := 18) d_X12_rate_18 (ty_131 hS.1.1) (by omega) (by omega) ?_
  refine Tr.gen (P := fun v => ((-2147483648) ≤ v ∧ v ≤ 2147483647) ∧ (a2 ≠ 5 ∨ g126_1 ≤ a1 ∨ v ≤ 50)) (by have h9 := (ar_131 hS.1.2.1 ((6 * a1 + a2 + 36))); have h8 := Bk1_rt (Bk1.of hF_Bk1 (fun j => (St.ka hS (by decide) (by decide) (by decide))) (fun j => (St.ka hS (by decide) (by decide) (by decide))) (fun j => (St.ka hS (by decide) (by decide) (by decide))) (fun j => (St.ka hS (by decide) (by decide) (by decide))) (fun j => (St.ka hS (by decide) (by decide) (by decide))) (fun j => (St.ka hS (by decide) (by decide) (by decide))) (fun j => (St.ka hS (by decide) (by decide) (by decide))) (fun j => (St.ka hS (by decide) (by decide) (by decide))) (St.kp hS (by decide) (by decide) (by decide)) (St.kp hS (by decide) (by decide) (by decide)) (St.kp hS (by decide) (by decide) (by decide)) (St.kp hS (by decide) (by decide) (by decide))) (p := a1) (k := a2) (i := (6 * a1 + a2 + 36)) (by omega) (by omega); have e8 := eg126_1; rw [e8] at h8; exact ⟨h9, h8⟩) (fun r18 er18 br18 => ?_)
  have kr_126_1 : rd M0 126 1 = g126_1 := eg126_1
  exact Tr.iret (pc := 19) d_X12_rate_19 rfl ⟨hS, _, rfl, by omega, by omega, by omega⟩

def ws_X12_sharesOf_120_w1 : List (Int × Int) := [(120, 97), (120, 98), (120, 99)]
def as_X12_sharesOf_120_w1 : List Int := []
def q_X12_sharesOf_120_w1 (M0 M' : Mem) (r : Option PV) : Prop := St Tru ws_X12_sharesOf_120_w1 as_X12_sharesOf_120_w1 M0 M' ∧ ∃ v : Int, r = some (1, v) ∧ (-9223372036854775808) ≤ v ∧ v ≤ 9223372036854775807
set_option maxRecDepth 100000 in
set_option maxHeartbeats 4000000 in
theorem sp_X12_sharesOf_120_w1 {l : Launch} {K : EC} {M0 : Mem} (hI : In Tru M0) (en_120_12 : rd M0 120 12 = 1) (a1 : Int) (ha1 : 0 ≤ a1 ∧ a1 ≤ 5) (a2 : Int) (ha2 : (-2147483648) ≤ a2 ∧ a2 ≤ 2147483647)  (hF_Bk1 : Bk1 M0) : Tr l K 2 mX12_sharesOf 0 [(0, (2, 120)), (1, (0, a1)), (2, (0, a2))] [] M0 (q_X12_sharesOf_120_w1 M0) := by
  have hS : St Tru ws_X12_sharesOf_120_w1 as_X12_sharesOf_120_w1 M0 M0 := St.rf hI
  refine Tr.lconst (pc := 0) (v := 0) d_X12_sharesOf_0 rfl (by decide) ?_
  refine Tr.lstore_n (pc := 1) (i := 3) (ls2 := [(3, (1, 0)), (0, (2, 120)), (1, (0, a1)), (2, (0, a2))]) d_X12_sharesOf_1 rfl (by decide) rfl ?_
  refine Tr.iconst (pc := 2) d_X12_sharesOf_2 (by decide) ?_
  refine Tr.istore (pc := 3) (i := 5) (ls2 := [(5, (0, 1)), (3, (1, 0)), (0, (2, 120)), (1, (0, a1)), (2, (0, a2))]) d_X12_sharesOf_3 (by decide) rfl ?_
  refine Tr.iconst (pc := 5) d_X12_sharesOf_5 (by decide) ?_
  refine Tr.istore (pc := 6) (i := 6) (ls2 := [(6, (0, 0)), (5, (0, 1)), (3, (1, 0)), (0, (2, 120)), (1, (0, a1)), (2, (0, a2))]) d_X12_sharesOf_6 (by decide) rfl ?_
  have J8 : ∀ (n8 : Nat) (M : Mem) (p8_3 p8_5 p8_6 : Int), St Tru ws_X12_sharesOf_120_w1 as_X12_sharesOf_120_w1 M0 M → ((-9223372036854775808) ≤ p8_3 ∧ p8_3 ≤ 9223372036854775807) → (0 ≤ p8_5 ∧ p8_5 ≤ 1) → (0 ≤ p8_6 ∧ p8_6 ≤ 2147483647) → (p8_6 ≤ 2102 ∧ (p8_5 = 0 ∨ p8_6 ≤ 2101)) → (2300 - p8_6).toNat < n8 → Tr l K 2 mX12_sharesOf 8 [(0, (2, 120)), (1, (0, a1)), (2, (0, a2)), (3, (1, p8_3)), (5, (0, p8_5)), (6, (0, p8_6))] [] M (q_X12_sharesOf_120_w1 M0) := by
    intro n8
    induction n8 with
    | zero => intro M p8_3 p8_5 p8_6 hS bp8_3 bp8_5 bp8_6  t8_0 hm8; exact absurd hm8 (Nat.not_lt_zero _)
    | succ n8 J8 =>
      intro M p8_3 p8_5 p8_6 hS bp8_3 bp8_5 bp8_6  t8_0 hm8
      refine Tr.iload (pc := 8) (i := 5) d_X12_sharesOf_8 rfl ?_
      refine Tr.if_eq (pc := 10) (tgt := 117) d_X12_sharesOf_10 rfl (fun c10 => ?_) (fun c10 => ?_)
      · refine Tr.lload_n (pc := 117) (i := 3) d_X12_sharesOf_117 rfl rfl ?_
        exact Tr.lret (pc := 118) d_X12_sharesOf_118 rfl ⟨hS, _, rfl, by omega, by omega⟩
      · refine Tr.aload_n (pc := 13) (i := 0) d_X12_sharesOf_13 rfl rfl ?_
        refine Tr.iload_n (pc := 14) (i := 1) d_X12_sharesOf_14 rfl rfl ?_
        refine Tr.iload (pc := 15) (i := 6) d_X12_sharesOf_15 rfl ?_
        refine Tr.callV (pc := 17) (as := [_, _]) d_X12_sharesOf_17 s_12_644 ok_X12_finds rfl rfl (Nat.le_of_ble_eq_true rfl) (Nat.le_of_ble_eq_true rfl) (by decide) (ty_120 hS.1.1) ?_
        refine Tr.imp (Tr.deep (by decide) (sp_X12_finds_120 hS.1 a1 (by omega) p8_6 (by omega))) ?_
        rintro M17 _ ⟨h17, r17, rfl, lr17, ur17, z17_0⟩
        have hS := St.tr hS h17 (by decide) (by decide)
        refine Tr.sc [(0, r17)] rfl ?_
        refine Tr.istore (pc := 20) (i := 5) (ls2 := [(5, (0, r17)), (0, (2, 120)), (1, (0, a1)), (2, (0, a2)), (3, (1, p8_3)), (6, (0, p8_6))]) d_X12_sharesOf_20 (by decide) rfl ?_
        refine Tr.iload (pc := 22) (i := 5) d_X12_sharesOf_22 rfl ?_
        have J111 : ∀ (M : Mem) (p111_3 : Int), St Tru ws_X12_sharesOf_120_w1 as_X12_sharesOf_120_w1 M0 M → ((-9223372036854775808) ≤ p111_3 ∧ p111_3 ≤ 9223372036854775807) → (p8_6 ≤ 2101 ∧ (r17 = 0 ∨ p8_6 ≤ 2100)) → Tr l K 2 mX12_sharesOf 111 [(0, (2, 120)), (1, (0, a1)), (2, (0, a2)), (3, (1, p111_3)), (5, (0, r17)), (6, (0, p8_6))] [] M (q_X12_sharesOf_120_w1 M0) := by
          intro M p111_3 hS bp111_3  t111_0
          refine Tr.iincV (pc := 111) (n2 := (p8_6 + 1)) (ls2 := [(6, (0, (p8_6 + 1))), (0, (2, 120)), (1, (0, a1)), (2, (0, a2)), (3, (1, p111_3)), (5, (0, r17))]) d_X12_sharesOf_111 rfl (by decide) ((w32_id (by omega)).trans (by omega)) rfl ?_
          refine Tr.goto (pc := 114) (tgt := 8) d_X12_sharesOf_114 rfl ?_
          refine Tr.pick [1, 2, 3, 4, 5, 0] (ls2 := [(0, (2, 120)), (1, (0, a1)), (2, (0, a2)), (3, (1, p111_3)), (5, (0, r17)), (6, (0, (p8_6 + 1)))]) rfl ?_
          exact J8 _ _ _ _ hS (by omega) (by omega) (by omega) (by first | assumption | omega) (by omega)
        refine Tr.if_ne (pc := 24) (tgt := 30) d_X12_sharesOf_24 rfl (fun c24 => ?_) (fun c24 => ?_)
        · refine Tr.aload_n (pc := 30) (i := 0) d_X12_sharesOf_30 rfl rfl ?_
          refine Tr.iload_n (pc := 31) (i := 1) d_X12_sharesOf_31 rfl rfl ?_
          refine Tr.callV (pc := 32) (as := [_]) d_X12_sharesOf_32 s_12_650 ok_X12_linesIn rfl rfl (Nat.le_of_ble_eq_true rfl) (Nat.le_of_ble_eq_true rfl) (by decide) (ty_120 hS.1.1) ?_
          refine Tr.imp (Tr.deep (by decide) (sp_X12_linesIn_120 hS.1 a1 (by omega))) ?_
          rintro M32 _ ⟨h32, r32, rfl, lr32, ur32⟩
          have hS := St.tr hS h32 (by decide) (by decide)
          refine Tr.sc [(1, r32)] rfl ?_
          refine Tr.lstore (pc := 35) (i := 7) (ls2 := [(7, (1, r32)), (5, (0, r17)), (0, (2, 120)), (1, (0, a1)), (2, (0, a2)), (3, (1, p8_3)), (6, (0, p8_6))]) d_X12_sharesOf_35 (by decide) rfl ?_
          refine Tr.lload (pc := 37) (i := 7) d_X12_sharesOf_37 rfl ?_
          refine Tr.iload_n (pc := 39) (i := 2) d_X12_sharesOf_39 rfl rfl ?_
          refine Tr.lshr (pc := 40) d_X12_sharesOf_40 ?_
          refine Tr.gen (P := fun v => ((-9223372036854775808) ≤ v ∧ v ≤ 9223372036854775807) ∧ (r32 ≠ 0 ∨ v = 0)) (lshr_z _ _) (fun r40 er40 br40 => ?_)
          refine Tr.lconst (pc := 41) (v := 1) d_X12_sharesOf_41 rfl (by decide) ?_
          refine Tr.land (pc := 42) d_X12_sharesOf_42 ?_
          refine Tr.gen (P := fun v => v = r40 % 2 ∧ (0 ≤ v ∧ v ≤ 1)) ⟨(f_land_1 _).1, (f_land_1 _).2⟩ (fun r42 er42 br42 => ?_)
          refine Tr.lconst (pc := 43) (v := 0) d_X12_sharesOf_43 rfl (by decide) ?_
          refine Tr.lcmp (pc := 44) d_X12_sharesOf_44 ?_
          refine Tr.gen (P := fun v => (v = 1 ∧ 0 < r42) ∨ (v = 0 ∧ r42 = 0) ∨ (v = -1 ∧ r42 < 0)) (f_lcmp_c _ _) (fun r44 er44 br44 => ?_)
          refine Tr.if_ne (pc := 45) (tgt := 51) d_X12_sharesOf_45 rfl (fun c45 => ?_) (fun c45 => ?_)
          · refine Tr.lload (pc := 51) (i := 7) d_X12_sharesOf_51 rfl ?_
            refine Tr.callS (pc := 53) (as := [_]) d_X12_sharesOf_53 s_12_653 ok_X12_bitsOf rfl rfl (Nat.le_of_ble_eq_true rfl) (Nat.le_of_ble_eq_true rfl) ?_
            refine Tr.imp (Tr.deep (by decide) (sp_X12_bitsOf hS.1 r32 (by omega))) ?_
            rintro M53 _ ⟨h53, r53, rfl, lr53, ur53, wr53⟩
            have hS := St.tr hS h53 (by decide) (by decide)
            refine Tr.sc [(0, r53)] rfl ?_
            refine Tr.istore (pc := 56) (i := 9) (ls2 := [(9, (0, r53)), (7, (1, r32)), (5, (0, r17)), (0, (2, 120)), (1, (0, a1)), (2, (0, a2)), (3, (1, p8_3)), (6, (0, p8_6))]) d_X12_sharesOf_56 (by decide) rfl ?_
            refine Tr.aload_n (pc := 58) (i := 0) d_X12_sharesOf_58 rfl rfl ?_
            refine Tr.iload_n (pc := 59) (i := 1) d_X12_sharesOf_59 rfl rfl ?_
            refine Tr.callV (pc := 60) (as := [_]) d_X12_sharesOf_60 s_12_647 ok_X12_onIn rfl rfl (Nat.le_of_ble_eq_true rfl) (Nat.le_of_ble_eq_true rfl) (by decide) (ty_120 hS.1.1) ?_
            refine Tr.imp (Tr.deep (by decide) (sp_X12_onIn_120 hS.1 a1 (by omega))) ?_
            rintro M60 _ ⟨h60, r60, rfl, lr60, ur60⟩
            have hS := St.tr hS h60 (by decide) (by decide)
            refine Tr.sc [(0, r60)] rfl ?_
            refine Tr.i2l (pc := 63) d_X12_sharesOf_63 ?_
            refine Tr.aload_n (pc := 64) (i := 0) d_X12_sharesOf_64 rfl rfl ?_
            refine Tr.iload_n (pc := 65) (i := 1) d_X12_sharesOf_65 rfl rfl ?_
            refine Tr.iconst (pc := 66) d_X12_sharesOf_66 (by decide) ?_
            refine Tr.callV (pc := 67) (as := [_, _]) d_X12_sharesOf_67 s_12_565 ok_X12_rate rfl rfl (Nat.le_of_ble_eq_true rfl) (Nat.le_of_ble_eq_true rfl) (by decide) (ty_120 hS.1.1) ?_
            refine Tr.imp (Tr.deep (by decide) (sp_X12_rate_120_w1 hS.1 ((St.kp hS (by decide) (by decide) (by decide)).trans en_120_12) a1 (by omega) 3 (by omega) (Bk1.of hF_Bk1 (fun j => (St.ka hS (by decide) (by decide) (by decide))) (fun j => (St.ka hS (by decide) (by decide) (by decide))) (fun j => (St.ka hS (by decide) (by decide) (by decide))) (fun j => (St.ka hS (by decide) (by decide) (by decide))) (fun j => (St.ka hS (by decide) (by decide) (by decide))) (fun j => (St.ka hS (by decide) (by decide) (by decide))) (fun j => (St.ka hS (by decide) (by decide) (by decide))) (fun j => (St.ka hS (by decide) (by decide) (by decide))) (St.kp hS (by decide) (by decide) (by decide)) (St.kp hS (by decide) (by decide) (by decide)) (St.kp hS (by decide) (by decide) (by decide)) (St.kp hS (by decide) (by decide) (by decide))))) ?_
            rintro M67 _ ⟨h67, r67, rfl, lr67, ur67, z67_0⟩
            have hS := St.tr hS h67 (by decide) (by decide)
            obtain ⟨w67_126_1, ew67_126_1⟩ : ∃ v, rd M67 126 1 = v := ⟨_, rfl⟩
            have bw67_126_1 : 0 ≤ w67_126_1 ∧ w67_126_1 ≤ 6 := by rw [← ew67_126_1]; exact ir_126_1 hS.1.2.1
            have ka67_126_1 : rd M67 126 1 = w67_126_1 := ew67_126_1
            refine Tr.sc [(0, r67), (1, r60)] rfl ?_
            refine Tr.i2l (pc := 70) d_X12_sharesOf_70 ?_
            refine Tr.lmul (pc := 71) d_X12_sharesOf_71 ?_
            refine Tr.gen (P := fun v => (-9223372036854775808) ≤ v ∧ v ≤ 9223372036854775807) (w64_b _) (fun r71 er71 br71 => ?_)
            refine Tr.lstore (pc := 72) (i := 10) (ls2 := [(10, (1, r71)), (9, (0, r53)), (7, (1, r32)), (5, (0, r17)), (0, (2, 120)), (1, (0, a1)), (2, (0, a2)), (3, (1, p8_3)), (6, (0, p8_6))]) d_X12_sharesOf_72 (by decide) rfl ?_
            refine Tr.lload_n (pc := 74) (i := 3) d_X12_sharesOf_74 rfl rfl ?_
            refine Tr.lload (pc := 75) (i := 10) d_X12_sharesOf_75 rfl ?_
            refine Tr.iload (pc := 77) (i := 9) d_X12_sharesOf_77 rfl ?_
            refine Tr.i2l (pc := 79) d_X12_sharesOf_79 ?_
            refine Tr.ldiv (pc := 80) d_X12_sharesOf_80 (by omega) ?_
            refine Tr.gen (P := fun v => (-9223372036854775808) ≤ v ∧ v ≤ 9223372036854775807) (w64_b _) (fun r80 er80 br80 => ?_)
            refine Tr.lload (pc := 81) (i := 7) d_X12_sharesOf_81 rfl ?_
            refine Tr.lconst (pc := 83) (v := 1) d_X12_sharesOf_83 rfl (by decide) ?_
            refine Tr.iload_n (pc := 84) (i := 2) d_X12_sharesOf_84 rfl rfl ?_
            refine Tr.lshl (pc := 85) d_X12_sharesOf_85 ?_
            refine Tr.gen (P := fun v => (-9223372036854775808) ≤ v ∧ v ≤ 9223372036854775807) (i64_b _) (fun r85 er85 br85 => ?_)
            refine Tr.lconst (pc := 86) (v := 1) d_X12_sharesOf_86 rfl (by decide) ?_
            refine Tr.lsub (pc := 87) d_X12_sharesOf_87 ?_
            refine Tr.gen (P := fun v => (-9223372036854775808) ≤ v ∧ v ≤ 9223372036854775807) (w64_b _) (fun r87 er87 br87 => ?_)
            refine Tr.land (pc := 88) d_X12_sharesOf_88 ?_
            refine Tr.gen (P := fun v => (-9223372036854775808) ≤ v ∧ v ≤ 9223372036854775807) (i64_b _) (fun r88 er88 br88 => ?_)
            refine Tr.callS (pc := 89) (as := [_]) d_X12_sharesOf_89 s_12_653 ok_X12_bitsOf rfl rfl (Nat.le_of_ble_eq_true rfl) (Nat.le_of_ble_eq_true rfl) ?_
            refine Tr.imp (Tr.deep (by decide) (sp_X12_bitsOf hS.1 r88 (by omega))) ?_
            rintro M89 _ ⟨h89, r89, rfl, lr89, ur89, wr89⟩
            have hS := St.tr hS h89 (by decide) (by decide)
            refine Tr.sc [(0, r89), (1, r80), (1, p8_3)] rfl ?_
            refine Tr.i2l (pc := 92) d_X12_sharesOf_92 ?_
            refine Tr.lload (pc := 93) (i := 10) d_X12_sharesOf_93 rfl ?_
            refine Tr.iload (pc := 95) (i := 9) d_X12_sharesOf_95 rfl ?_
            refine Tr.i2l (pc := 97) d_X12_sharesOf_97 ?_
            refine Tr.lrem (pc := 98) d_X12_sharesOf_98 (by omega) ?_
            refine Tr.gen (P := fun v => (-9223372036854775808) ≤ v ∧ v ≤ 9223372036854775807) (rem64_b _ _ (by omega)) (fun r98 er98 br98 => ?_)
            refine Tr.lcmp (pc := 99) d_X12_sharesOf_99 ?_
            refine Tr.gen (P := fun v => (v = 1 ∧ r98 < r89) ∨ (v = 0 ∧ r89 = r98) ∨ (v = -1 ∧ r89 < r98)) (f_lcmp_c _ _) (fun r99 er99 br99 => ?_)
            have J108 : ∀ (M : Mem) (q108_2 : Int), St Tru ws_X12_sharesOf_120_w1 as_X12_sharesOf_120_w1 M0 M → (0 ≤ q108_2 ∧ q108_2 ≤ 1) → rd M 126 1 = w67_126_1 → Tr l K 2 mX12_sharesOf 108 [(0, (2, 120)), (1, (0, a1)), (2, (0, a2)), (5, (0, r17)), (6, (0, p8_6))] [(1, q108_2), (1, r80), (1, p8_3)] M (q_X12_sharesOf_120_w1 M0) := by
              intro M q108_2 hS bq108_2 k108_126_1
              refine Tr.ladd (pc := 108) d_X12_sharesOf_108 ?_
              refine Tr.gen (P := fun v => (-9223372036854775808) ≤ v ∧ v ≤ 9223372036854775807) (w64_b _) (fun r108 er108 br108 => ?_)
              refine Tr.ladd (pc := 109) d_X12_sharesOf_109 ?_
              refine Tr.gen (P := fun v => (-9223372036854775808) ≤ v ∧ v ≤ 9223372036854775807) (w64_b _) (fun r109 er109 br109 => ?_)
              refine Tr.lstore_n (pc := 110) (i := 3) (ls2 := [(3, (1, r109)), (0, (2, 120)), (1, (0, a1)), (2, (0, a2)), (5, (0, r17)), (6, (0, p8_6))]) d_X12_sharesOf_110 rfl (by decide) rfl ?_
              refine Tr.pick [1, 2, 3, 0, 4, 5] (ls2 := [(0, (2, 120)), (1, (0, a1)), (2, (0, a2)), (3, (1, r109)), (5, (0, r17)), (6, (0, p8_6))]) rfl ?_
              exact J111 _ _ hS (by omega) (by first | assumption | omega)
            refine Tr.if_ge (pc := 100) (tgt := 107) d_X12_sharesOf_100 rfl (fun c100 => ?_) (fun c100 => ?_)
            · refine Tr.lconst (pc := 107) (v := 0) d_X12_sharesOf_107 rfl (by decide) ?_
              refine Tr.pick [4, 5, 6, 3, 8] (ls2 := [(0, (2, 120)), (1, (0, a1)), (2, (0, a2)), (5, (0, r17)), (6, (0, p8_6))]) rfl ?_
              exact J108 _ _ hS (by omega) ((St.kp h89 (by decide) (by decide) (by decide)).trans ew67_126_1)
            · refine Tr.lconst (pc := 103) (v := 1) d_X12_sharesOf_103 rfl (by decide) ?_
              refine Tr.goto (pc := 104) (tgt := 108) d_X12_sharesOf_104 rfl ?_
              refine Tr.pick [4, 5, 6, 3, 8] (ls2 := [(0, (2, 120)), (1, (0, a1)), (2, (0, a2)), (5, (0, r17)), (6, (0, p8_6))]) rfl ?_
              exact J108 _ _ hS (by omega) ((St.kp h89 (by decide) (by decide) (by decide)).trans ew67_126_1)
          · refine Tr.goto (pc := 48) (tgt := 111) d_X12_sharesOf_48 rfl ?_
            refine Tr.pick [2, 3, 4, 5, 1, 6] (ls2 := [(0, (2, 120)), (1, (0, a1)), (2, (0, a2)), (3, (1, p8_3)), (5, (0, r17)), (6, (0, p8_6))]) rfl ?_
            exact J111 _ _ hS (by omega) (by first | assumption | omega)
        · refine Tr.goto (pc := 27) (tgt := 111) d_X12_sharesOf_27 rfl ?_
          refine Tr.pick [1, 2, 3, 4, 0, 5] (ls2 := [(0, (2, 120)), (1, (0, a1)), (2, (0, a2)), (3, (1, p8_3)), (5, (0, r17)), (6, (0, p8_6))]) rfl ?_
          exact J111 _ _ hS (by omega) (by first | assumption | omega)
  refine Tr.pick [3, 4, 5, 2, 1, 0] (ls2 := [(0, (2, 120)), (1, (0, a1)), (2, (0, a2)), (3, (1, 0)), (5, (0, 1)), (6, (0, 0))]) rfl ?_
  exact J8 _ _ _ _ _ hS (by omega) (by omega) (by omega) (by first | assumption | omega) (Nat.lt_succ_self _)

def ws_X12_sleeps_120_w1 : List (Int × Int) := []
def as_X12_sleeps_120_w1 : List Int := []
def q_X12_sleeps_120_w1 (M0 M' : Mem) (r : Option PV) : Prop := St Tru ws_X12_sleeps_120_w1 as_X12_sleeps_120_w1 M0 M' ∧ ∃ v : Int, r = some (0, v) ∧ (-2147483648) ≤ v ∧ v ≤ 2147483647
set_option maxRecDepth 100000 in
set_option maxHeartbeats 4000000 in
theorem sp_X12_sleeps_120_w1 {l : Launch} {K : EC} {M0 : Mem} (hI : In Tru M0) (en_120_12 : rd M0 120 12 = 1) (a1 : Int) (ha1 : 0 ≤ a1 ∧ a1 ≤ 5)  (hF_Bk1 : Bk1 M0) : Tr l K 1 mX12_sleeps 0 [(0, (2, 120)), (1, (0, a1))] [] M0 (q_X12_sleeps_120_w1 M0) := by
  have hS : St Tru ws_X12_sleeps_120_w1 as_X12_sleeps_120_w1 M0 M0 := St.rf hI
  refine Tr.aload_n (pc := 0) (i := 0) d_X12_sleeps_0 rfl rfl ?_
  refine Tr.iload_n (pc := 1) (i := 1) d_X12_sleeps_1 rfl rfl ?_
  refine Tr.iconst (pc := 2) d_X12_sleeps_2 (by decide) ?_
  refine Tr.callV (pc := 3) (as := [_, _]) d_X12_sleeps_3 s_12_565 ok_X12_rate rfl rfl (Nat.le_of_ble_eq_true rfl) (Nat.le_of_ble_eq_true rfl) (by decide) (ty_120 hS.1.1) ?_
  refine Tr.imp (Tr.deep (by decide) (sp_X12_rate_120_w1 hS.1 ((St.kp hS (by decide) (by decide) (by decide)).trans en_120_12) a1 (by omega) 0 (by omega) (Bk1.of hF_Bk1 (fun j => (St.ka hS (by decide) (by decide) (by decide))) (fun j => (St.ka hS (by decide) (by decide) (by decide))) (fun j => (St.ka hS (by decide) (by decide) (by decide))) (fun j => (St.ka hS (by decide) (by decide) (by decide))) (fun j => (St.ka hS (by decide) (by decide) (by decide))) (fun j => (St.ka hS (by decide) (by decide) (by decide))) (fun j => (St.ka hS (by decide) (by decide) (by decide))) (fun j => (St.ka hS (by decide) (by decide) (by decide))) (St.kp hS (by decide) (by decide) (by decide)) (St.kp hS (by decide) (by decide) (by decide)) (St.kp hS (by decide) (by decide) (by decide)) (St.kp hS (by decide) (by decide) (by decide))))) ?_
  rintro M3 _ ⟨h3, r3, rfl, lr3, ur3, z3_0⟩
  have hS := St.tr hS h3 (by decide) (by decide)
  obtain ⟨w3_126_1, ew3_126_1⟩ : ∃ v, rd M3 126 1 = v := ⟨_, rfl⟩
  have bw3_126_1 : 0 ≤ w3_126_1 ∧ w3_126_1 ≤ 6 := by rw [← ew3_126_1]; exact ir_126_1 hS.1.2.1
  have ka3_126_1 : rd M3 126 1 = w3_126_1 := ew3_126_1
  refine Tr.sc [(0, r3)] rfl ?_
  exact Tr.iret (pc := 6) d_X12_sleeps_6 rfl ⟨hS, _, rfl, by omega, by omega⟩

def ws_X12_sips_120_w1 : List (Int × Int) := []
def as_X12_sips_120_w1 : List Int := []
def q_X12_sips_120_w1 (M0 M' : Mem) (r : Option PV) : Prop := St Tru ws_X12_sips_120_w1 as_X12_sips_120_w1 M0 M' ∧ ∃ v : Int, r = some (0, v) ∧ (-2147483648) ≤ v ∧ v ≤ 2147483647
set_option maxRecDepth 100000 in
set_option maxHeartbeats 4000000 in
theorem sp_X12_sips_120_w1 {l : Launch} {K : EC} {M0 : Mem} (hI : In Tru M0) (en_120_12 : rd M0 120 12 = 1) (a1 : Int) (ha1 : 0 ≤ a1 ∧ a1 ≤ 5) (a2 : Int) (ha2 : 0 ≤ a2 ∧ a2 ≤ 3)  (hF_Bk1 : Bk1 M0) : Tr l K 2 mX12_sips 0 [(0, (2, 120)), (1, (0, a1)), (2, (0, a2))] [] M0 (q_X12_sips_120_w1 M0) := by
  have hS : St Tru ws_X12_sips_120_w1 as_X12_sips_120_w1 M0 M0 := St.rf hI
  refine Tr.iload_n (pc := 0) (i := 2) d_X12_sips_0 rfl rfl ?_
  refine Tr.if_ne (pc := 1) (tgt := 12) d_X12_sips_1 rfl (fun c1 => ?_) (fun c1 => ?_)
  · refine Tr.iload_n (pc := 12) (i := 2) d_X12_sips_12 rfl rfl ?_
    refine Tr.iconst (pc := 13) d_X12_sips_13 (by decide) ?_
    refine Tr.icmp_ne (pc := 14) (tgt := 26) d_X12_sips_14 rfl (fun c14 => ?_) (fun c14 => ?_)
    · refine Tr.iload_n (pc := 26) (i := 2) d_X12_sips_26 rfl rfl ?_
      refine Tr.iconst (pc := 27) d_X12_sips_27 (by decide) ?_
      refine Tr.icmp_ne (pc := 28) (tgt := 40) d_X12_sips_28 rfl (fun c28 => ?_) (fun c28 => ?_)
      · refine Tr.aload_n (pc := 40) (i := 0) d_X12_sips_40 rfl rfl ?_
        refine Tr.iload_n (pc := 41) (i := 1) d_X12_sips_41 rfl rfl ?_
        refine Tr.iconst (pc := 42) d_X12_sips_42 (by decide) ?_
        refine Tr.callV (pc := 43) (as := [_, _]) d_X12_sips_43 s_12_565 ok_X12_rate rfl rfl (Nat.le_of_ble_eq_true rfl) (Nat.le_of_ble_eq_true rfl) (by decide) (ty_120 hS.1.1) ?_
        refine Tr.imp (Tr.deep (by decide) (sp_X12_rate_120_w1 hS.1 ((St.kp hS (by decide) (by decide) (by decide)).trans en_120_12) a1 (by omega) 4 (by omega) (Bk1.of hF_Bk1 (fun j => (St.ka hS (by decide) (by decide) (by decide))) (fun j => (St.ka hS (by decide) (by decide) (by decide))) (fun j => (St.ka hS (by decide) (by decide) (by decide))) (fun j => (St.ka hS (by decide) (by decide) (by decide))) (fun j => (St.ka hS (by decide) (by decide) (by decide))) (fun j => (St.ka hS (by decide) (by decide) (by decide))) (fun j => (St.ka hS (by decide) (by decide) (by decide))) (fun j => (St.ka hS (by decide) (by decide) (by decide))) (St.kp hS (by decide) (by decide) (by decide)) (St.kp hS (by decide) (by decide) (by decide)) (St.kp hS (by decide) (by decide) (by decide)) (St.kp hS (by decide) (by decide) (by decide))))) ?_
        rintro M43 _ ⟨h43, r43, rfl, lr43, ur43, z43_0⟩
        have hS := St.tr hS h43 (by decide) (by decide)
        obtain ⟨w43_126_1, ew43_126_1⟩ : ∃ v, rd M43 126 1 = v := ⟨_, rfl⟩
        have bw43_126_1 : 0 ≤ w43_126_1 ∧ w43_126_1 ≤ 6 := by rw [← ew43_126_1]; exact ir_126_1 hS.1.2.1
        have ka43_126_1 : rd M43 126 1 = w43_126_1 := ew43_126_1
        refine Tr.sc [(0, r43)] rfl ?_
        exact Tr.iret (pc := 46) d_X12_sips_46 rfl ⟨hS, _, rfl, by omega, by omega⟩
      · refine Tr.aload_n (pc := 31) (i := 0) d_X12_sips_31 rfl rfl ?_
        refine Tr.iload_n (pc := 32) (i := 1) d_X12_sips_32 rfl rfl ?_
        refine Tr.iconst (pc := 33) d_X12_sips_33 (by decide) ?_
        refine Tr.callV (pc := 34) (as := [_, _]) d_X12_sips_34 s_12_565 ok_X12_rate rfl rfl (Nat.le_of_ble_eq_true rfl) (Nat.le_of_ble_eq_true rfl) (by decide) (ty_120 hS.1.1) ?_
        refine Tr.imp (Tr.deep (by decide) (sp_X12_rate_120_w1 hS.1 ((St.kp hS (by decide) (by decide) (by decide)).trans en_120_12) a1 (by omega) 3 (by omega) (Bk1.of hF_Bk1 (fun j => (St.ka hS (by decide) (by decide) (by decide))) (fun j => (St.ka hS (by decide) (by decide) (by decide))) (fun j => (St.ka hS (by decide) (by decide) (by decide))) (fun j => (St.ka hS (by decide) (by decide) (by decide))) (fun j => (St.ka hS (by decide) (by decide) (by decide))) (fun j => (St.ka hS (by decide) (by decide) (by decide))) (fun j => (St.ka hS (by decide) (by decide) (by decide))) (fun j => (St.ka hS (by decide) (by decide) (by decide))) (St.kp hS (by decide) (by decide) (by decide)) (St.kp hS (by decide) (by decide) (by decide)) (St.kp hS (by decide) (by decide) (by decide)) (St.kp hS (by decide) (by decide) (by decide))))) ?_
        rintro M34 _ ⟨h34, r34, rfl, lr34, ur34, z34_0⟩
        have hS := St.tr hS h34 (by decide) (by decide)
        obtain ⟨w34_126_1, ew34_126_1⟩ : ∃ v, rd M34 126 1 = v := ⟨_, rfl⟩
        have bw34_126_1 : 0 ≤ w34_126_1 ∧ w34_126_1 ≤ 6 := by rw [← ew34_126_1]; exact ir_126_1 hS.1.2.1
        have ka34_126_1 : rd M34 126 1 = w34_126_1 := ew34_126_1
        refine Tr.sc [(0, r34)] rfl ?_
        refine Tr.goto (pc := 37) (tgt := 46) d_X12_sips_37 rfl ?_
        exact Tr.iret (pc := 46) d_X12_sips_46 rfl ⟨hS, _, rfl, by omega, by omega⟩
    · refine Tr.aload_n (pc := 17) (i := 0) d_X12_sips_17 rfl rfl ?_
      refine Tr.iload_n (pc := 18) (i := 1) d_X12_sips_18 rfl rfl ?_
      refine Tr.iconst (pc := 19) d_X12_sips_19 (by decide) ?_
      refine Tr.callV (pc := 20) (as := [_, _]) d_X12_sips_20 s_12_565 ok_X12_rate rfl rfl (Nat.le_of_ble_eq_true rfl) (Nat.le_of_ble_eq_true rfl) (by decide) (ty_120 hS.1.1) ?_
      refine Tr.imp (Tr.deep (by decide) (sp_X12_rate_120_w1 hS.1 ((St.kp hS (by decide) (by decide) (by decide)).trans en_120_12) a1 (by omega) 2 (by omega) (Bk1.of hF_Bk1 (fun j => (St.ka hS (by decide) (by decide) (by decide))) (fun j => (St.ka hS (by decide) (by decide) (by decide))) (fun j => (St.ka hS (by decide) (by decide) (by decide))) (fun j => (St.ka hS (by decide) (by decide) (by decide))) (fun j => (St.ka hS (by decide) (by decide) (by decide))) (fun j => (St.ka hS (by decide) (by decide) (by decide))) (fun j => (St.ka hS (by decide) (by decide) (by decide))) (fun j => (St.ka hS (by decide) (by decide) (by decide))) (St.kp hS (by decide) (by decide) (by decide)) (St.kp hS (by decide) (by decide) (by decide)) (St.kp hS (by decide) (by decide) (by decide)) (St.kp hS (by decide) (by decide) (by decide))))) ?_
      rintro M20 _ ⟨h20, r20, rfl, lr20, ur20, z20_0⟩
      have hS := St.tr hS h20 (by decide) (by decide)
      obtain ⟨w20_126_1, ew20_126_1⟩ : ∃ v, rd M20 126 1 = v := ⟨_, rfl⟩
      have bw20_126_1 : 0 ≤ w20_126_1 ∧ w20_126_1 ≤ 6 := by rw [← ew20_126_1]; exact ir_126_1 hS.1.2.1
      have ka20_126_1 : rd M20 126 1 = w20_126_1 := ew20_126_1
      refine Tr.sc [(0, r20)] rfl ?_
      refine Tr.goto (pc := 23) (tgt := 46) d_X12_sips_23 rfl ?_
      exact Tr.iret (pc := 46) d_X12_sips_46 rfl ⟨hS, _, rfl, by omega, by omega⟩
  · refine Tr.aload_n (pc := 4) (i := 0) d_X12_sips_4 rfl rfl ?_
    refine Tr.iload_n (pc := 5) (i := 1) d_X12_sips_5 rfl rfl ?_
    refine Tr.callV (pc := 6) (as := [_]) d_X12_sips_6 s_12_568 ok_X12_sleeps rfl rfl (Nat.le_of_ble_eq_true rfl) (Nat.le_of_ble_eq_true rfl) (by decide) (ty_120 hS.1.1) ?_
    refine Tr.imp (Tr.deep (by decide) (sp_X12_sleeps_120_w1 hS.1 ((St.kp hS (by decide) (by decide) (by decide)).trans en_120_12) a1 (by omega) (Bk1.of hF_Bk1 (fun j => (St.ka hS (by decide) (by decide) (by decide))) (fun j => (St.ka hS (by decide) (by decide) (by decide))) (fun j => (St.ka hS (by decide) (by decide) (by decide))) (fun j => (St.ka hS (by decide) (by decide) (by decide))) (fun j => (St.ka hS (by decide) (by decide) (by decide))) (fun j => (St.ka hS (by decide) (by decide) (by decide))) (fun j => (St.ka hS (by decide) (by decide) (by decide))) (fun j => (St.ka hS (by decide) (by decide) (by decide))) (St.kp hS (by decide) (by decide) (by decide)) (St.kp hS (by decide) (by decide) (by decide)) (St.kp hS (by decide) (by decide) (by decide)) (St.kp hS (by decide) (by decide) (by decide))))) ?_
    rintro M6 _ ⟨h6, r6, rfl, lr6, ur6⟩
    have hS := St.tr hS h6 (by decide) (by decide)
    refine Tr.sc [(0, r6)] rfl ?_
    refine Tr.goto (pc := 9) (tgt := 46) d_X12_sips_9 rfl ?_
    exact Tr.iret (pc := 46) d_X12_sips_46 rfl ⟨hS, _, rfl, by omega, by omega⟩
end
/-! 40.01 -/
section
def ws_X12_pays_120_w1 : List (Int × Int) := [(120, 97), (120, 98), (120, 99)]
def as_X12_pays_120_w1 : List Int := []
def q_X12_pays_120_w1 (M0 M' : Mem) (r : Option PV) : Prop := St Tru ws_X12_pays_120_w1 as_X12_pays_120_w1 M0 M' ∧ ∃ v : Int, r = some (0, v) ∧ (-2147483648) ≤ v ∧ v ≤ 2147483647
set_option maxRecDepth 100000 in
set_option maxHeartbeats 4000000 in
theorem sp_X12_pays_120_w1 {l : Launch} {K : EC} {M0 : Mem} (hI : In Tru M0) (en_120_12 : rd M0 120 12 = 1) (a1 : Int) (ha1 : (-2147483648) ≤ a1 ∧ a1 ≤ 2147483647) (a2 : Int) (ha2 : (-2147483648) ≤ a2 ∧ a2 ≤ 2147483647)  (hF_Bk1 : Bk1 M0) : Tr l K 3 mX12_pays 0 [(0, (2, 120)), (1, (0, a1)), (2, (0, a2))] [] M0 (q_X12_pays_120_w1 M0) := by
  have hS : St Tru ws_X12_pays_120_w1 as_X12_pays_120_w1 M0 M0 := St.rf hI
  refine Tr.aload_n (pc := 0) (i := 0) d_X12_pays_0 rfl rfl ?_
  refine Tr.getz (pc := 1) d_X12_pays_1 f_12_270 (by decide) (ty_120 hS.1.1) ?_
  refine Tr.gen (P := fun v => 0 ≤ v ∧ v ≤ 1) (ir_120_85 hS.1.2.1) (fun r1 er1 br1 => ?_)
  refine Tr.if_eq (pc := 4) (tgt := 29) d_X12_pays_4 rfl (fun c4 => ?_) (fun c4 => ?_)
  · refine Tr.iconst (pc := 29) d_X12_pays_29 (by decide) ?_
    exact Tr.iret (pc := 30) d_X12_pays_30 rfl ⟨hS, _, rfl, by omega, by omega⟩
  · refine Tr.iload_n (pc := 7) (i := 2) d_X12_pays_7 rfl rfl ?_
    refine Tr.iconst (pc := 8) d_X12_pays_8 (by decide) ?_
    refine Tr.iconst (pc := 9) d_X12_pays_9 (by decide) ?_
    refine Tr.callS (pc := 10) (as := [_, _, _]) d_X12_pays_10 s_12_467 ok_X12_is rfl rfl (Nat.le_of_ble_eq_true rfl) (Nat.le_of_ble_eq_true rfl) ?_
    refine Tr.imp (Tr.deep (by decide) (sp_X12_is hS.1 a2 (by omega) 0 (by omega) 1 (by omega))) ?_
    rintro M10 _ ⟨h10, r10, rfl, lr10, ur10, wr10⟩
    have hS := St.tr hS h10 (by decide) (by decide)
    refine Tr.sc [(0, r10)] rfl ?_
    refine Tr.if_eq (pc := 13) (tgt := 29) d_X12_pays_13 rfl (fun c13 => ?_) (fun c13 => ?_)
    · refine Tr.iconst (pc := 29) d_X12_pays_29 (by decide) ?_
      exact Tr.iret (pc := 30) d_X12_pays_30 rfl ⟨hS, _, rfl, by omega, by omega⟩
    · refine Tr.iload_n (pc := 16) (i := 1) d_X12_pays_16 rfl rfl ?_
      refine Tr.iconst (pc := 17) d_X12_pays_17 (by decide) ?_
      have J31 : ∀ (M : Mem), St Tru ws_X12_pays_120_w1 as_X12_pays_120_w1 M0 M → ((-1) ≤ a1 ∧ a1 ≤ 59) → rd M 120 85 = r1 → Tr l K 3 mX12_pays 31 [(0, (2, 120)), (1, (0, a1)), (2, (0, a2))] [] M (q_X12_pays_120_w1 M0) := by
        intro M  hS z31a1 k31_120_85
        refine Tr.lconst (pc := 31) (v := 0) d_X12_pays_31 rfl (by decide) ?_
        refine Tr.lstore_n (pc := 32) (i := 3) (ls2 := [(3, (1, 0)), (0, (2, 120)), (1, (0, a1)), (2, (0, a2))]) d_X12_pays_32 rfl (by decide) rfl ?_
        refine Tr.iconst (pc := 33) d_X12_pays_33 (by decide) ?_
        refine Tr.istore (pc := 34) (i := 5) (ls2 := [(5, (0, 0)), (3, (1, 0)), (0, (2, 120)), (1, (0, a1)), (2, (0, a2))]) d_X12_pays_34 (by decide) rfl ?_
        have J36 : ∀ (n36 : Nat) (M : Mem) (p36_3 p36_5 : Int), St Tru ws_X12_pays_120_w1 as_X12_pays_120_w1 M0 M → ((-9223372036854775808) ≤ p36_3 ∧ p36_3 ≤ 9223372036854775807) → (0 ≤ p36_5 ∧ p36_5 ≤ 2060) → rd M 120 85 = r1 → (2060 - p36_5).toNat < n36 → Tr l K 3 mX12_pays 36 [(0, (2, 120)), (1, (0, a1)), (2, (0, a2)), (3, (1, p36_3)), (5, (0, p36_5))] [] M (q_X12_pays_120_w1 M0) := by
          intro n36
          induction n36 with
          | zero => intro M p36_3 p36_5 hS bp36_3 bp36_5 k36_120_85 hm36; exact absurd hm36 (Nat.not_lt_zero _)
          | succ n36 J36 =>
            intro M p36_3 p36_5 hS bp36_3 bp36_5 k36_120_85 hm36
            refine Tr.iload (pc := 36) (i := 5) d_X12_pays_36 rfl ?_
            refine Tr.aload_n (pc := 38) (i := 0) d_X12_pays_38 rfl rfl ?_
            refine Tr.getf (pc := 39) d_X12_pays_39 f_12_273 (by decide) (by decide) (ty_120 hS.1.1) ?_
            refine Tr.gen (P := fun v => 0 ≤ v ∧ v ≤ 2060) (ir_120_86 hS.1.2.1) (fun r39 er39 br39 => ?_)
            refine Tr.icmp_ge (pc := 42) (tgt := 185) d_X12_pays_42 rfl (fun c42 => ?_) (fun c42 => ?_)
            · refine Tr.iconst (pc := 185) d_X12_pays_185 (by decide) ?_
              refine Tr.istore (pc := 186) (i := 5) (ls2 := [(5, (0, 0)), (0, (2, 120)), (1, (0, a1)), (2, (0, a2)), (3, (1, p36_3))]) d_X12_pays_186 (by decide) rfl ?_
              have J188 : ∀ (n188 : Nat) (M : Mem) (p188_3 p188_5 : Int), St Tru ws_X12_pays_120_w1 as_X12_pays_120_w1 M0 M → ((-9223372036854775808) ≤ p188_3 ∧ p188_3 ≤ 9223372036854775807) → (0 ≤ p188_5 ∧ p188_5 ≤ 6) → rd M 120 85 = r1 → rd M 120 86 = r39 → (6 - p188_5).toNat < n188 → Tr l K 3 mX12_pays 188 [(0, (2, 120)), (1, (0, a1)), (2, (0, a2)), (3, (1, p188_3)), (5, (0, p188_5))] [] M (q_X12_pays_120_w1 M0) := by
                intro n188
                induction n188 with
                | zero => intro M p188_3 p188_5 hS bp188_3 bp188_5 k188_120_85 k188_120_86 hm188; exact absurd hm188 (Nat.not_lt_zero _)
                | succ n188 J188 =>
                  intro M p188_3 p188_5 hS bp188_3 bp188_5 k188_120_85 k188_120_86 hm188
                  refine Tr.iload (pc := 188) (i := 5) d_X12_pays_188 rfl ?_
                  refine Tr.aload_n (pc := 190) (i := 0) d_X12_pays_190 rfl rfl ?_
                  refine Tr.getf (pc := 191) d_X12_pays_191 f_12_63 (by decide) (by decide) (ty_120 hS.1.1) ?_
                  refine Tr.tp 126 (fx_120_17 hS.1.1) ?_
                  refine Tr.aload_n (pc := 194) (i := 0) d_X12_pays_194 rfl rfl ?_
                  refine Tr.getf (pc := 195) d_X12_pays_195 f_12_48 (by decide) (by decide) (ty_120 hS.1.1) ?_
                  refine Tr.tp 1 ((St.kp hS (by decide) (by decide) (by decide)).trans en_120_12) ?_
                  refine Tr.iald (pc := 198) d_X12_pays_198 (ty_126 hS.1.1) (by omega) (by omega) ?_
                  refine Tr.gen (P := fun v => 0 ≤ v ∧ v ≤ 6) (ir_126_1 hS.1.2.1) (fun r198 er198 br198 => ?_)
                  refine Tr.icmp_ge (pc := 199) (tgt := 228) d_X12_pays_199 rfl (fun c199 => ?_) (fun c199 => ?_)
                  · refine Tr.lload_n (pc := 228) (i := 3) d_X12_pays_228 rfl rfl ?_
                    refine Tr.l2i (pc := 229) d_X12_pays_229 ?_
                    refine Tr.gen (P := fun v => (-2147483648) ≤ v ∧ v ≤ 2147483647) (w32_b _) (fun r229 er229 br229 => ?_)
                    exact Tr.iret (pc := 230) d_X12_pays_230 rfl ⟨hS, _, rfl, by omega, by omega⟩
                  · refine Tr.iload_n (pc := 202) (i := 1) d_X12_pays_202 rfl rfl ?_
                    refine Tr.iconst (pc := 203) d_X12_pays_203 (by decide) ?_
                    refine Tr.icmp_eq (pc := 204) (tgt := 228) d_X12_pays_204 rfl (fun c204 => ?_) (fun c204 => ?_)
                    · refine Tr.lload_n (pc := 228) (i := 3) d_X12_pays_228 rfl rfl ?_
                      refine Tr.l2i (pc := 229) d_X12_pays_229 ?_
                      refine Tr.gen (P := fun v => (-2147483648) ≤ v ∧ v ≤ 2147483647) (w32_b _) (fun r229 er229 br229 => ?_)
                      exact Tr.iret (pc := 230) d_X12_pays_230 rfl ⟨hS, _, rfl, by omega, by omega⟩
                    · refine Tr.iload_n (pc := 207) (i := 2) d_X12_pays_207 rfl rfl ?_
                      refine Tr.iconst (pc := 208) d_X12_pays_208 (by decide) ?_
                      refine Tr.icmp_ne (pc := 209) (tgt := 228) d_X12_pays_209 rfl (fun c209 => ?_) (fun c209 => ?_)
                      · refine Tr.lload_n (pc := 228) (i := 3) d_X12_pays_228 rfl rfl ?_
                        refine Tr.l2i (pc := 229) d_X12_pays_229 ?_
                        refine Tr.gen (P := fun v => (-2147483648) ≤ v ∧ v ≤ 2147483647) (w32_b _) (fun r229 er229 br229 => ?_)
                        exact Tr.iret (pc := 230) d_X12_pays_230 rfl ⟨hS, _, rfl, by omega, by omega⟩
                      · refine Tr.lload_n (pc := 212) (i := 3) d_X12_pays_212 rfl rfl ?_
                        refine Tr.aload_n (pc := 213) (i := 0) d_X12_pays_213 rfl rfl ?_
                        refine Tr.iload (pc := 214) (i := 5) d_X12_pays_214 rfl ?_
                        refine Tr.iload_n (pc := 216) (i := 1) d_X12_pays_216 rfl rfl ?_
                        refine Tr.callV (pc := 217) (as := [_, _]) d_X12_pays_217 s_12_659 ok_X12_sharesOf rfl rfl (Nat.le_of_ble_eq_true rfl) (Nat.le_of_ble_eq_true rfl) (by decide) (ty_120 hS.1.1) ?_
                        refine Tr.imp (Tr.deep (by decide) (sp_X12_sharesOf_120_w1 hS.1 ((St.kp hS (by decide) (by decide) (by decide)).trans en_120_12) p188_5 (by omega) a1 (by omega) (Bk1.of hF_Bk1 (fun j => (St.ka hS (by decide) (by decide) (by decide))) (fun j => (St.ka hS (by decide) (by decide) (by decide))) (fun j => (St.ka hS (by decide) (by decide) (by decide))) (fun j => (St.ka hS (by decide) (by decide) (by decide))) (fun j => (St.ka hS (by decide) (by decide) (by decide))) (fun j => (St.ka hS (by decide) (by decide) (by decide))) (fun j => (St.ka hS (by decide) (by decide) (by decide))) (fun j => (St.ka hS (by decide) (by decide) (by decide))) (St.kp hS (by decide) (by decide) (by decide)) (St.kp hS (by decide) (by decide) (by decide)) (St.kp hS (by decide) (by decide) (by decide)) (St.kp hS (by decide) (by decide) (by decide))))) ?_
                        rintro M217 _ ⟨h217, r217, rfl, lr217, ur217⟩
                        have hS := St.tr hS h217 (by decide) (by decide)
                        refine Tr.sc [(1, r217), (1, p188_3)] rfl ?_
                        refine Tr.ladd (pc := 220) d_X12_pays_220 ?_
                        refine Tr.gen (P := fun v => (-9223372036854775808) ≤ v ∧ v ≤ 9223372036854775807) (w64_b _) (fun r220 er220 br220 => ?_)
                        refine Tr.lstore_n (pc := 221) (i := 3) (ls2 := [(3, (1, r220)), (0, (2, 120)), (1, (0, a1)), (2, (0, a2)), (5, (0, p188_5))]) d_X12_pays_221 rfl (by decide) rfl ?_
                        refine Tr.iincV (pc := 222) (n2 := (p188_5 + 1)) (ls2 := [(5, (0, (p188_5 + 1))), (3, (1, r220)), (0, (2, 120)), (1, (0, a1)), (2, (0, a2))]) d_X12_pays_222 rfl (by decide) ((w32_id (by omega)).trans (by omega)) rfl ?_
                        refine Tr.goto (pc := 225) (tgt := 188) d_X12_pays_225 rfl ?_
                        refine Tr.pick [2, 3, 4, 1, 0] (ls2 := [(0, (2, 120)), (1, (0, a1)), (2, (0, a2)), (3, (1, r220)), (5, (0, (p188_5 + 1)))]) rfl ?_
                        exact J188 _ _ _ hS (by omega) (by omega) ((St.kp h217 (by decide) (by decide) (by decide)).trans k188_120_85) ((St.kp h217 (by decide) (by decide) (by decide)).trans k188_120_86) (by omega)
              refine Tr.pick [1, 2, 3, 4, 0] (ls2 := [(0, (2, 120)), (1, (0, a1)), (2, (0, a2)), (3, (1, p36_3)), (5, (0, 0))]) rfl ?_
              exact J188 _ _ _ _ hS (by omega) (by omega) k36_120_85 er39 (Nat.lt_succ_self _)
            · refine Tr.iload_n (pc := 45) (i := 1) d_X12_pays_45 rfl rfl ?_
              refine Tr.iconst (pc := 46) d_X12_pays_46 (by decide) ?_
              have J74 : ∀ (M : Mem) (p74_3 : Int), St Tru ws_X12_pays_120_w1 as_X12_pays_120_w1 M0 M → ((-9223372036854775808) ≤ p74_3 ∧ p74_3 ≤ 9223372036854775807) → rd M 120 85 = r1 → rd M 120 86 = r39 → Tr l K 3 mX12_pays 74 [(0, (2, 120)), (1, (0, a1)), (2, (0, a2)), (3, (1, p74_3)), (5, (0, p36_5))] [] M (q_X12_pays_120_w1 M0) := by
                intro M p74_3 hS bp74_3 k74_120_85 k74_120_86
                refine Tr.iconst (pc := 74) d_X12_pays_74 (by decide) ?_
                refine Tr.istore (pc := 75) (i := 6) (ls2 := [(6, (0, 0)), (0, (2, 120)), (1, (0, a1)), (2, (0, a2)), (3, (1, p74_3)), (5, (0, p36_5))]) d_X12_pays_75 (by decide) rfl ?_
                have J77 : ∀ (n77 : Nat) (M : Mem) (p77_3 p77_6 : Int), St Tru ws_X12_pays_120_w1 as_X12_pays_120_w1 M0 M → ((-9223372036854775808) ≤ p77_3 ∧ p77_3 ≤ 9223372036854775807) → (0 ≤ p77_6 ∧ p77_6 ≤ 6) → rd M 120 85 = r1 → rd M 120 86 = r39 → (6 - p77_6).toNat < n77 → Tr l K 3 mX12_pays 77 [(0, (2, 120)), (1, (0, a1)), (2, (0, a2)), (3, (1, p77_3)), (5, (0, p36_5)), (6, (0, p77_6))] [] M (q_X12_pays_120_w1 M0) := by
                  intro n77
                  induction n77 with
                  | zero => intro M p77_3 p77_6 hS bp77_3 bp77_6 k77_120_85 k77_120_86 hm77; exact absurd hm77 (Nat.not_lt_zero _)
                  | succ n77 J77 =>
                    intro M p77_3 p77_6 hS bp77_3 bp77_6 k77_120_85 k77_120_86 hm77
                    refine Tr.iload (pc := 77) (i := 6) d_X12_pays_77 rfl ?_
                    refine Tr.aload_n (pc := 79) (i := 0) d_X12_pays_79 rfl rfl ?_
                    refine Tr.getf (pc := 80) d_X12_pays_80 f_12_63 (by decide) (by decide) (ty_120 hS.1.1) ?_
                    refine Tr.tp 126 (fx_120_17 hS.1.1) ?_
                    refine Tr.aload_n (pc := 83) (i := 0) d_X12_pays_83 rfl rfl ?_
                    refine Tr.getf (pc := 84) d_X12_pays_84 f_12_48 (by decide) (by decide) (ty_120 hS.1.1) ?_
                    refine Tr.tp 1 ((St.kp hS (by decide) (by decide) (by decide)).trans en_120_12) ?_
                    refine Tr.iald (pc := 87) d_X12_pays_87 (ty_126 hS.1.1) (by omega) (by omega) ?_
                    refine Tr.gen (P := fun v => 0 ≤ v ∧ v ≤ 6) (ir_126_1 hS.1.2.1) (fun r87 er87 br87 => ?_)
                    refine Tr.icmp_ge (pc := 88) (tgt := 179) d_X12_pays_88 rfl (fun c88 => ?_) (fun c88 => ?_)
                    · refine Tr.iincV (pc := 179) (n2 := (p36_5 + 1)) (ls2 := [(5, (0, (p36_5 + 1))), (0, (2, 120)), (1, (0, a1)), (2, (0, a2)), (3, (1, p77_3)), (6, (0, p77_6))]) d_X12_pays_179 rfl (by decide) ((w32_id (by omega)).trans (by omega)) rfl ?_
                      refine Tr.goto (pc := 182) (tgt := 36) d_X12_pays_182 rfl ?_
                      refine Tr.pick [1, 2, 3, 4, 0] (ls2 := [(0, (2, 120)), (1, (0, a1)), (2, (0, a2)), (3, (1, p77_3)), (5, (0, (p36_5 + 1)))]) rfl ?_
                      exact J36 _ _ _ hS (by omega) (by omega) k77_120_85 (by omega)
                    · refine Tr.aload_n (pc := 91) (i := 0) d_X12_pays_91 rfl rfl ?_
                      refine Tr.iload (pc := 92) (i := 6) d_X12_pays_92 rfl ?_
                      refine Tr.iload (pc := 94) (i := 5) d_X12_pays_94 rfl ?_
                      refine Tr.callV (pc := 96) (as := [_, _]) d_X12_pays_96 s_12_641 ok_X12_stateAt rfl rfl (Nat.le_of_ble_eq_true rfl) (Nat.le_of_ble_eq_true rfl) (by decide) (ty_120 hS.1.1) ?_
                      refine Tr.imp (Tr.deep (by decide) (sp_X12_stateAt_120 hS.1 p77_6 (by omega) p36_5 (by omega))) ?_
                      rintro M96 _ ⟨h96, r96, rfl, lr96, ur96, z96_0⟩
                      have hS := St.tr hS h96 (by decide) (by decide)
                      refine Tr.sc [(0, r96)] rfl ?_
                      have qs96 : rd M 163 (p36_5 + 2100 * p77_6) = r96 := (congrArg (rd M 163) (by omega)).trans z96_0.symm
                      refine Tr.istore (pc := 99) (i := 7) (ls2 := [(7, (0, r96)), (0, (2, 120)), (1, (0, a1)), (2, (0, a2)), (3, (1, p77_3)), (5, (0, p36_5)), (6, (0, p77_6))]) d_X12_pays_99 (by decide) rfl ?_
                      refine Tr.iload_n (pc := 101) (i := 1) d_X12_pays_101 rfl rfl ?_
                      refine Tr.iconst (pc := 102) d_X12_pays_102 (by decide) ?_
                      have J173 : ∀ (M : Mem) (p173_3 : Int), St Tru ws_X12_pays_120_w1 as_X12_pays_120_w1 M0 M → ((-9223372036854775808) ≤ p173_3 ∧ p173_3 ≤ 9223372036854775807) → rd M 120 85 = r1 → rd M 120 86 = r39 → rd M 126 1 = r87 → rd M 163 (p36_5 + 2100 * p77_6) = r96 → Tr l K 3 mX12_pays 173 [(0, (2, 120)), (1, (0, a1)), (2, (0, a2)), (3, (1, p173_3)), (5, (0, p36_5)), (6, (0, p77_6))] [] M (q_X12_pays_120_w1 M0) := by
                        intro M p173_3 hS bp173_3 k173_120_85 k173_120_86 k173_126_1 k173_163_p36_51p77_621000
                        refine Tr.iincV (pc := 173) (n2 := (p77_6 + 1)) (ls2 := [(6, (0, (p77_6 + 1))), (0, (2, 120)), (1, (0, a1)), (2, (0, a2)), (3, (1, p173_3)), (5, (0, p36_5))]) d_X12_pays_173 rfl (by decide) ((w32_id (by omega)).trans (by omega)) rfl ?_
                        refine Tr.goto (pc := 176) (tgt := 77) d_X12_pays_176 rfl ?_
                        refine Tr.pick [1, 2, 3, 4, 5, 0] (ls2 := [(0, (2, 120)), (1, (0, a1)), (2, (0, a2)), (3, (1, p173_3)), (5, (0, p36_5)), (6, (0, (p77_6 + 1)))]) rfl ?_
                        exact J77 _ _ _ hS (by omega) (by omega) k173_120_85 k173_120_86 (by omega)
                      refine Tr.icmp_ne (pc := 103) (tgt := 128) d_X12_pays_103 rfl (fun c103 => ?_) (fun c103 => ?_)
                      · refine Tr.iload (pc := 128) (i := 7) d_X12_pays_128 rfl ?_
                        refine Tr.if_eq (pc := 130) (tgt := 173) d_X12_pays_130 rfl (fun c130 => ?_) (fun c130 => ?_)
                        · refine Tr.pick [1, 2, 3, 4, 5, 6] (ls2 := [(0, (2, 120)), (1, (0, a1)), (2, (0, a2)), (3, (1, p77_3)), (5, (0, p36_5)), (6, (0, p77_6))]) rfl ?_
                          exact J173 _ _ hS (by omega) ((St.kp h96 (by decide) (by decide) (by decide)).trans k77_120_85) ((St.kp h96 (by decide) (by decide) (by decide)).trans k77_120_86) ((St.kp h96 (by decide) (by decide) (by decide)).trans er87) ((St.ka h96 (by decide) (by decide) (by decide)).trans qs96)
                        · refine Tr.iload (pc := 133) (i := 7) d_X12_pays_133 rfl ?_
                          refine Tr.iconst (pc := 135) d_X12_pays_135 (by decide) ?_
                          have J143 : ∀ (M : Mem), St Tru ws_X12_pays_120_w1 as_X12_pays_120_w1 M0 M → rd M 120 85 = r1 → rd M 120 86 = r39 → rd M 126 1 = r87 → rd M 163 (p36_5 + 2100 * p77_6) = r96 → Tr l K 3 mX12_pays 143 [(0, (2, 120)), (1, (0, a1)), (2, (0, a2)), (3, (1, p77_3)), (5, (0, p36_5)), (6, (0, p77_6)), (7, (0, r96))] [] M (q_X12_pays_120_w1 M0) := by
                            intro M  hS  k143_120_85 k143_120_86 k143_126_1 k143_163_p36_51p77_621000
                            refine Tr.aload_n (pc := 143) (i := 0) d_X12_pays_143 rfl rfl ?_
                            refine Tr.getf (pc := 144) d_X12_pays_144 f_12_234 (by decide) (by decide) (ty_120 hS.1.1) ?_
                            refine Tr.tp 164 (fx_120_73 hS.1.1) ?_
                            refine Tr.sipush (pc := 147) d_X12_pays_147 rfl (by decide) ?_
                            refine Tr.iload (pc := 150) (i := 6) d_X12_pays_150 rfl ?_
                            refine Tr.imul (pc := 152) d_X12_pays_152 ?_
                            refine Tr.tp (2100 * p77_6) ((w32_id (by omega)).trans (by omega)) ?_
                            refine Tr.iload (pc := 153) (i := 5) d_X12_pays_153 rfl ?_
                            refine Tr.iadd (pc := 155) d_X12_pays_155 ?_
                            refine Tr.tp (p36_5 + 2100 * p77_6) ((w32_id (by omega)).trans (by omega)) ?_
                            refine Tr.iald (pc := 156) d_X12_pays_156 (ty_164 hS.1.1) (by omega) (by omega) ?_
                            refine Tr.gen (P := fun v => (-1) ≤ v ∧ v ≤ 59) (ar_164 hS.1.2.1 _) (fun r156 er156 br156 => ?_)
                            refine Tr.iload_n (pc := 157) (i := 1) d_X12_pays_157 rfl rfl ?_
                            refine Tr.icmp_ne (pc := 158) (tgt := 173) d_X12_pays_158 rfl (fun c158 => ?_) (fun c158 => ?_)
                            · refine Tr.pick [0, 1, 2, 3, 4, 5] (ls2 := [(0, (2, 120)), (1, (0, a1)), (2, (0, a2)), (3, (1, p77_3)), (5, (0, p36_5)), (6, (0, p77_6))]) rfl ?_
                              exact J173 _ _ hS (by omega) k143_120_85 k143_120_86 k143_126_1 k143_163_p36_51p77_621000
                            · refine Tr.lload_n (pc := 161) (i := 3) d_X12_pays_161 rfl rfl ?_
                              refine Tr.aload_n (pc := 162) (i := 0) d_X12_pays_162 rfl rfl ?_
                              refine Tr.iload (pc := 163) (i := 6) d_X12_pays_163 rfl ?_
                              refine Tr.iload (pc := 165) (i := 7) d_X12_pays_165 rfl ?_
                              refine Tr.callV (pc := 167) (as := [_, _]) d_X12_pays_167 s_12_574 ok_X12_sips rfl rfl (Nat.le_of_ble_eq_true rfl) (Nat.le_of_ble_eq_true rfl) (by decide) (ty_120 hS.1.1) ?_
                              refine Tr.imp (Tr.deep (by decide) (sp_X12_sips_120_w1 hS.1 ((St.kp hS (by decide) (by decide) (by decide)).trans en_120_12) p77_6 (by omega) r96 (by omega) (Bk1.of hF_Bk1 (fun j => (St.ka hS (by decide) (by decide) (by decide))) (fun j => (St.ka hS (by decide) (by decide) (by decide))) (fun j => (St.ka hS (by decide) (by decide) (by decide))) (fun j => (St.ka hS (by decide) (by decide) (by decide))) (fun j => (St.ka hS (by decide) (by decide) (by decide))) (fun j => (St.ka hS (by decide) (by decide) (by decide))) (fun j => (St.ka hS (by decide) (by decide) (by decide))) (fun j => (St.ka hS (by decide) (by decide) (by decide))) (St.kp hS (by decide) (by decide) (by decide)) (St.kp hS (by decide) (by decide) (by decide)) (St.kp hS (by decide) (by decide) (by decide)) (St.kp hS (by decide) (by decide) (by decide))))) ?_
                              rintro M167 _ ⟨h167, r167, rfl, lr167, ur167⟩
                              have hS := St.tr hS h167 (by decide) (by decide)
                              refine Tr.sc [(0, r167), (1, p77_3)] rfl ?_
                              refine Tr.i2l (pc := 170) d_X12_pays_170 ?_
                              refine Tr.ladd (pc := 171) d_X12_pays_171 ?_
                              refine Tr.gen (P := fun v => (-9223372036854775808) ≤ v ∧ v ≤ 9223372036854775807) (w64_b _) (fun r171 er171 br171 => ?_)
                              refine Tr.lstore_n (pc := 172) (i := 3) (ls2 := [(3, (1, r171)), (0, (2, 120)), (1, (0, a1)), (2, (0, a2)), (5, (0, p36_5)), (6, (0, p77_6)), (7, (0, r96))]) d_X12_pays_172 rfl (by decide) rfl ?_
                              refine Tr.pick [1, 2, 3, 0, 4, 5] (ls2 := [(0, (2, 120)), (1, (0, a1)), (2, (0, a2)), (3, (1, r171)), (5, (0, p36_5)), (6, (0, p77_6))]) rfl ?_
                              exact J173 _ _ hS (by omega) ((St.kp h167 (by decide) (by decide) (by decide)).trans k143_120_85) ((St.kp h167 (by decide) (by decide) (by decide)).trans k143_120_86) ((St.kp h167 (by decide) (by decide) (by decide)).trans k143_126_1) ((St.ka h167 (by decide) (by decide) (by decide)).trans k143_163_p36_51p77_621000)
                          refine Tr.icmp_ne (pc := 136) (tgt := 143) d_X12_pays_136 rfl (fun c136 => ?_) (fun c136 => ?_)
                          · refine Tr.pick [1, 2, 3, 4, 5, 6, 0] (ls2 := [(0, (2, 120)), (1, (0, a1)), (2, (0, a2)), (3, (1, p77_3)), (5, (0, p36_5)), (6, (0, p77_6)), (7, (0, r96))]) rfl ?_
                            exact J143 _ hS ((St.kp h96 (by decide) (by decide) (by decide)).trans k77_120_85) ((St.kp h96 (by decide) (by decide) (by decide)).trans k77_120_86) ((St.kp h96 (by decide) (by decide) (by decide)).trans er87) ((St.ka h96 (by decide) (by decide) (by decide)).trans qs96)
                          · refine Tr.iload_n (pc := 139) (i := 2) d_X12_pays_139 rfl rfl ?_
                            refine Tr.if_ne (pc := 140) (tgt := 173) d_X12_pays_140 rfl (fun c140 => ?_) (fun c140 => ?_)
                            · refine Tr.pick [1, 2, 3, 4, 5, 6] (ls2 := [(0, (2, 120)), (1, (0, a1)), (2, (0, a2)), (3, (1, p77_3)), (5, (0, p36_5)), (6, (0, p77_6))]) rfl ?_
                              exact J173 _ _ hS (by omega) ((St.kp h96 (by decide) (by decide) (by decide)).trans k77_120_85) ((St.kp h96 (by decide) (by decide) (by decide)).trans k77_120_86) ((St.kp h96 (by decide) (by decide) (by decide)).trans er87) ((St.ka h96 (by decide) (by decide) (by decide)).trans qs96)
                            · refine Tr.pick [1, 2, 3, 4, 5, 6, 0] (ls2 := [(0, (2, 120)), (1, (0, a1)), (2, (0, a2)), (3, (1, p77_3)), (5, (0, p36_5)), (6, (0, p77_6)), (7, (0, r96))]) rfl ?_
                              exact J143 _ hS ((St.kp h96 (by decide) (by decide) (by decide)).trans k77_120_85) ((St.kp h96 (by decide) (by decide) (by decide)).trans k77_120_86) ((St.kp h96 (by decide) (by decide) (by decide)).trans er87) ((St.ka h96 (by decide) (by decide) (by decide)).trans qs96)
                      · refine Tr.lload_n (pc := 106) (i := 3) d_X12_pays_106 rfl rfl ?_
                        refine Tr.iload (pc := 107) (i := 7) d_X12_pays_107 rfl ?_
                        have J123 : ∀ (M : Mem) (q123_1 : Int), St Tru ws_X12_pays_120_w1 as_X12_pays_120_w1 M0 M → ((-2147483648) ≤ q123_1 ∧ q123_1 ≤ 2147483647) → rd M 120 85 = r1 → rd M 120 86 = r39 → rd M 126 1 = r87 → rd M 163 (p36_5 + 2100 * p77_6) = r96 → Tr l K 3 mX12_pays 123 [(0, (2, 120)), (1, (0, a1)), (2, (0, a2)), (5, (0, p36_5)), (6, (0, p77_6))] [(1, q123_1), (1, p77_3)] M (q_X12_pays_120_w1 M0) := by
                          intro M q123_1 hS bq123_1 k123_120_85 k123_120_86 k123_126_1 k123_163_p36_51p77_621000
                          refine Tr.ladd (pc := 123) d_X12_pays_123 ?_
                          refine Tr.gen (P := fun v => (-9223372036854775808) ≤ v ∧ v ≤ 9223372036854775807) (w64_b _) (fun r123 er123 br123 => ?_)
                          refine Tr.lstore_n (pc := 124) (i := 3) (ls2 := [(3, (1, r123)), (0, (2, 120)), (1, (0, a1)), (2, (0, a2)), (5, (0, p36_5)), (6, (0, p77_6))]) d_X12_pays_124 rfl (by decide) rfl ?_
                          refine Tr.goto (pc := 125) (tgt := 173) d_X12_pays_125 rfl ?_
                          refine Tr.pick [1, 2, 3, 0, 4, 5] (ls2 := [(0, (2, 120)), (1, (0, a1)), (2, (0, a2)), (3, (1, r123)), (5, (0, p36_5)), (6, (0, p77_6))]) rfl ?_
                          exact J173 _ _ hS (by omega) k123_120_85 k123_120_86 k123_126_1 k123_163_p36_51p77_621000
                        refine Tr.if_ne (pc := 109) (tgt := 122) d_X12_pays_109 rfl (fun c109 => ?_) (fun c109 => ?_)
                        · refine Tr.lconst (pc := 122) (v := 0) d_X12_pays_122 rfl (by decide) ?_
                          refine Tr.pick [1, 2, 3, 5, 6] (ls2 := [(0, (2, 120)), (1, (0, a1)), (2, (0, a2)), (5, (0, p36_5)), (6, (0, p77_6))]) rfl ?_
                          exact J123 _ _ hS (by omega) ((St.kp h96 (by decide) (by decide) (by decide)).trans k77_120_85) ((St.kp h96 (by decide) (by decide) (by decide)).trans k77_120_86) ((St.kp h96 (by decide) (by decide) (by decide)).trans er87) ((St.ka h96 (by decide) (by decide) (by decide)).trans qs96)
                        · refine Tr.aload_n (pc := 112) (i := 0) d_X12_pays_112 rfl rfl ?_
                          refine Tr.iload (pc := 113) (i := 6) d_X12_pays_113 rfl ?_
                          refine Tr.callV (pc := 115) (as := [_]) d_X12_pays_115 s_12_568 ok_X12_sleeps rfl rfl (Nat.le_of_ble_eq_true rfl) (Nat.le_of_ble_eq_true rfl) (by decide) (ty_120 hS.1.1) ?_
                          refine Tr.imp (Tr.deep (by decide) (sp_X12_sleeps_120_w1 hS.1 ((St.kp hS (by decide) (by decide) (by decide)).trans en_120_12) p77_6 (by omega) (Bk1.of hF_Bk1 (fun j => (St.ka hS (by decide) (by decide) (by decide))) (fun j => (St.ka hS (by decide) (by decide) (by decide))) (fun j => (St.ka hS (by decide) (by decide) (by decide))) (fun j => (St.ka hS (by decide) (by decide) (by decide))) (fun j => (St.ka hS (by decide) (by decide) (by decide))) (fun j => (St.ka hS (by decide) (by decide) (by decide))) (fun j => (St.ka hS (by decide) (by decide) (by decide))) (fun j => (St.ka hS (by decide) (by decide) (by decide))) (St.kp hS (by decide) (by decide) (by decide)) (St.kp hS (by decide) (by decide) (by decide)) (St.kp hS (by decide) (by decide) (by decide)) (St.kp hS (by decide) (by decide) (by decide))))) ?_
                          rintro M115 _ ⟨h115, r115, rfl, lr115, ur115⟩
                          have hS := St.tr hS h115 (by decide) (by decide)
                          refine Tr.sc [(0, r115), (1, p77_3)] rfl ?_
                          refine Tr.i2l (pc := 118) d_X12_pays_118 ?_
                          refine Tr.goto (pc := 119) (tgt := 123) d_X12_pays_119 rfl ?_
                          refine Tr.pick [1, 2, 3, 5, 6] (ls2 := [(0, (2, 120)), (1, (0, a1)), (2, (0, a2)), (5, (0, p36_5)), (6, (0, p77_6))]) rfl ?_
                          exact J123 _ _ hS (by omega) ((St.kp h115 (by decide) (by decide) (by decide)).trans ((St.kp h96 (by decide) (by decide) (by decide)).trans k77_120_85)) ((St.kp h115 (by decide) (by decide) (by decide)).trans ((St.kp h96 (by decide) (by decide) (by decide)).trans k77_120_86)) ((St.kp h115 (by decide) (by decide) (by decide)).trans ((St.kp h96 (by decide) (by decide) (by decide)).trans er87)) ((St.ka h115 (by decide) (by decide) (by decide)).trans ((St.ka h96 (by decide) (by decide) (by decide)).trans qs96))
                refine Tr.pick [1, 2, 3, 4, 5, 0] (ls2 := [(0, (2, 120)), (1, (0, a1)), (2, (0, a2)), (3, (1, p74_3)), (5, (0, p36_5)), (6, (0, 0))]) rfl ?_
                exact J77 _ _ _ _ hS (by omega) (by omega) k74_120_85 k74_120_86 (Nat.lt_succ_self _)
              refine Tr.icmp_eq (pc := 47) (tgt := 74) d_X12_pays_47 rfl (fun c47 => ?_) (fun c47 => ?_)
              · refine Tr.pick [0, 1, 2, 3, 4] (ls2 := [(0, (2, 120)), (1, (0, a1)), (2, (0, a2)), (3, (1, p36_3)), (5, (0, p36_5))]) rfl ?_
                exact J74 _ _ hS (by omega) k36_120_85 er39
              · refine Tr.aload_n (pc := 50) (i := 0) d_X12_pays_50 rfl rfl ?_
                refine Tr.getf (pc := 51) d_X12_pays_51 f_12_228 (by decide) (by decide) (ty_120 hS.1.1) ?_
                refine Tr.tp 162 (fx_120_71 hS.1.1) ?_
                refine Tr.iload (pc := 54) (i := 5) d_X12_pays_54 rfl ?_
                refine Tr.iald (pc := 56) d_X12_pays_56 (ty_162 hS.1.1) (by omega) (by omega) ?_
                refine Tr.gen (P := fun v => (-1) ≤ v ∧ v ≤ 59) (ar_162 hS.1.2.1 _) (fun r56 er56 br56 => ?_)
                refine Tr.iload_n (pc := 57) (i := 1) d_X12_pays_57 rfl rfl ?_
                refine Tr.icmp_ne (pc := 58) (tgt := 74) d_X12_pays_58 rfl (fun c58 => ?_) (fun c58 => ?_)
                · refine Tr.pick [0, 1, 2, 3, 4] (ls2 := [(0, (2, 120)), (1, (0, a1)), (2, (0, a2)), (3, (1, p36_3)), (5, (0, p36_5))]) rfl ?_
                  exact J74 _ _ hS (by omega) k36_120_85 er39
                · refine Tr.lload_n (pc := 61) (i := 3) d_X12_pays_61 rfl rfl ?_
                  refine Tr.aload_n (pc := 62) (i := 0) d_X12_pays_62 rfl rfl ?_
                  refine Tr.getf (pc := 63) d_X12_pays_63 f_12_51 (by decide) (by decide) (ty_120 hS.1.1) ?_
                  refine Tr.tp 122 (fx_120_13 hS.1.1) ?_
                  refine Tr.aload_n (pc := 66) (i := 0) d_X12_pays_66 rfl rfl ?_
                  refine Tr.getf (pc := 67) d_X12_pays_67 f_12_48 (by decide) (by decide) (ty_120 hS.1.1) ?_
                  refine Tr.tp 1 ((St.kp hS (by decide) (by decide) (by decide)).trans en_120_12) ?_
                  refine Tr.iald (pc := 70) d_X12_pays_70 (ty_122 hS.1.1) (by omega) (by omega) ?_
                  refine Tr.gen (P := fun v => (-2147483648) ≤ v ∧ v ≤ 2147483647) (ir_122_1 hS.1.2.1) (fun r70 er70 br70 => ?_)
                  refine Tr.i2l (pc := 71) d_X12_pays_71 ?_
                  refine Tr.ladd (pc := 72) d_X12_pays_72 ?_
                  refine Tr.gen (P := fun v => (-9223372036854775808) ≤ v ∧ v ≤ 9223372036854775807) (w64_b _) (fun r72 er72 br72 => ?_)
                  refine Tr.lstore_n (pc := 73) (i := 3) (ls2 := [(3, (1, r72)), (0, (2, 120)), (1, (0, a1)), (2, (0, a2)), (5, (0, p36_5))]) d_X12_pays_73 rfl (by decide) rfl ?_
                  refine Tr.pick [1, 2, 3, 0, 4] (ls2 := [(0, (2, 120)), (1, (0, a1)), (2, (0, a2)), (3, (1, r72)), (5, (0, p36_5))]) rfl ?_
                  exact J74 _ _ hS (by omega) k36_120_85 er39
        refine Tr.pick [2, 3, 4, 1, 0] (ls2 := [(0, (2, 120)), (1, (0, a1)), (2, (0, a2)), (3, (1, 0)), (5, (0, 0))]) rfl ?_
        exact J36 _ _ _ _ hS (by omega) (by omega) k31_120_85 (Nat.lt_succ_self _)
      refine Tr.icmp_eq (pc := 18) (tgt := 31) d_X12_pays_18 rfl (fun c18 => ?_) (fun c18 => ?_)
      · refine Tr.pick [0, 1, 2] (ls2 := [(0, (2, 120)), (1, (0, a1)), (2, (0, a2))]) rfl ?_
        exact J31 _ hS (by omega) ((St.kp h10 (by decide) (by decide) (by decide)).trans er1)
      · refine Tr.aload_n (pc := 21) (i := 0) d_X12_pays_21 rfl rfl ?_
        refine Tr.iload_n (pc := 22) (i := 1) d_X12_pays_22 rfl rfl ?_
        refine Tr.callV (pc := 23) (as := [_]) d_X12_pays_23 s_12_656 ok_X12_isLine rfl rfl (Nat.le_of_ble_eq_true rfl) (Nat.le_of_ble_eq_true rfl) (by decide) (ty_120 hS.1.1) ?_
        refine Tr.imp (Tr.deep (by decide) (sp_X12_isLine_120_w1 hS.1 ((St.kp hS (by decide) (by decide) (by decide)).trans en_120_12) a1 (by omega))) ?_
        rintro M23 _ ⟨h23, r23, rfl, lr23, ur23, z23_0⟩
        have hS := St.tr hS h23 (by decide) (by decide)
        obtain ⟨w23_129_1, ew23_129_1⟩ : ∃ v, rd M23 129 1 = v := ⟨_, rfl⟩
        have bw23_129_1 : 0 ≤ w23_129_1 ∧ w23_129_1 ≤ 60 := by rw [← ew23_129_1]; exact ir_129_1 hS.1.2.1
        have ka23_129_1 : rd M23 129 1 = w23_129_1 := ew23_129_1
        refine Tr.sc [(0, r23)] rfl ?_
        refine Tr.if_ne (pc := 26) (tgt := 31) d_X12_pays_26 rfl (fun c26 => ?_) (fun c26 => ?_)
        · refine Tr.pick [0, 1, 2] (ls2 := [(0, (2, 120)), (1, (0, a1)), (2, (0, a2))]) rfl ?_
          exact J31 _ hS (by omega) ((St.kp h23 (by decide) (by decide) (by decide)).trans ((St.kp h10 (by decide) (by decide) (by decide)).trans er1))
        · refine Tr.iconst (pc := 29) d_X12_pays_29 (by decide) ?_
          exact Tr.iret (pc := 30) d_X12_pays_30 rfl ⟨hS, _, rfl, by omega, by omega⟩

def ws_X12_stretches_120_w1 : List (Int × Int) := [(120, 97), (120, 98), (120, 99)]
def as_X12_stretches_120_w1 : List Int := []
def q_X12_stretches_120_w1 (M0 M' : Mem) (r : Option PV) : Prop := St Tru ws_X12_stretches_120_w1 as_X12_stretches_120_w1 M0 M' ∧ ∃ v : Int, r = some (0, v) ∧ (-2147483648) ≤ v ∧ v ≤ 2147483647
set_option maxRecDepth 100000 in
set_option maxHeartbeats 4000000 in
theorem sp_X12_stretches_120_w1 {l : Launch} {K : EC} {M0 : Mem} (hI : In Tru M0) (en_120_12 : rd M0 120 12 = 1) (a1 : Int) (ha1 : (-2147483648) ≤ a1 ∧ a1 ≤ 2147483647)  : Tr l K 2 mX12_stretches 0 [(0, (2, 120)), (1, (0, a1))] [] M0 (q_X12_stretches_120_w1 M0) := by
  have hS : St Tru ws_X12_stretches_120_w1 as_X12_stretches_120_w1 M0 M0 := St.rf hI
  refine Tr.aload_n (pc := 0) (i := 0) d_X12_stretches_0 rfl rfl ?_
  refine Tr.getz (pc := 1) d_X12_stretches_1 f_12_270 (by decide) (ty_120 hS.1.1) ?_
  refine Tr.gen (P := fun v => 0 ≤ v ∧ v ≤ 1) (ir_120_85 hS.1.2.1) (fun r1 er1 br1 => ?_)
  refine Tr.if_eq (pc := 4) (tgt := 15) d_X12_stretches_4 rfl (fun c4 => ?_) (fun c4 => ?_)
  · refine Tr.iconst (pc := 15) d_X12_stretches_15 (by decide) ?_
    exact Tr.iret (pc := 16) d_X12_stretches_16 rfl ⟨hS, _, rfl, by omega, by omega⟩
  · refine Tr.aload_n (pc := 7) (i := 0) d_X12_stretches_7 rfl rfl ?_
    refine Tr.iload_n (pc := 8) (i := 1) d_X12_stretches_8 rfl rfl ?_
    refine Tr.callV (pc := 9) (as := [_]) d_X12_stretches_9 s_12_555 ok_X12_isPart rfl rfl (Nat.le_of_ble_eq_true rfl) (Nat.le_of_ble_eq_true rfl) (by decide) (ty_120 hS.1.1) ?_
    refine Tr.imp (Tr.deep (by decide) (sp_X12_isPart_120_w1 hS.1 ((St.kp hS (by decide) (by decide) (by decide)).trans en_120_12) a1 (by omega))) ?_
    rintro M9 _ ⟨h9, r9, rfl, lr9, ur9, z9_0⟩
    have hS := St.tr hS h9 (by decide) (by decide)
    obtain ⟨w9_126_1, ew9_126_1⟩ : ∃ v, rd M9 126 1 = v := ⟨_, rfl⟩
    have bw9_126_1 : 0 ≤ w9_126_1 ∧ w9_126_1 ≤ 6 := by rw [← ew9_126_1]; exact ir_126_1 hS.1.2.1
    have ka9_126_1 : rd M9 126 1 = w9_126_1 := ew9_126_1
    refine Tr.sc [(0, r9)] rfl ?_
    refine Tr.if_ne (pc := 12) (tgt := 17) d_X12_stretches_12 rfl (fun c12 => ?_) (fun c12 => ?_)
    · refine Tr.aload_n (pc := 17) (i := 0) d_X12_stretches_17 rfl rfl ?_
      refine Tr.iload_n (pc := 18) (i := 1) d_X12_stretches_18 rfl rfl ?_
      refine Tr.iconst (pc := 19) d_X12_stretches_19 (by decide) ?_
      refine Tr.callV (pc := 20) (as := [_, _]) d_X12_stretches_20 s_12_644 ok_X12_finds rfl rfl (Nat.le_of_ble_eq_true rfl) (Nat.le_of_ble_eq_true rfl) (by decide) (ty_120 hS.1.1) ?_
      refine Tr.imp (Tr.deep (by decide) (sp_X12_finds_120 hS.1 a1 (by omega) (-1) (by omega))) ?_
      rintro M20 _ ⟨h20, r20, rfl, lr20, ur20, z20_0⟩
      have hS := St.tr hS h20 (by decide) (by decide)
      refine Tr.sc [(0, r20)] rfl ?_
      refine Tr.istore_n (pc := 23) (i := 2) (ls2 := [(2, (0, r20)), (0, (2, 120)), (1, (0, a1))]) d_X12_stretches_23 rfl (by decide) rfl ?_
      refine Tr.iload_n (pc := 24) (i := 2) d_X12_stretches_24 rfl rfl ?_
      refine Tr.if_eq (pc := 25) (tgt := 32) d_X12_stretches_25 rfl (fun c25 => ?_) (fun c25 => ?_)
      · refine Tr.aload_n (pc := 32) (i := 0) d_X12_stretches_32 rfl rfl ?_
        refine Tr.getf (pc := 33) d_X12_stretches_33 f_12_312 (by decide) (by decide) (ty_120 hS.1.1) ?_
        refine Tr.gen (P := fun v => (-2147483648) ≤ v ∧ v ≤ 2147483647) (ir_120_99 hS.1.2.1) (fun r33 er33 br33 => ?_)
        exact Tr.iret (pc := 36) d_X12_stretches_36 rfl ⟨hS, _, rfl, by omega, by omega⟩
      · refine Tr.iconst (pc := 28) d_X12_stretches_28 (by decide) ?_
        refine Tr.goto (pc := 29) (tgt := 36) d_X12_stretches_29 rfl ?_
        exact Tr.iret (pc := 36) d_X12_stretches_36 rfl ⟨hS, _, rfl, by omega, by omega⟩
    · refine Tr.iconst (pc := 15) d_X12_stretches_15 (by decide) ?_
      exact Tr.iret (pc := 16) d_X12_stretches_16 rfl ⟨hS, _, rfl, by omega, by omega⟩

def ws_X12_stretch_120_w1 : List (Int × Int) := [(120, 97), (120, 98), (120, 99)]
def as_X12_stretch_120_w1 : List Int := []
def q_X12_stretch_120_w1 (M0 M' : Mem) (r : Option PV) : Prop := St Tru ws_X12_stretch_120_w1 as_X12_stretch_120_w1 M0 M' ∧ ∃ v : Int, r = some (0, v) ∧ (-2147483648) ≤ v ∧ v ≤ 2147483647
set_option maxRecDepth 100000 in
set_option maxHeartbeats 4000000 in
theorem sp_X12_stretch_120_w1 {l : Launch} {K : EC} {M0 : Mem} (hI : In Tru M0) (en_120_12 : rd M0 120 12 = 1) (a1 : Int) (ha1 : (-2147483648) ≤ a1 ∧ a1 ≤ 2147483647) (a2 : Int) (ha2 : (-2147483648) ≤ a2 ∧ a2 ≤ 2147483647) (a3 : Int) (ha3 : (-2147483648) ≤ a3 ∧ a3 ≤ 2147483647)  : Tr l K 2 mX12_stretch 0 [(0, (2, 120)), (1, (0, a1)), (2, (0, a2)), (3, (0, a3))] [] M0 (q_X12_stretch_120_w1 M0) := by
  have hS : St Tru ws_X12_stretch_120_w1 as_X12_stretch_120_w1 M0 M0 := St.rf hI
  refine Tr.aload_n (pc := 0) (i := 0) d_X12_stretch_0 rfl rfl ?_
  refine Tr.getz (pc := 1) d_X12_stretch_1 f_12_270 (by decide) (ty_120 hS.1.1) ?_
  refine Tr.gen (P := fun v => 0 ≤ v ∧ v ≤ 1) (ir_120_85 hS.1.2.1) (fun r1 er1 br1 => ?_)
  refine Tr.if_eq (pc := 4) (tgt := 37) d_X12_stretch_4 rfl (fun c4 => ?_) (fun c4 => ?_)
  · refine Tr.iconst (pc := 37) d_X12_stretch_37 (by decide) ?_
    exact Tr.iret (pc := 38) d_X12_stretch_38 rfl ⟨hS, _, rfl, by omega, by omega⟩
  · refine Tr.aload_n (pc := 7) (i := 0) d_X12_stretch_7 rfl rfl ?_
    refine Tr.iload_n (pc := 8) (i := 1) d_X12_stretch_8 rfl rfl ?_
    refine Tr.callV (pc := 9) (as := [_]) d_X12_stretch_9 s_12_555 ok_X12_isPart rfl rfl (Nat.le_of_ble_eq_true rfl) (Nat.le_of_ble_eq_true rfl) (by decide) (ty_120 hS.1.1) ?_
    refine Tr.imp (Tr.deep (by decide) (sp_X12_isPart_120_w1 hS.1 ((St.kp hS (by decide) (by decide) (by decide)).trans en_120_12) a1 (by omega))) ?_
    rintro M9 _ ⟨h9, r9, rfl, lr9, ur9, z9_0⟩
    have hS := St.tr hS h9 (by decide) (by decide)
    obtain ⟨w9_126_1, ew9_126_1⟩ : ∃ v, rd M9 126 1 = v := ⟨_, rfl⟩
    have bw9_126_1 : 0 ≤ w9_126_1 ∧ w9_126_1 ≤ 6 := by rw [← ew9_126_1]; exact ir_126_1 hS.1.2.1
    have ka9_126_1 : rd M9 126 1 = w9_126_1 := ew9_126_1
    refine Tr.sc [(0, r9)] rfl ?_
    refine Tr.if_eq (pc := 12) (tgt := 37) d_X12_stretch_12 rfl (fun c12 => ?_) (fun c12 => ?_)
    · refine Tr.iconst (pc := 37) d_X12_stretch_37 (by decide) ?_
      exact Tr.iret (pc := 38) d_X12_stretch_38 rfl ⟨hS, _, rfl, by omega, by omega⟩
    · refine Tr.iload_n (pc := 15) (i := 2) d_X12_stretch_15 rfl rfl ?_
      refine Tr.if_lt (pc := 16) (tgt := 37) d_X12_stretch_16 rfl (fun c16 => ?_) (fun c16 => ?_)
      · refine Tr.iconst (pc := 37) d_X12_stretch_37 (by decide) ?_
        exact Tr.iret (pc := 38) d_X12_stretch_38 rfl ⟨hS, _, rfl, by omega, by omega⟩
      · refine Tr.iload_n (pc := 19) (i := 3) d_X12_stretch_19 rfl rfl ?_
        refine Tr.iconst (pc := 20) d_X12_stretch_20 (by decide) ?_
        refine Tr.iconst (pc := 21) d_X12_stretch_21 (by decide) ?_
        refine Tr.callS (pc := 22) (as := [_, _, _]) d_X12_stretch_22 s_12_467 ok_X12_is rfl rfl (Nat.le_of_ble_eq_true rfl) (Nat.le_of_ble_eq_true rfl) ?_
        refine Tr.imp (Tr.deep (by decide) (sp_X12_is hS.1 a3 (by omega) 0 (by omega) 2 (by omega))) ?_
        rintro M22 _ ⟨h22, r22, rfl, lr22, ur22, wr22⟩
        have hS := St.tr hS h22 (by decide) (by decide)
        refine Tr.sc [(0, r22)] rfl ?_
        refine Tr.if_eq (pc := 25) (tgt := 37) d_X12_stretch_25 rfl (fun c25 => ?_) (fun c25 => ?_)
        · refine Tr.iconst (pc := 37) d_X12_stretch_37 (by decide) ?_
          exact Tr.iret (pc := 38) d_X12_stretch_38 rfl ⟨hS, _, rfl, by omega, by omega⟩
        · refine Tr.aload_n (pc := 28) (i := 0) d_X12_stretch_28 rfl rfl ?_
          refine Tr.iload_n (pc := 29) (i := 1) d_X12_stretch_29 rfl rfl ?_
          refine Tr.iload_n (pc := 30) (i := 2) d_X12_stretch_30 rfl rfl ?_
          refine Tr.callV (pc := 31) (as := [_, _]) d_X12_stretch_31 s_12_644 ok_X12_finds rfl rfl (Nat.le_of_ble_eq_true rfl) (Nat.le_of_ble_eq_true rfl) (by decide) (ty_120 hS.1.1) ?_
          refine Tr.imp (Tr.deep (by decide) (sp_X12_finds_120 hS.1 a1 (by omega) a2 (by omega))) ?_
          rintro M31 _ ⟨h31, r31, rfl, lr31, ur31, z31_0⟩
          have hS := St.tr hS h31 (by decide) (by decide)
          refine Tr.sc [(0, r31)] rfl ?_
          refine Tr.if_ne (pc := 34) (tgt := 39) d_X12_stretch_34 rfl (fun c34 => ?_) (fun c34 => ?_)
          · refine Tr.iload_n (pc := 39) (i := 3) d_X12_stretch_39 rfl rfl ?_
            refine Tr.if_ne (pc := 40) (tgt := 50) d_X12_stretch_40 rfl (fun c40 => ?_) (fun c40 => ?_)
            · refine Tr.iload_n (pc := 50) (i := 3) d_X12_stretch_50 rfl rfl ?_
              refine Tr.iconst (pc := 51) d_X12_stretch_51 (by decide) ?_
              refine Tr.icmp_ne (pc := 52) (tgt := 62) d_X12_stretch_52 rfl (fun c52 => ?_) (fun c52 => ?_)
              · refine Tr.aload_n (pc := 62) (i := 0) d_X12_stretch_62 rfl rfl ?_
                refine Tr.iload_n (pc := 63) (i := 1) d_X12_stretch_63 rfl rfl ?_
                refine Tr.callV (pc := 64) (as := [_]) d_X12_stretch_64 s_12_647 ok_X12_onIn rfl rfl (Nat.le_of_ble_eq_true rfl) (Nat.le_of_ble_eq_true rfl) (by decide) (ty_120 hS.1.1) ?_
                refine Tr.imp (Tr.deep (by decide) (sp_X12_onIn_120 hS.1 a1 (by omega))) ?_
                rintro M64 _ ⟨h64, r64, rfl, lr64, ur64⟩
                have hS := St.tr hS h64 (by decide) (by decide)
                refine Tr.sc [(0, r64)] rfl ?_
                exact Tr.iret (pc := 67) d_X12_stretch_67 rfl ⟨hS, _, rfl, by omega, by omega⟩
              · refine Tr.aload_n (pc := 55) (i := 0) d_X12_stretch_55 rfl rfl ?_
                refine Tr.getf (pc := 56) d_X12_stretch_56 f_12_309 (by decide) (by decide) (ty_120 hS.1.1) ?_
                refine Tr.gen (P := fun v => 0 ≤ v ∧ v ≤ 2100) (ir_120_98 hS.1.2.1) (fun r56 er56 br56 => ?_)
                refine Tr.goto (pc := 59) (tgt := 67) d_X12_stretch_59 rfl ?_
                exact Tr.iret (pc := 67) d_X12_stretch_67 rfl ⟨hS, _, rfl, by omega, by omega⟩
            · refine Tr.aload_n (pc := 43) (i := 0) d_X12_stretch_43 rfl rfl ?_
              refine Tr.getf (pc := 44) d_X12_stretch_44 f_12_306 (by decide) (by decide) (ty_120 hS.1.1) ?_
              refine Tr.gen (P := fun v => 0 ≤ v ∧ v ≤ 2100) (ir_120_97 hS.1.2.1) (fun r44 er44 br44 => ?_)
              refine Tr.goto (pc := 47) (tgt := 67) d_X12_stretch_47 rfl ?_
              exact Tr.iret (pc := 67) d_X12_stretch_67 rfl ⟨hS, _, rfl, by omega, by omega⟩
          · refine Tr.iconst (pc := 37) d_X12_stretch_37 (by decide) ?_
            exact Tr.iret (pc := 38) d_X12_stretch_38 rfl ⟨hS, _, rfl, by omega, by omega⟩

def ws_X12_lines_120_w1 : List (Int × Int) := [(120, 97), (120, 98), (120, 99)]
def as_X12_lines_120_w1 : List Int := []
def q_X12_lines_120_w1 (M0 M' : Mem) (r : Option PV) : Prop := St Tru ws_X12_lines_120_w1 as_X12_lines_120_w1 M0 M' ∧ ∃ v : Int, r = some (1, v) ∧ (-9223372036854775808) ≤ v ∧ v ≤ 9223372036854775807
set_option maxRecDepth 100000 in
set_option maxHeartbeats 4000000 in
theorem sp_X12_lines_120_w1 {l : Launch} {K : EC} {M0 : Mem} (hI : In Tru M0) (en_120_12 : rd M0 120 12 = 1) (a1 : Int) (ha1 : (-2147483648) ≤ a1 ∧ a1 ≤ 2147483647) (a2 : Int) (ha2 : (-2147483648) ≤ a2 ∧ a2 ≤ 2147483647)  : Tr l K 2 mX12_lines 0 [(0, (2, 120)), (1, (0, a1)), (2, (0, a2))] [] M0 (q_X12_lines_120_w1 M0) := by
  have hS : St Tru ws_X12_lines_120_w1 as_X12_lines_120_w1 M0 M0 := St.rf hI
  refine Tr.aload_n (pc := 0) (i := 0) d_X12_lines_0 rfl rfl ?_
  refine Tr.getz (pc := 1) d_X12_lines_1 f_12_270 (by decide) (ty_120 hS.1.1) ?_
  refine Tr.gen (P := fun v => 0 ≤ v ∧ v ≤ 1) (ir_120_85 hS.1.2.1) (fun r1 er1 br1 => ?_)
  refine Tr.if_eq (pc := 4) (tgt := 28) d_X12_lines_4 rfl (fun c4 => ?_) (fun c4 => ?_)
  · refine Tr.lconst (pc := 28) (v := 0) d_X12_lines_28 rfl (by decide) ?_
    refine Tr.goto (pc := 29) (tgt := 37) d_X12_lines_29 rfl ?_
    exact Tr.lret (pc := 37) d_X12_lines_37 rfl ⟨hS, _, rfl, by omega, by omega⟩
  · refine Tr.aload_n (pc := 7) (i := 0) d_X12_lines_7 rfl rfl ?_
    refine Tr.iload_n (pc := 8) (i := 1) d_X12_lines_8 rfl rfl ?_
    refine Tr.callV (pc := 9) (as := [_]) d_X12_lines_9 s_12_555 ok_X12_isPart rfl rfl (Nat.le_of_ble_eq_true rfl) (Nat.le_of_ble_eq_true rfl) (by decide) (ty_120 hS.1.1) ?_
    refine Tr.imp (Tr.deep (by decide) (sp_X12_isPart_120_w1 hS.1 ((St.kp hS (by decide) (by decide) (by decide)).trans en_120_12) a1 (by omega))) ?_
    rintro M9 _ ⟨h9, r9, rfl, lr9, ur9, z9_0⟩
    have hS := St.tr hS h9 (by decide) (by decide)
    obtain ⟨w9_126_1, ew9_126_1⟩ : ∃ v, rd M9 126 1 = v := ⟨_, rfl⟩
    have bw9_126_1 : 0 ≤ w9_126_1 ∧ w9_126_1 ≤ 6 := by rw [← ew9_126_1]; exact ir_126_1 hS.1.2.1
    have ka9_126_1 : rd M9 126 1 = w9_126_1 := ew9_126_1
    refine Tr.sc [(0, r9)] rfl ?_
    refine Tr.if_eq (pc := 12) (tgt := 28) d_X12_lines_12 rfl (fun c12 => ?_) (fun c12 => ?_)
    · refine Tr.lconst (pc := 28) (v := 0) d_X12_lines_28 rfl (by decide) ?_
      refine Tr.goto (pc := 29) (tgt := 37) d_X12_lines_29 rfl ?_
      exact Tr.lret (pc := 37) d_X12_lines_37 rfl ⟨hS, _, rfl, by omega, by omega⟩
    · refine Tr.iload_n (pc := 15) (i := 2) d_X12_lines_15 rfl rfl ?_
      refine Tr.if_lt (pc := 16) (tgt := 28) d_X12_lines_16 rfl (fun c16 => ?_) (fun c16 => ?_)
      · refine Tr.lconst (pc := 28) (v := 0) d_X12_lines_28 rfl (by decide) ?_
        refine Tr.goto (pc := 29) (tgt := 37) d_X12_lines_29 rfl ?_
        exact Tr.lret (pc := 37) d_X12_lines_37 rfl ⟨hS, _, rfl, by omega, by omega⟩
      · refine Tr.aload_n (pc := 19) (i := 0) d_X12_lines_19 rfl rfl ?_
        refine Tr.iload_n (pc := 20) (i := 1) d_X12_lines_20 rfl rfl ?_
        refine Tr.iload_n (pc := 21) (i := 2) d_X12_lines_21 rfl rfl ?_
        refine Tr.callV (pc := 22) (as := [_, _]) d_X12_lines_22 s_12_644 ok_X12_finds rfl rfl (Nat.le_of_ble_eq_true rfl) (Nat.le_of_ble_eq_true rfl) (by decide) (ty_120 hS.1.1) ?_
        refine Tr.imp (Tr.deep (by decide) (sp_X12_finds_120 hS.1 a1 (by omega) a2 (by omega))) ?_
        rintro M22 _ ⟨h22, r22, rfl, lr22, ur22, z22_0⟩
        have hS := St.tr hS h22 (by decide) (by decide)
        refine Tr.sc [(0, r22)] rfl ?_
        refine Tr.if_ne (pc := 25) (tgt := 32) d_X12_lines_25 rfl (fun c25 => ?_) (fun c25 => ?_)
        · refine Tr.aload_n (pc := 32) (i := 0) d_X12_lines_32 rfl rfl ?_
          refine Tr.iload_n (pc := 33) (i := 1) d_X12_lines_33 rfl rfl ?_
          refine Tr.callV (pc := 34) (as := [_]) d_X12_lines_34 s_12_650 ok_X12_linesIn rfl rfl (Nat.le_of_ble_eq_true rfl) (Nat.le_of_ble_eq_true rfl) (by decide) (ty_120 hS.1.1) ?_
          refine Tr.imp (Tr.deep (by decide) (sp_X12_linesIn_120 hS.1 a1 (by omega))) ?_
          rintro M34 _ ⟨h34, r34, rfl, lr34, ur34⟩
          have hS := St.tr hS h34 (by decide) (by decide)
          refine Tr.sc [(1, r34)] rfl ?_
          exact Tr.lret (pc := 37) d_X12_lines_37 rfl ⟨hS, _, rfl, by omega, by omega⟩
        · refine Tr.lconst (pc := 28) (v := 0) d_X12_lines_28 rfl (by decide) ?_
          refine Tr.goto (pc := 29) (tgt := 37) d_X12_lines_29 rfl ?_
          exact Tr.lret (pc := 37) d_X12_lines_37 rfl ⟨hS, _, rfl, by omega, by omega⟩

def ws_X12_tails_120_w1 : List (Int × Int) := []
def as_X12_tails_120_w1 : List Int := []
def q_X12_tails_120_w1 (a1 : Int) (M0 M' : Mem) (r : Option PV) : Prop := St Tru ws_X12_tails_120_w1 as_X12_tails_120_w1 M0 M' ∧ ∃ v : Int, r = some (0, v) ∧ (-2147483648) ≤ v ∧ v ≤ 2147483647 ∧ (rd M' 126 1 ≤ a1 ∨ v ≤ 50)
set_option maxRecDepth 100000 in
set_option maxHeartbeats 4000000 in
theorem sp_X12_tails_120_w1 {l : Launch} {K : EC} {M0 : Mem} (hI : In Tru M0) (en_120_12 : rd M0 120 12 = 1) (a1 : Int) (ha1 : 0 ≤ a1 ∧ a1 ≤ 5)  (hF_Bk1 : Bk1 M0) : Tr l K 1 mX12_tails 0 [(0, (2, 120)), (1, (0, a1))] [] M0 (q_X12_tails_120_w1 a1 M0) := by
  have hS : St Tru ws_X12_tails_120_w1 as_X12_tails_120_w1 M0 M0 := St.rf hI
  obtain ⟨g126_1, eg126_1⟩ : ∃ v, rd M0 126 1 = v := ⟨_, rfl⟩
  have bg126_1 : 0 ≤ g126_1 ∧ g126_1 ≤ 6 := by rw [← eg126_1]; exact ir_126_1 hI.2.1
  refine Tr.aload_n (pc := 0) (i := 0) d_X12_tails_0 rfl rfl ?_
  refine Tr.iload_n (pc := 1) (i := 1) d_X12_tails_1 rfl rfl ?_
  refine Tr.iconst (pc := 2) d_X12_tails_2 (by decide) ?_
  refine Tr.callV (pc := 3) (as := [_, _]) d_X12_tails_3 s_12_565 ok_X12_rate rfl rfl (Nat.le_of_ble_eq_true rfl) (Nat.le_of_ble_eq_true rfl) (by decide) (ty_120 hS.1.1) ?_
  refine Tr.imp (Tr.deep (by decide) (sp_X12_rate_120_w1 hS.1 ((St.kp hS (by decide) (by decide) (by decide)).trans en_120_12) a1 (by omega) 5 (by omega) (Bk1.of hF_Bk1 (fun j => (St.ka hS (by decide) (by decide) (by decide))) (fun j => (St.ka hS (by decide) (by decide) (by decide))) (fun j => (St.ka hS (by decide) (by decide) (by decide))) (fun j => (St.ka hS (by decide) (by decide) (by decide))) (fun j => (St.ka hS (by decide) (by decide) (by decide))) (fun j => (St.ka hS (by decide) (by decide) (by decide))) (fun j => (St.ka hS (by decide) (by decide) (by decide))) (fun j => (St.ka hS (by decide) (by decide) (by decide))) (St.kp hS (by decide) (by decide) (by decide)) (St.kp hS (by decide) (by decide) (by decide)) (St.kp hS (by decide) (by decide) (by decide)) (St.kp hS (by decide) (by decide) (by decide))))) ?_
  rintro M3 _ ⟨h3, r3, rfl, lr3, ur3, z3_0⟩
  have hS := St.tr hS h3 (by decide) (by decide)
  have ka3_126_1 : rd M3 126 1 = g126_1 := ((St.kp h3 (by decide) (by decide) (by decide)).trans eg126_1)
  refine Tr.sc [(0, r3)] rfl ?_
  have kr_126_1 : rd M3 126 1 = g126_1 := ((St.kp h3 (by decide) (by decide) (by decide)).trans eg126_1)
  exact Tr.iret (pc := 6) d_X12_tails_6 rfl ⟨hS, _, rfl, by omega, by omega, by omega⟩

set_option maxRecDepth 100000 in
set_option maxHeartbeats 4000000 in
theorem ns_X12_tails_120_w1 {l : Launch} {K : EC} {M0 : Mem} {G126_1 : Int} (hI : In Tru M0) (k126_1 : rd M0 126 1 = G126_1) (en_120_12 : rd M0 120 12 = 1) (a1 : Int) (ha1 : 0 ≤ a1 ∧ a1 ≤ 5)  (hF_Bk1 : Bk1 M0) : Tr l K 1 mX12_tails 0 [(0, (2, 120)), (1, (0, a1))] [] M0 (fun M' r => St Tru ws_X12_tails_120_w1 as_X12_tails_120_w1 M0 M' ∧ ∃ v : Int, r = some (0, v) ∧ (-2147483648) ≤ v ∧ v ≤ 2147483647 ∧ Hd (G126_1 ≤ a1 ∨ v ≤ 50)) := by
  subst k126_1
  refine Tr.imp (sp_X12_tails_120_w1 hI en_120_12 a1 ha1 hF_Bk1) ?_
  rintro M' _ ⟨hS, v, rfl, lr, ur, z0⟩
  rewrite [show rd M' 126 1 = rd M0 126 1 from ((St.kp hS (by decide) (by decide) (by decide)).trans rfl)] at z0
  exact ⟨hS, v, rfl, lr, ur, hd_i z0⟩

def ws_X12_wasted_120_w1 : List (Int × Int) := [(120, 97), (120, 98), (120, 99)]
def as_X12_wasted_120_w1 : List Int := []
def q_X12_wasted_120_w1 (M0 M' : Mem) (r : Option PV) : Prop := St Tru ws_X12_wasted_120_w1 as_X12_wasted_120_w1 M0 M' ∧ ∃ v : Int, r = some (0, v) ∧ (-2147483648) ≤ v ∧ v ≤ 2147483647
set_option maxRecDepth 100000 in
set_option maxHeartbeats 4000000 in
theorem sp_X12_wasted_120_w1 {l : Launch} {K : EC} {M0 : Mem} (hI : In Tru M0) (en_120_12 : rd M0 120 12 = 1) (a1 : Int) (ha1 : (-2147483648) ≤ a1 ∧ a1 ≤ 2147483647)  (hF_Bk1 : Bk1 M0) : Tr l K 2 mX12_wasted 0 [(0, (2, 120)), (1, (0, a1))] [] M0 (q_X12_wasted_120_w1 M0) := by
  have hS : St Tru ws_X12_wasted_120_w1 as_X12_wasted_120_w1 M0 M0 := St.rf hI
  refine Tr.aload_n (pc := 0) (i := 0) d_X12_wasted_0 rfl rfl ?_
  refine Tr.getz (pc := 1) d_X12_wasted_1 f_12_270 (by decide) (ty_120 hS.1.1) ?_
  refine Tr.gen (P := fun v => 0 ≤ v ∧ v ≤ 1) (ir_120_85 hS.1.2.1) (fun r1 er1 br1 => ?_)
  refine Tr.if_eq (pc := 4) (tgt := 15) d_X12_wasted_4 rfl (fun c4 => ?_) (fun c4 => ?_)
  · refine Tr.iconst (pc := 15) d_X12_wasted_15 (by decide) ?_
    exact Tr.iret (pc := 16) d_X12_wasted_16 rfl ⟨hS, _, rfl, by omega, by omega⟩
  · refine Tr.aload_n (pc := 7) (i := 0) d_X12_wasted_7 rfl rfl ?_
    refine Tr.iload_n (pc := 8) (i := 1) d_X12_wasted_8 rfl rfl ?_
    refine Tr.callV (pc := 9) (as := [_]) d_X12_wasted_9 s_12_656 ok_X12_isLine rfl rfl (Nat.le_of_ble_eq_true rfl) (Nat.le_of_ble_eq_true rfl) (by decide) (ty_120 hS.1.1) ?_
    refine Tr.imp (Tr.deep (by decide) (sp_X12_isLine_120_w1 hS.1 ((St.kp hS (by decide) (by decide) (by decide)).trans en_120_12) a1 (by omega))) ?_
    rintro M9 _ ⟨h9, r9, rfl, lr9, ur9, z9_0⟩
    have hS := St.tr hS h9 (by decide) (by decide)
    obtain ⟨w9_129_1, ew9_129_1⟩ : ∃ v, rd M9 129 1 = v := ⟨_, rfl⟩
    have bw9_129_1 : 0 ≤ w9_129_1 ∧ w9_129_1 ≤ 60 := by rw [← ew9_129_1]; exact ir_129_1 hS.1.2.1
    have ka9_129_1 : rd M9 129 1 = w9_129_1 := ew9_129_1
    refine Tr.sc [(0, r9)] rfl ?_
    refine Tr.if_ne (pc := 12) (tgt := 17) d_X12_wasted_12 rfl (fun c12 => ?_) (fun c12 => ?_)
    · refine Tr.iconst (pc := 17) d_X12_wasted_17 (by decide) ?_
      refine Tr.istore_n (pc := 18) (i := 2) (ls2 := [(2, (0, 0)), (0, (2, 120)), (1, (0, a1))]) d_X12_wasted_18 rfl (by decide) rfl ?_
      refine Tr.iconst (pc := 19) d_X12_wasted_19 (by decide) ?_
      refine Tr.istore_n (pc := 20) (i := 3) (ls2 := [(3, (0, 0)), (2, (0, 0)), (0, (2, 120)), (1, (0, a1))]) d_X12_wasted_20 rfl (by decide) rfl ?_
      have J21 : ∀ (n21 : Nat) (M : Mem) (p21_2 p21_3 : Int), St Tru ws_X12_wasted_120_w1 as_X12_wasted_120_w1 M0 M → ((-2147483648) ≤ p21_2 ∧ p21_2 ≤ 2147483647) → (0 ≤ p21_3 ∧ p21_3 ≤ 6) → rd M 120 85 = r1 → rd M 129 1 = w9_129_1 → (6 - p21_3).toNat < n21 → Tr l K 2 mX12_wasted 21 [(0, (2, 120)), (1, (0, a1)), (2, (0, p21_2)), (3, (0, p21_3))] [] M (q_X12_wasted_120_w1 M0) := by
        intro n21
        induction n21 with
        | zero => intro M p21_2 p21_3 hS bp21_2 bp21_3 k21_120_85 k21_129_1 hm21; exact absurd hm21 (Nat.not_lt_zero _)
        | succ n21 J21 =>
          intro M p21_2 p21_3 hS bp21_2 bp21_3 k21_120_85 k21_129_1 hm21
          refine Tr.iload_n (pc := 21) (i := 3) d_X12_wasted_21 rfl rfl ?_
          refine Tr.aload_n (pc := 22) (i := 0) d_X12_wasted_22 rfl rfl ?_
          refine Tr.getf (pc := 23) d_X12_wasted_23 f_12_63 (by decide) (by decide) (ty_120 hS.1.1) ?_
          refine Tr.tp 126 (fx_120_17 hS.1.1) ?_
          refine Tr.aload_n (pc := 26) (i := 0) d_X12_wasted_26 rfl rfl ?_
          refine Tr.getf (pc := 27) d_X12_wasted_27 f_12_48 (by decide) (by decide) (ty_120 hS.1.1) ?_
          refine Tr.tp 1 ((St.kp hS (by decide) (by decide) (by decide)).trans en_120_12) ?_
          refine Tr.iald (pc := 30) d_X12_wasted_30 (ty_126 hS.1.1) (by omega) (by omega) ?_
          refine Tr.gen (P := fun v => 0 ≤ v ∧ v ≤ 6) (ir_126_1 hS.1.2.1) (fun r30 er30 br30 => ?_)
          refine Tr.icmp_ge (pc := 31) (tgt := 236) d_X12_wasted_31 rfl (fun c31 => ?_) (fun c31 => ?_)
          · refine Tr.iload_n (pc := 236) (i := 2) d_X12_wasted_236 rfl rfl ?_
            exact Tr.iret (pc := 237) d_X12_wasted_237 rfl ⟨hS, _, rfl, by omega, by omega⟩
          · refine Tr.iconst (pc := 34) d_X12_wasted_34 (by decide) ?_
            refine Tr.istore (pc := 35) (i := 4) (ls2 := [(4, (0, 1)), (0, (2, 120)), (1, (0, a1)), (2, (0, p21_2)), (3, (0, p21_3))]) d_X12_wasted_35 (by decide) rfl ?_
            refine Tr.iconst (pc := 37) d_X12_wasted_37 (by decide) ?_
            refine Tr.istore (pc := 38) (i := 5) (ls2 := [(5, (0, 0)), (4, (0, 1)), (0, (2, 120)), (1, (0, a1)), (2, (0, p21_2)), (3, (0, p21_3))]) d_X12_wasted_38 (by decide) rfl ?_
            have J40 : ∀ (n40 : Nat) (M : Mem) (p40_2 p40_4 p40_5 : Int), St Tru ws_X12_wasted_120_w1 as_X12_wasted_120_w1 M0 M → ((-2147483648) ≤ p40_2 ∧ p40_2 ≤ 2147483647) → (0 ≤ p40_4 ∧ p40_4 ≤ 1) → (0 ≤ p40_5 ∧ p40_5 ≤ 2147483647) → rd M 120 85 = r1 → rd M 126 1 = r30 → rd M 129 1 = w9_129_1 → (p40_5 ≤ 2102 ∧ (p40_4 = 0 ∨ p40_5 ≤ 2101)) → (2300 - p40_5).toNat < n40 → Tr l K 2 mX12_wasted 40 [(0, (2, 120)), (1, (0, a1)), (2, (0, p40_2)), (3, (0, p21_3)), (4, (0, p40_4)), (5, (0, p40_5))] [] M (q_X12_wasted_120_w1 M0) := by
              intro n40
              induction n40 with
              | zero => intro M p40_2 p40_4 p40_5 hS bp40_2 bp40_4 bp40_5 k40_120_85 k40_126_1 k40_129_1 t40_0 hm40; exact absurd hm40 (Nat.not_lt_zero _)
              | succ n40 J40 =>
                intro M p40_2 p40_4 p40_5 hS bp40_2 bp40_4 bp40_5 k40_120_85 k40_126_1 k40_129_1 t40_0 hm40
                refine Tr.iload (pc := 40) (i := 4) d_X12_wasted_40 rfl ?_
                refine Tr.if_eq (pc := 42) (tgt := 230) d_X12_wasted_42 rfl (fun c42 => ?_) (fun c42 => ?_)
                · refine Tr.iincV (pc := 230) (n2 := (p21_3 + 1)) (ls2 := [(3, (0, (p21_3 + 1))), (0, (2, 120)), (1, (0, a1)), (2, (0, p40_2)), (4, (0, p40_4)), (5, (0, p40_5))]) d_X12_wasted_230 rfl (by decide) ((w32_id (by omega)).trans (by omega)) rfl ?_
                  refine Tr.goto (pc := 233) (tgt := 21) d_X12_wasted_233 rfl ?_
                  refine Tr.pick [1, 2, 3, 0] (ls2 := [(0, (2, 120)), (1, (0, a1)), (2, (0, p40_2)), (3, (0, (p21_3 + 1)))]) rfl ?_
                  exact J21 _ _ _ hS (by omega) (by omega) k40_120_85 k40_129_1 (by omega)
                · refine Tr.aload_n (pc := 45) (i := 0) d_X12_wasted_45 rfl rfl ?_
                  refine Tr.iload_n (pc := 46) (i := 3) d_X12_wasted_46 rfl rfl ?_
                  refine Tr.iload (pc := 47) (i := 5) d_X12_wasted_47 rfl ?_
                  refine Tr.callV (pc := 49) (as := [_, _]) d_X12_wasted_49 s_12_644 ok_X12_finds rfl rfl (Nat.le_of_ble_eq_true rfl) (Nat.le_of_ble_eq_true rfl) (by decide) (ty_120 hS.1.1) ?_
                  refine Tr.imp (Tr.deep (by decide) (sp_X12_finds_120 hS.1 p21_3 (by omega) p40_5 (by omega))) ?_
                  rintro M49 _ ⟨h49, r49, rfl, lr49, ur49, z49_0⟩
                  have hS := St.tr hS h49 (by decide) (by decide)
                  refine Tr.sc [(0, r49)] rfl ?_
                  refine Tr.istore (pc := 52) (i := 4) (ls2 := [(4, (0, r49)), (0, (2, 120)), (1, (0, a1)), (2, (0, p40_2)), (3, (0, p21_3)), (5, (0, p40_5))]) d_X12_wasted_52 (by decide) rfl ?_
                  refine Tr.iload (pc := 54) (i := 4) d_X12_wasted_54 rfl ?_
                  have J224 : ∀ (M : Mem) (p224_2 : Int), St Tru ws_X12_wasted_120_w1 as_X12_wasted_120_w1 M0 M → ((-2147483648) ≤ p224_2 ∧ p224_2 ≤ 2147483647) → rd M 120 85 = r1 → rd M 126 1 = r30 → rd M 129 1 = w9_129_1 → (p40_5 ≤ 2101 ∧ (r49 = 0 ∨ p40_5 ≤ 2100)) → Tr l K 2 mX12_wasted 224 [(0, (2, 120)), (1, (0, a1)), (2, (0, p224_2)), (3, (0, p21_3)), (4, (0, r49)), (5, (0, p40_5))] [] M (q_X12_wasted_120_w1 M0) := by
                    intro M p224_2 hS bp224_2 k224_120_85 k224_126_1 k224_129_1 t224_0
                    refine Tr.iincV (pc := 224) (n2 := (p40_5 + 1)) (ls2 := [(5, (0, (p40_5 + 1))), (0, (2, 120)), (1, (0, a1)), (2, (0, p224_2)), (3, (0, p21_3)), (4, (0, r49))]) d_X12_wasted_224 rfl (by decide) ((w32_id (by omega)).trans (by omega)) rfl ?_
                    refine Tr.goto (pc := 227) (tgt := 40) d_X12_wasted_227 rfl ?_
                    refine Tr.pick [1, 2, 3, 4, 5, 0] (ls2 := [(0, (2, 120)), (1, (0, a1)), (2, (0, p224_2)), (3, (0, p21_3)), (4, (0, r49)), (5, (0, (p40_5 + 1)))]) rfl ?_
                    exact J40 _ _ _ _ hS (by omega) (by omega) (by omega) k224_120_85 k224_126_1 k224_129_1 (by first | assumption | omega) (by omega)
                  refine Tr.if_eq (pc := 56) (tgt := 224) d_X12_wasted_56 rfl (fun c56 => ?_) (fun c56 => ?_)
                  · refine Tr.pick [1, 2, 3, 4, 0, 5] (ls2 := [(0, (2, 120)), (1, (0, a1)), (2, (0, p40_2)), (3, (0, p21_3)), (4, (0, r49)), (5, (0, p40_5))]) rfl ?_
                    exact J224 _ _ hS (by omega) ((St.kp h49 (by decide) (by decide) (by decide)).trans k40_120_85) ((St.kp h49 (by decide) (by decide) (by decide)).trans k40_126_1) ((St.kp h49 (by decide) (by decide) (by decide)).trans k40_129_1) (by first | assumption | omega)
                  · refine Tr.aload_n (pc := 59) (i := 0) d_X12_wasted_59 rfl rfl ?_
                    refine Tr.getf (pc := 60) d_X12_wasted_60 f_12_309 (by decide) (by decide) (ty_120 hS.1.1) ?_
                    refine Tr.gen (P := fun v => 0 ≤ v ∧ v ≤ 2100) (ir_120_98 hS.1.2.1) (fun r60 er60 br60 => ?_)
                    refine Tr.aload_n (pc := 63) (i := 0) d_X12_wasted_63 rfl rfl ?_
                    refine Tr.getf (pc := 64) d_X12_wasted_64 f_12_273 (by decide) (by decide) (ty_120 hS.1.1) ?_
                    refine Tr.gen (P := fun v => 0 ≤ v ∧ v ≤ 2060) (ir_120_86 hS.1.2.1) (fun r64 er64 br64 => ?_)
                    have J82 : ∀ (M : Mem), St Tru ws_X12_wasted_120_w1 as_X12_wasted_120_w1 M0 M → rd M 120 85 = r1 → rd M 120 86 = r64 → rd M 120 98 = r60 → rd M 126 1 = r30 → rd M 129 1 = w9_129_1 → Tr l K 2 mX12_wasted 82 [(0, (2, 120)), (1, (0, a1)), (2, (0, p40_2)), (3, (0, p21_3)), (4, (0, r49)), (5, (0, p40_5))] [] M (q_X12_wasted_120_w1 M0) := by
                      intro M  hS  k82_120_85 k82_120_86 k82_120_98 k82_126_1 k82_129_1
                      refine Tr.iconst (pc := 82) d_X12_wasted_82 (by decide) ?_
                      refine Tr.istore (pc := 83) (i := 6) (ls2 := [(6, (0, (-1))), (0, (2, 120)), (1, (0, a1)), (2, (0, p40_2)), (3, (0, p21_3)), (4, (0, r49)), (5, (0, p40_5))]) d_X12_wasted_83 (by decide) rfl ?_
                      refine Tr.iconst (pc := 85) d_X12_wasted_85 (by decide) ?_
                      refine Tr.istore (pc := 86) (i := 7) (ls2 := [(7, (0, 0)), (6, (0, (-1))), (0, (2, 120)), (1, (0, a1)), (2, (0, p40_2)), (3, (0, p21_3)), (4, (0, r49)), (5, (0, p40_5))]) d_X12_wasted_86 (by decide) rfl ?_
                      have J88 : ∀ (n88 : Nat) (M : Mem) (p88_6 p88_7 : Int), St Tru ws_X12_wasted_120_w1 as_X12_wasted_120_w1 M0 M → ((-1) ≤ p88_6 ∧ p88_6 ≤ 59) → (0 ≤ p88_7 ∧ p88_7 ≤ 2100) → rd M 120 85 = r1 → rd M 120 86 = r64 → rd M 120 98 = r60 → rd M 126 1 = r30 → rd M 129 1 = w9_129_1 → (2100 - p88_7).toNat < n88 → Tr l K 2 mX12_wasted 88 [(0, (2, 120)), (1, (0, a1)), (2, (0, p40_2)), (3, (0, p21_3)), (4, (0, r49)), (5, (0, p40_5)), (6, (0, p88_6)), (7, (0, p88_7))] [] M (q_X12_wasted_120_w1 M0) := by
                        intro n88
                        induction n88 with
                        | zero => intro M p88_6 p88_7 hS bp88_6 bp88_7 k88_120_85 k88_120_86 k88_120_98 k88_126_1 k88_129_1 hm88; exact absurd hm88 (Nat.not_lt_zero _)
                        | succ n88 J88 =>
                          intro M p88_6 p88_7 hS bp88_6 bp88_7 k88_120_85 k88_120_86 k88_120_98 k88_126_1 k88_129_1 hm88
                          refine Tr.iload (pc := 88) (i := 7) d_X12_wasted_88 rfl ?_
                          refine Tr.aload_n (pc := 90) (i := 0) d_X12_wasted_90 rfl rfl ?_
                          refine Tr.getf (pc := 91) d_X12_wasted_91 f_12_300 (by decide) (by decide) (ty_120 hS.1.1) ?_
                          refine Tr.gen (P := fun v => 0 ≤ v ∧ v ≤ 2100) (ir_120_95 hS.1.2.1) (fun r91 er91 br91 => ?_)
                          refine Tr.icmp_ge (pc := 94) (tgt := 153) d_X12_wasted_94 rfl (fun c94 => ?_) (fun c94 => ?_)
                          · refine Tr.iload (pc := 153) (i := 6) d_X12_wasted_153 rfl ?_
                            refine Tr.iload_n (pc := 155) (i := 1) d_X12_wasted_155 rfl rfl ?_
                            refine Tr.icmp_eq (pc := 156) (tgt := 162) d_X12_wasted_156 rfl (fun c156 => ?_) (fun c156 => ?_)
                            · refine Tr.aload_n (pc := 162) (i := 0) d_X12_wasted_162 rfl rfl ?_
                              refine Tr.getf (pc := 163) d_X12_wasted_163 f_12_309 (by decide) (by decide) (ty_120 hS.1.1) ?_
                              refine Tr.tp r60 k88_120_98 ?_
                              refine Tr.iconst (pc := 166) d_X12_wasted_166 (by decide) ?_
                              refine Tr.isub (pc := 167) d_X12_wasted_167 ?_
                              refine Tr.tp (r60 - 1) ((w32_id (by omega)).trans (by omega)) ?_
                              refine Tr.istore (pc := 168) (i := 7) (ls2 := [(7, (0, (r60 - 1))), (0, (2, 120)), (1, (0, a1)), (2, (0, p40_2)), (3, (0, p21_3)), (4, (0, r49)), (5, (0, p40_5)), (6, (0, p88_6))]) d_X12_wasted_168 (by decide) rfl ?_
                              have J170 : ∀ (n170 : Nat) (M : Mem) (p170_2 p170_7 : Int), St Tru ws_X12_wasted_120_w1 as_X12_wasted_120_w1 M0 M → ((-2147483648) ≤ p170_2 ∧ p170_2 ≤ 2147483647) → ((-1) ≤ p170_7 ∧ p170_7 ≤ 2099) → rd M 120 85 = r1 → rd M 120 86 = r64 → rd M 120 95 = r91 → rd M 120 98 = r60 → rd M 126 1 = r30 → rd M 129 1 = w9_129_1 → (p170_7 - (-1)).toNat < n170 → Tr l K 2 mX12_wasted 170 [(0, (2, 120)), (1, (0, a1)), (2, (0, p170_2)), (3, (0, p21_3)), (4, (0, r49)), (5, (0, p40_5)), (7, (0, p170_7))] [] M (q_X12_wasted_120_w1 M0) := by
                                intro n170
                                induction n170 with
                                | zero => intro M p170_2 p170_7 hS bp170_2 bp170_7 k170_120_85 k170_120_86 k170_120_95 k170_120_98 k170_126_1 k170_129_1 hm170; exact absurd hm170 (Nat.not_lt_zero _)
                                | succ n170 J170 =>
                                  intro M p170_2 p170_7 hS bp170_2 bp170_7 k170_120_85 k170_120_86 k170_120_95 k170_120_98 k170_126_1 k170_129_1 hm170
                                  refine Tr.iload (pc := 170) (i := 7) d_X12_wasted_170 rfl ?_
                                  refine Tr.aload_n (pc := 172) (i := 0) d_X12_wasted_172 rfl rfl ?_
                                  refine Tr.getf (pc := 173) d_X12_wasted_173 f_12_306 (by decide) (by decide) (ty_120 hS.1.1) ?_
                                  refine Tr.gen (P := fun v => 0 ≤ v ∧ v ≤ 2100) (ir_120_97 hS.1.2.1) (fun r173 er173 br173 => ?_)
                                  refine Tr.icmp_lt (pc := 176) (tgt := 224) d_X12_wasted_176 rfl (fun c176 => ?_) (fun c176 => ?_)
                                  · refine Tr.pick [0, 1, 2, 3, 4, 5] (ls2 := [(0, (2, 120)), (1, (0, a1)), (2, (0, p170_2)), (3, (0, p21_3)), (4, (0, r49)), (5, (0, p40_5))]) rfl ?_
                                    exact J224 _ _ hS (by omega) k170_120_85 k170_126_1 k170_129_1 (by first | assumption | omega)
                                  · refine Tr.iload (pc := 179) (i := 7) d_X12_wasted_179 rfl ?_
                                    refine Tr.aload_n (pc := 181) (i := 0) d_X12_wasted_181 rfl rfl ?_
                                    refine Tr.getf (pc := 182) d_X12_wasted_182 f_12_309 (by decide) (by decide) (ty_120 hS.1.1) ?_
                                    refine Tr.tp r60 k170_120_98 ?_
                                    refine Tr.aload_n (pc := 185) (i := 0) d_X12_wasted_185 rfl rfl ?_
                                    refine Tr.iload_n (pc := 186) (i := 3) d_X12_wasted_186 rfl rfl ?_
                                    refine Tr.callV (pc := 187) (as := [_]) d_X12_wasted_187 s_12_591 ok_X12_tails rfl rfl (Nat.le_of_ble_eq_true rfl) (Nat.le_of_ble_eq_true rfl) (by decide) (ty_120 hS.1.1) ?_
                                    refine Tr.imp (Tr.deep (by decide) (sp_X12_tails_120_w1 hS.1 ((St.kp hS (by decide) (by decide) (by decide)).trans en_120_12) p21_3 (by omega) (Bk1.of hF_Bk1 (fun j => (St.ka hS (by decide) (by decide) (by decide))) (fun j => (St.ka hS (by decide) (by decide) (by decide))) (fun j => (St.ka hS (by decide) (by decide) (by decide))) (fun j => (St.ka hS (by decide) (by decide) (by decide))) (fun j => (St.ka hS (by decide) (by decide) (by decide))) (fun j => (St.ka hS (by decide) (by decide) (by decide))) (fun j => (St.ka hS (by decide) (by decide) (by decide))) (fun j => (St.ka hS (by decide) (by decide) (by decide))) (St.kp hS (by decide) (by decide) (by decide)) (St.kp hS (by decide) (by decide) (by decide)) (St.kp hS (by decide) (by decide) (by decide)) (St.kp hS (by decide) (by decide) (by decide))))) ?_
                                    rintro M187 _ ⟨h187, r187, rfl, lr187, ur187, z187_0⟩
                                    have hS := St.tr hS h187 (by decide) (by decide)
                                    have ka187_126_1 : rd M187 126 1 = r30 := ((St.kp h187 (by decide) (by decide) (by decide)).trans k170_126_1)
                                    refine Tr.sc [(0, r187), (0, r60), (0, p170_7)] rfl ?_
                                    refine Tr.isub (pc := 190) d_X12_wasted_190 ?_
                                    refine Tr.gen (P := fun v => (-2147483648) ≤ v ∧ v ≤ 2147483647) (w32_b _) (fun r190 er190 br190 => ?_)
                                    refine Tr.icmp_lt (pc := 191) (tgt := 224) d_X12_wasted_191 rfl (fun c191 => ?_) (fun c191 => ?_)
                                    · refine Tr.pick [0, 1, 2, 3, 4, 5] (ls2 := [(0, (2, 120)), (1, (0, a1)), (2, (0, p170_2)), (3, (0, p21_3)), (4, (0, r49)), (5, (0, p40_5))]) rfl ?_
                                      exact J224 _ _ hS (by omega) ((St.kp h187 (by decide) (by decide) (by decide)).trans k170_120_85) ((St.kp h187 (by decide) (by decide) (by decide)).trans k170_126_1) ((St.kp h187 (by decide) (by decide) (by decide)).trans k170_129_1) (by first | assumption | omega)
                                    · refine Tr.iload_n (pc := 194) (i := 2) d_X12_wasted_194 rfl rfl ?_
                                      refine Tr.aload_n (pc := 195) (i := 0) d_X12_wasted_195 rfl rfl ?_
                                      refine Tr.iload_n (pc := 196) (i := 3) d_X12_wasted_196 rfl rfl ?_
                                      refine Tr.iload (pc := 197) (i := 7) d_X12_wasted_197 rfl ?_
                                      refine Tr.callV (pc := 199) (as := [_, _]) d_X12_wasted_199 s_12_641 ok_X12_stateAt rfl rfl (Nat.le_of_ble_eq_true rfl) (Nat.le_of_ble_eq_true rfl) (by decide) (ty_120 hS.1.1) ?_
                                      refine Tr.imp (Tr.deep (by decide) (sp_X12_stateAt_120 hS.1 p21_3 (by omega) p170_7 (by omega))) ?_
                                      rintro M199 _ ⟨h199, r199, rfl, lr199, ur199, z199_0⟩
                                      have hS := St.tr hS h199 (by decide) (by decide)
                                      refine Tr.sc [(0, r199), (0, p170_2)] rfl ?_
                                      have qs199 : rd M187 163 (p170_7 + 2100 * p21_3) = r199 := (congrArg (rd M187 163) (by omega)).trans z199_0.symm
                                      refine Tr.iconst (pc := 202) d_X12_wasted_202 (by decide) ?_
                                      have J216 : ∀ (M : Mem) (q216_1 : Int), St Tru ws_X12_wasted_120_w1 as_X12_wasted_120_w1 M0 M → ((-2147483648) ≤ q216_1 ∧ q216_1 ≤ 2147483647) → rd M 120 85 = r1 → rd M 120 86 = r64 → rd M 120 95 = r91 → rd M 120 97 = r173 → rd M 120 98 = r60 → rd M 126 1 = r30 → rd M 129 1 = w9_129_1 → rd M 163 (p170_7 + 2100 * p21_3) = r199 → Tr l K 2 mX12_wasted 216 [(0, (2, 120)), (1, (0, a1)), (3, (0, p21_3)), (4, (0, r49)), (5, (0, p40_5)), (7, (0, p170_7))] [(0, q216_1), (0, p170_2)] M (q_X12_wasted_120_w1 M0) := by
                                        intro M q216_1 hS bq216_1 k216_120_85 k216_120_86 k216_120_95 k216_120_97 k216_120_98 k216_126_1 k216_129_1 k216_163_p170_71p21_321000
                                        refine Tr.iadd (pc := 216) d_X12_wasted_216 ?_
                                        refine Tr.gen (P := fun v => (-2147483648) ≤ v ∧ v ≤ 2147483647) (w32_b _) (fun r216 er216 br216 => ?_)
                                        refine Tr.istore_n (pc := 217) (i := 2) (ls2 := [(2, (0, r216)), (0, (2, 120)), (1, (0, a1)), (3, (0, p21_3)), (4, (0, r49)), (5, (0, p40_5)), (7, (0, p170_7))]) d_X12_wasted_217 rfl (by decide) rfl ?_
                                        refine Tr.iincV (pc := 218) (n2 := (p170_7 - 1)) (ls2 := [(7, (0, (p170_7 - 1))), (2, (0, r216)), (0, (2, 120)), (1, (0, a1)), (3, (0, p21_3)), (4, (0, r49)), (5, (0, p40_5))]) d_X12_wasted_218 rfl (by decide) ((w32_id (by omega)).trans (by omega)) rfl ?_
                                        refine Tr.goto (pc := 221) (tgt := 170) d_X12_wasted_221 rfl ?_
                                        refine Tr.pick [2, 3, 1, 4, 5, 6, 0] (ls2 := [(0, (2, 120)), (1, (0, a1)), (2, (0, r216)), (3, (0, p21_3)), (4, (0, r49)), (5, (0, p40_5)), (7, (0, (p170_7 - 1)))]) rfl ?_
                                        exact J170 _ _ _ hS (by omega) (by omega) k216_120_85 k216_120_86 k216_120_95 k216_120_98 k216_126_1 k216_129_1 (by omega)
                                      refine Tr.icmp_ne (pc := 203) (tgt := 215) d_X12_wasted_203 rfl (fun c203 => ?_) (fun c203 => ?_)
                                      · refine Tr.iconst (pc := 215) d_X12_wasted_215 (by decide) ?_
                                        refine Tr.pick [0, 1, 3, 4, 5, 6] (ls2 := [(0, (2, 120)), (1, (0, a1)), (3, (0, p21_3)), (4, (0, r49)), (5, (0, p40_5)), (7, (0, p170_7))]) rfl ?_
                                        exact J216 _ _ hS (by omega) ((St.kp h199 (by decide) (by decide) (by decide)).trans ((St.kp h187 (by decide) (by decide) (by decide)).trans k170_120_85)) ((St.kp h199 (by decide) (by decide) (by decide)).trans ((St.kp h187 (by decide) (by decide) (by decide)).trans k170_120_86)) ((St.kp h199 (by decide) (by decide) (by decide)).trans ((St.kp h187 (by decide) (by decide) (by decide)).trans k170_120_95)) ((St.kp h199 (by decide) (by decide) (by decide)).trans ((St.kp h187 (by decide) (by decide) (by decide)).trans er173)) ((St.kp h199 (by decide) (by decide) (by decide)).trans ((St.kp h187 (by decide) (by decide) (by decide)).trans k170_120_98)) ((St.kp h199 (by decide) (by decide) (by decide)).trans ((St.kp h187 (by decide) (by decide) (by decide)).trans k170_126_1)) ((St.kp h199 (by decide) (by decide) (by decide)).trans ((St.kp h187 (by decide) (by decide) (by decide)).trans k170_129_1)) ((St.ka h199 (by decide) (by decide) (by decide)).trans qs199)
                                      · refine Tr.aload_n (pc := 206) (i := 0) d_X12_wasted_206 rfl rfl ?_
                                        refine Tr.iload_n (pc := 207) (i := 3) d_X12_wasted_207 rfl rfl ?_
                                        refine Tr.iconst (pc := 208) d_X12_wasted_208 (by decide) ?_
                                        refine Tr.callV (pc := 209) (as := [_, _]) d_X12_wasted_209 s_12_565 ok_X12_rate rfl rfl (Nat.le_of_ble_eq_true rfl) (Nat.le_of_ble_eq_true rfl) (by decide) (ty_120 hS.1.1) ?_
                                        refine Tr.imp (Tr.deep (by decide) (sp_X12_rate_120_w1 hS.1 ((St.kp hS (by decide) (by decide) (by decide)).trans en_120_12) p21_3 (by omega) 3 (by omega) (Bk1.of hF_Bk1 (fun j => (St.ka hS (by decide) (by decide) (by decide))) (fun j => (St.ka hS (by decide) (by decide) (by decide))) (fun j => (St.ka hS (by decide) (by decide) (by decide))) (fun j => (St.ka hS (by decide) (by decide) (by decide))) (fun j => (St.ka hS (by decide) (by decide) (by decide))) (fun j => (St.ka hS (by decide) (by decide) (by decide))) (fun j => (St.ka hS (by decide) (by decide) (by decide))) (fun j => (St.ka hS (by decide) (by decide) (by decide))) (St.kp hS (by decide) (by decide) (by decide)) (St.kp hS (by decide) (by decide) (by decide)) (St.kp hS (by decide) (by decide) (by decide)) (St.kp hS (by decide) (by decide) (by decide))))) ?_
                                        rintro M209 _ ⟨h209, r209, rfl, lr209, ur209, z209_0⟩
                                        have hS := St.tr hS h209 (by decide) (by decide)
                                        have ka209_126_1 : rd M209 126 1 = r30 := ((St.kp h209 (by decide) (by decide) (by decide)).trans ((St.kp h199 (by decide) (by decide) (by decide)).trans ((St.kp h187 (by decide) (by decide) (by decide)).trans k170_126_1)))
                                        refine Tr.sc [(0, r209), (0, p170_2)] rfl ?_
                                        refine Tr.goto (pc := 212) (tgt := 216) d_X12_wasted_212 rfl ?_
                                        refine Tr.pick [0, 1, 3, 4, 5, 6] (ls2 := [(0, (2, 120)), (1, (0, a1)), (3, (0, p21_3)), (4, (0, r49)), (5, (0, p40_5)), (7, (0, p170_7))]) rfl ?_
                                        exact J216 _ _ hS (by omega) ((St.kp h209 (by decide) (by decide) (by decide)).trans ((St.kp h199 (by decide) (by decide) (by decide)).trans ((St.kp h187 (by decide) (by decide) (by decide)).trans k170_120_85))) ((St.kp h209 (by decide) (by decide) (by decide)).trans ((St.kp h199 (by decide) (by decide) (by decide)).trans ((St.kp h187 (by decide) (by decide) (by decide)).trans k170_120_86))) ((St.kp h209 (by decide) (by decide) (by decide)).trans ((St.kp h199 (by decide) (by decide) (by decide)).trans ((St.kp h187 (by decide) (by decide) (by decide)).trans k170_120_95))) ((St.kp h209 (by decide) (by decide) (by decide)).trans ((St.kp h199 (by decide) (by decide) (by decide)).trans ((St.kp h187 (by decide) (by decide) (by decide)).trans er173))) ((St.kp h209 (by decide) (by decide) (by decide)).trans ((St.kp h199 (by decide) (by decide) (by decide)).trans ((St.kp h187 (by decide) (by decide) (by decide)).trans k170_120_98))) ((St.kp h209 (by decide) (by decide) (by decide)).trans ((St.kp h199 (by decide) (by decide) (by decide)).trans ((St.kp h187 (by decide) (by decide) (by decide)).trans k170_126_1))) ((St.kp h209 (by decide) (by decide) (by decide)).trans ((St.kp h199 (by decide) (by decide) (by decide)).trans ((St.kp h187 (by decide) (by decide) (by decide)).trans k170_129_1))) ((St.ka h209 (by decide) (by decide) (by decide)).trans ((St.ka h199 (by decide) (by decide) (by decide)).trans qs199))
                              refine Tr.pick [1, 2, 3, 4, 5, 6, 0] (ls2 := [(0, (2, 120)), (1, (0, a1)), (2, (0, p40_2)), (3, (0, p21_3)), (4, (0, r49)), (5, (0, p40_5)), (7, (0, (r60 - 1)))]) rfl ?_
                              exact J170 _ _ _ _ hS (by omega) (by omega) k88_120_85 k88_120_86 er91 k88_120_98 k88_126_1 k88_129_1 (Nat.lt_succ_self _)
                            · refine Tr.goto (pc := 159) (tgt := 224) d_X12_wasted_159 rfl ?_
                              refine Tr.pick [0, 1, 2, 3, 4, 5] (ls2 := [(0, (2, 120)), (1, (0, a1)), (2, (0, p40_2)), (3, (0, p21_3)), (4, (0, r49)), (5, (0, p40_5))]) rfl ?_
                              exact J224 _ _ hS (by omega) k88_120_85 k88_126_1 k88_129_1 (by first | assumption | omega)
                          · refine Tr.aload_n (pc := 97) (i := 0) d_X12_wasted_97 rfl rfl ?_
                            refine Tr.getf (pc := 98) d_X12_wasted_98 f_12_243 (by decide) (by decide) (ty_120 hS.1.1) ?_
                            refine Tr.tp 166 (fx_120_76 hS.1.1) ?_
                            refine Tr.iload (pc := 101) (i := 7) d_X12_wasted_101 rfl ?_
                            refine Tr.iald (pc := 103) d_X12_wasted_103 (ty_166 hS.1.1) (by omega) (by omega) ?_
                            refine Tr.gen (P := fun v => 0 ≤ v ∧ v ≤ 5) (ar_166 hS.1.2.1 _) (fun r103 er103 br103 => ?_)
                            refine Tr.iload_n (pc := 104) (i := 3) d_X12_wasted_104 rfl rfl ?_
                            have J147 : ∀ (M : Mem) (p147_6 : Int), St Tru ws_X12_wasted_120_w1 as_X12_wasted_120_w1 M0 M → ((-1) ≤ p147_6 ∧ p147_6 ≤ 59) → rd M 120 85 = r1 → rd M 120 86 = r64 → rd M 120 95 = r91 → rd M 120 98 = r60 → rd M 126 1 = r30 → rd M 129 1 = w9_129_1 → rd M 166 p88_7 = r103 → Tr l K 2 mX12_wasted 147 [(0, (2, 120)), (1, (0, a1)), (2, (0, p40_2)), (3, (0, p21_3)), (4, (0, r49)), (5, (0, p40_5)), (6, (0, p147_6)), (7, (0, p88_7))] [] M (q_X12_wasted_120_w1 M0) := by
                              intro M p147_6 hS bp147_6 k147_120_85 k147_120_86 k147_120_95 k147_120_98 k147_126_1 k147_129_1 k147_166_p88_710
                              refine Tr.iincV (pc := 147) (n2 := (p88_7 + 1)) (ls2 := [(7, (0, (p88_7 + 1))), (0, (2, 120)), (1, (0, a1)), (2, (0, p40_2)), (3, (0, p21_3)), (4, (0, r49)), (5, (0, p40_5)), (6, (0, p147_6))]) d_X12_wasted_147 rfl (by decide) ((w32_id (by omega)).trans (by omega)) rfl ?_
                              refine Tr.goto (pc := 150) (tgt := 88) d_X12_wasted_150 rfl ?_
                              refine Tr.pick [1, 2, 3, 4, 5, 6, 7, 0] (ls2 := [(0, (2, 120)), (1, (0, a1)), (2, (0, p40_2)), (3, (0, p21_3)), (4, (0, r49)), (5, (0, p40_5)), (6, (0, p147_6)), (7, (0, (p88_7 + 1)))]) rfl ?_
                              exact J88 _ _ _ hS (by omega) (by omega) k147_120_85 k147_120_86 k147_120_98 k147_126_1 k147_129_1 (by omega)
                            refine Tr.icmp_ne (pc := 105) (tgt := 147) d_X12_wasted_105 rfl (fun c105 => ?_) (fun c105 => ?_)
                            · refine Tr.pick [0, 1, 2, 3, 4, 5, 6, 7] (ls2 := [(0, (2, 120)), (1, (0, a1)), (2, (0, p40_2)), (3, (0, p21_3)), (4, (0, r49)), (5, (0, p40_5)), (6, (0, p88_6)), (7, (0, p88_7))]) rfl ?_
                              exact J147 _ _ hS (by omega) k88_120_85 k88_120_86 er91 k88_120_98 k88_126_1 k88_129_1 er103
                            · refine Tr.aload_n (pc := 108) (i := 0) d_X12_wasted_108 rfl rfl ?_
                              refine Tr.getf (pc := 109) d_X12_wasted_109 f_12_249 (by decide) (by decide) (ty_120 hS.1.1) ?_
                              refine Tr.tp 168 (fx_120_78 hS.1.1) ?_
                              refine Tr.iload (pc := 112) (i := 7) d_X12_wasted_112 rfl ?_
                              refine Tr.iald (pc := 114) d_X12_wasted_114 (ty_168 hS.1.1) (by omega) (by omega) ?_
                              refine Tr.gen (P := fun v => (-2147483648) ≤ v ∧ v ≤ 2147483647) (ar_168 hS.1.2.1 _) (fun r114 er114 br114 => ?_)
                              refine Tr.aload_n (pc := 115) (i := 0) d_X12_wasted_115 rfl rfl ?_
                              refine Tr.getf (pc := 116) d_X12_wasted_116 f_12_306 (by decide) (by decide) (ty_120 hS.1.1) ?_
                              refine Tr.gen (P := fun v => 0 ≤ v ∧ v ≤ 2100) (ir_120_97 hS.1.2.1) (fun r116 er116 br116 => ?_)
                              refine Tr.iconst (pc := 119) d_X12_wasted_119 (by decide) ?_
                              refine Tr.isub (pc := 120) d_X12_wasted_120 ?_
                              refine Tr.tp (r116 - 1) ((w32_id (by omega)).trans (by omega)) ?_
                              refine Tr.icmp_lt (pc := 121) (tgt := 147) d_X12_wasted_121 rfl (fun c121 => ?_) (fun c121 => ?_)
                              · refine Tr.pick [0, 1, 2, 3, 4, 5, 6, 7] (ls2 := [(0, (2, 120)), (1, (0, a1)), (2, (0, p40_2)), (3, (0, p21_3)), (4, (0, r49)), (5, (0, p40_5)), (6, (0, p88_6)), (7, (0, p88_7))]) rfl ?_
                                exact J147 _ _ hS (by omega) k88_120_85 k88_120_86 er91 k88_120_98 k88_126_1 k88_129_1 er103
                              · refine Tr.aload_n (pc := 124) (i := 0) d_X12_wasted_124 rfl rfl ?_
                                refine Tr.getf (pc := 125) d_X12_wasted_125 f_12_249 (by decide) (by decide) (ty_120 hS.1.1) ?_
                                refine Tr.tp 168 (fx_120_78 hS.1.1) ?_
                                refine Tr.iload (pc := 128) (i := 7) d_X12_wasted_128 rfl ?_
                                refine Tr.iald (pc := 130) d_X12_wasted_130 (ty_168 hS.1.1) (by omega) (by omega) ?_
                                refine Tr.tp r114 er114 ?_
                                refine Tr.aload_n (pc := 131) (i := 0) d_X12_wasted_131 rfl rfl ?_
                                refine Tr.getf (pc := 132) d_X12_wasted_132 f_12_309 (by decide) (by decide) (ty_120 hS.1.1) ?_
                                refine Tr.tp r60 k88_120_98 ?_
                                refine Tr.icmp_ge (pc := 135) (tgt := 147) d_X12_wasted_135 rfl (fun c135 => ?_) (fun c135 => ?_)
                                · refine Tr.pick [0, 1, 2, 3, 4, 5, 6, 7] (ls2 := [(0, (2, 120)), (1, (0, a1)), (2, (0, p40_2)), (3, (0, p21_3)), (4, (0, r49)), (5, (0, p40_5)), (6, (0, p88_6)), (7, (0, p88_7))]) rfl ?_
                                  exact J147 _ _ hS (by omega) k88_120_85 k88_120_86 er91 k88_120_98 k88_126_1 k88_129_1 er103
                                · refine Tr.aload_n (pc := 138) (i := 0) d_X12_wasted_138 rfl rfl ?_
                                  refine Tr.getf (pc := 139) d_X12_wasted_139 f_12_246 (by decide) (by decide) (ty_120 hS.1.1) ?_
                                  refine Tr.tp 167 (fx_120_77 hS.1.1) ?_
                                  refine Tr.iload (pc := 142) (i := 7) d_X12_wasted_142 rfl ?_
                                  refine Tr.iald (pc := 144) d_X12_wasted_144 (ty_167 hS.1.1) (by omega) (by omega) ?_
                                  refine Tr.gen (P := fun v => (-1) ≤ v ∧ v ≤ 59) (ar_167 hS.1.2.1 _) (fun r144 er144 br144 => ?_)
                                  refine Tr.istore (pc := 145) (i := 6) (ls2 := [(6, (0, r144)), (0, (2, 120)), (1, (0, a1)), (2, (0, p40_2)), (3, (0, p21_3)), (4, (0, r49)), (5, (0, p40_5)), (7, (0, p88_7))]) d_X12_wasted_145 (by decide) rfl ?_
                                  refine Tr.pick [1, 2, 3, 4, 5, 6, 0, 7] (ls2 := [(0, (2, 120)), (1, (0, a1)), (2, (0, p40_2)), (3, (0, p21_3)), (4, (0, r49)), (5, (0, p40_5)), (6, (0, r144)), (7, (0, p88_7))]) rfl ?_
                                  exact J147 _ _ hS (by omega) k88_120_85 k88_120_86 er91 k88_120_98 k88_126_1 k88_129_1 er103
                      refine Tr.pick [2, 3, 4, 5, 6, 7, 1, 0] (ls2 := [(0, (2, 120)), (1, (0, a1)), (2, (0, p40_2)), (3, (0, p21_3)), (4, (0, r49)), (5, (0, p40_5)), (6, (0, (-1))), (7, (0, 0))]) rfl ?_
                      exact J88 _ _ _ _ hS (by omega) (by omega) k82_120_85 k82_120_86 k82_120_98 k82_126_1 k82_129_1 (Nat.lt_succ_self _)
                    refine Tr.icmp_ne (pc := 67) (tgt := 82) d_X12_wasted_67 rfl (fun c67 => ?_) (fun c67 => ?_)
                    · refine Tr.pick [1, 2, 3, 4, 0, 5] (ls2 := [(0, (2, 120)), (1, (0, a1)), (2, (0, p40_2)), (3, (0, p21_3)), (4, (0, r49)), (5, (0, p40_5))]) rfl ?_
                      exact J82 _ hS ((St.kp h49 (by decide) (by decide) (by decide)).trans k40_120_85) er64 er60 ((St.kp h49 (by decide) (by decide) (by decide)).trans k40_126_1) ((St.kp h49 (by decide) (by decide) (by decide)).trans k40_129_1)
                    · refine Tr.aload_n (pc := 70) (i := 0) d_X12_wasted_70 rfl rfl ?_
                      refine Tr.getf (pc := 71) d_X12_wasted_71 f_12_297 (by decide) (by decide) (ty_120 hS.1.1) ?_
                      refine Tr.tp 175 (fx_120_94 hS.1.1) ?_
                      refine Tr.iload_n (pc := 74) (i := 3) d_X12_wasted_74 rfl rfl ?_
                      refine Tr.zald (pc := 75) d_X12_wasted_75 (ty_175 hS.1.1) (by omega) (by omega) ?_
                      refine Tr.gen (P := fun v => 0 ≤ v ∧ v ≤ 1) (ar_175 hS.1.2.1 _) (fun r75 er75 br75 => ?_)
                      refine Tr.if_ne (pc := 76) (tgt := 82) d_X12_wasted_76 rfl (fun c76 => ?_) (fun c76 => ?_)
                      · refine Tr.pick [1, 2, 3, 4, 0, 5] (ls2 := [(0, (2, 120)), (1, (0, a1)), (2, (0, p40_2)), (3, (0, p21_3)), (4, (0, r49)), (5, (0, p40_5))]) rfl ?_
                        exact J82 _ hS ((St.kp h49 (by decide) (by decide) (by decide)).trans k40_120_85) er64 er60 ((St.kp h49 (by decide) (by decide) (by decide)).trans k40_126_1) ((St.kp h49 (by decide) (by decide) (by decide)).trans k40_129_1)
                      · refine Tr.goto (pc := 79) (tgt := 224) d_X12_wasted_79 rfl ?_
                        refine Tr.pick [1, 2, 3, 4, 0, 5] (ls2 := [(0, (2, 120)), (1, (0, a1)), (2, (0, p40_2)), (3, (0, p21_3)), (4, (0, r49)), (5, (0, p40_5))]) rfl ?_
                        exact J224 _ _ hS (by omega) ((St.kp h49 (by decide) (by decide) (by decide)).trans k40_120_85) ((St.kp h49 (by decide) (by decide) (by decide)).trans k40_126_1) ((St.kp h49 (by decide) (by decide) (by decide)).trans k40_129_1) (by first | assumption | omega)
            refine Tr.pick [2, 3, 4, 5, 1, 0] (ls2 := [(0, (2, 120)), (1, (0, a1)), (2, (0, p21_2)), (3, (0, p21_3)), (4, (0, 1)), (5, (0, 0))]) rfl ?_
            exact J40 _ _ _ _ _ hS (by omega) (by omega) (by omega) k21_120_85 er30 k21_129_1 (by first | assumption | omega) (Nat.lt_succ_self _)
      refine Tr.pick [2, 3, 1, 0] (ls2 := [(0, (2, 120)), (1, (0, a1)), (2, (0, 0)), (3, (0, 0))]) rfl ?_
      exact J21 _ _ _ _ hS (by omega) (by omega) ((St.kp h9 (by decide) (by decide) (by decide)).trans er1) ew9_129_1 (Nat.lt_succ_self _)
    · refine Tr.iconst (pc := 15) d_X12_wasted_15 (by decide) ?_
      exact Tr.iret (pc := 16) d_X12_wasted_16 rfl ⟨hS, _, rfl, by omega, by omega⟩
end
/-! 40.02 -/
section
def ws_X12_where_120_w1 : List (Int × Int) := []
def as_X12_where_120_w1 : List Int := []
def q_X12_where_120_w1 (M0 M' : Mem) (r : Option PV) : Prop := St Tru ws_X12_where_120_w1 as_X12_where_120_w1 M0 M' ∧ ∃ v : Int, r = some (0, v) ∧ (-2147483648) ≤ v ∧ v ≤ 2147483647
set_option maxRecDepth 100000 in
set_option maxHeartbeats 4000000 in
theorem sp_X12_where_120_w1 {l : Launch} {K : EC} {M0 : Mem} (hI : In Tru M0) (en_120_12 : rd M0 120 12 = 1) (a1 : Int) (ha1 : (-2147483648) ≤ a1 ∧ a1 ≤ 2147483647)  : Tr l K 2 mX12_where 0 [(0, (2, 120)), (1, (0, a1))] [] M0 (q_X12_where_120_w1 M0) := by
  have hS : St Tru ws_X12_where_120_w1 as_X12_where_120_w1 M0 M0 := St.rf hI
  refine Tr.aload_n (pc := 0) (i := 0) d_X12_where_0 rfl rfl ?_
  refine Tr.getz (pc := 1) d_X12_where_1 f_12_327 (by decide) (ty_120 hS.1.1) ?_
  refine Tr.gen (P := fun v => 0 ≤ v ∧ v ≤ 1) (ir_120_104 hS.1.2.1) (fun r1 er1 br1 => ?_)
  refine Tr.if_eq (pc := 4) (tgt := 24) d_X12_where_4 rfl (fun c4 => ?_) (fun c4 => ?_)
  · refine Tr.iconst (pc := 24) d_X12_where_24 (by decide) ?_
    exact Tr.iret (pc := 25) d_X12_where_25 rfl ⟨hS, _, rfl, by omega, by omega⟩
  · refine Tr.aload_n (pc := 7) (i := 0) d_X12_where_7 rfl rfl ?_
    refine Tr.iload_n (pc := 8) (i := 1) d_X12_where_8 rfl rfl ?_
    refine Tr.callV (pc := 9) (as := [_]) d_X12_where_9 s_12_562 ok_X12_isInput rfl rfl (Nat.le_of_ble_eq_true rfl) (Nat.le_of_ble_eq_true rfl) (by decide) (ty_120 hS.1.1) ?_
    refine Tr.imp (Tr.deep (by decide) (sp_X12_isInput_120_w1 hS.1 ((St.kp hS (by decide) (by decide) (by decide)).trans en_120_12) a1 (by omega))) ?_
    rintro M9 _ ⟨h9, r9, rfl, lr9, ur9, z9_0⟩
    have hS := St.tr hS h9 (by decide) (by decide)
    obtain ⟨w9_127_1, ew9_127_1⟩ : ∃ v, rd M9 127 1 = v := ⟨_, rfl⟩
    have bw9_127_1 : 0 ≤ w9_127_1 ∧ w9_127_1 ≤ 3 := by rw [← ew9_127_1]; exact ir_127_1 hS.1.2.1
    have ka9_127_1 : rd M9 127 1 = w9_127_1 := ew9_127_1
    refine Tr.sc [(0, r9)] rfl ?_
    refine Tr.if_eq (pc := 12) (tgt := 24) d_X12_where_12 rfl (fun c12 => ?_) (fun c12 => ?_)
    · refine Tr.iconst (pc := 24) d_X12_where_24 (by decide) ?_
      exact Tr.iret (pc := 25) d_X12_where_25 rfl ⟨hS, _, rfl, by omega, by omega⟩
    · refine Tr.aload_n (pc := 15) (i := 0) d_X12_where_15 rfl rfl ?_
      refine Tr.getf (pc := 16) d_X12_where_16 f_12_330 (by decide) (by decide) (ty_120 hS.1.1) ?_
      refine Tr.tp 179 (fx_120_105 hS.1.1) ?_
      refine Tr.iload_n (pc := 19) (i := 1) d_X12_where_19 rfl rfl ?_
      refine Tr.iald (pc := 20) d_X12_where_20 (ty_179 hS.1.1) (by omega) (by omega) ?_
      refine Tr.gen (P := fun v => (-2147483648) ≤ v ∧ v ≤ 2147483647) (ar_179 hS.1.2.1 _) (fun r20 er20 br20 => ?_)
      refine Tr.goto (pc := 21) (tgt := 25) d_X12_where_21 rfl ?_
      exact Tr.iret (pc := 25) d_X12_where_25 rfl ⟨hS, _, rfl, by omega, by omega⟩

def ws_X12_tick_120_w2 : List (Int × Int) := [(120, 62), (120, 63), (120, 68)]
def as_X12_tick_120_w2 : List Int := [158, 161, 162, 163, 164, 165]
def q_X12_tick_120_w2 (a1 : Int) (M0 M' : Mem) (r : Option PV) : Prop := St Tb1 ws_X12_tick_120_w2 as_X12_tick_120_w2 M0 M' ∧ ∃ v : Int, r = some (0, v) ∧ 0 ≤ v ∧ v ≤ 1 ∧ ((v = 1 ∧ rd M' 120 62 = rd M0 120 62 + 1 ∧ (a1 = -1 ∨ rd M' 120 62 ≤ 2000)) ∨ (v = 0 ∧ rd M' 120 62 = rd M0 120 62 ∧ 1 ≤ rd M' 120 68)) ∧ (a1 ≠ -1 ∨ rd M' 120 68 = rd M0 120 68) ∧ (rd M' 120 59 = rd M0 120 59)
set_option maxRecDepth 100000 in
set_option maxHeartbeats 4000000 in
theorem sp_X12_tick_120_w2 {l : Launch} {K : EC} {M0 : Mem} (hI : In Tb1 M0) (en_120_12 : rd M0 120 12 = 1) (a1 : Int) (ha1 : 0 ≤ a1 ∧ a1 ≤ 59)  (hq0 : rd M0 120 61 ≠ 2 ∨ rd M0 120 59 = -1) (hq1 : rd M0 120 62 ≤ 2000 ∨ (a1 = -1 ∧ rd M0 120 62 ≤ 2049)) (hF_Bk1 : Bk1 M0) : Tr l K 3 mX12_tick 0 [(0, (2, 120)), (1, (0, a1))] [] M0 (q_X12_tick_120_w2 a1 M0) := by
  have hS : St Tb1 ws_X12_tick_120_w2 as_X12_tick_120_w2 M0 M0 := St.rf hI
  obtain ⟨g120_62, eg120_62⟩ : ∃ v, rd M0 120 62 = v := ⟨_, rfl⟩
  have bg120_62 : 0 ≤ g120_62 ∧ g120_62 ≤ 2060 := by rw [← eg120_62]; exact ir_120_62 hI.2.1
  obtain ⟨g120_68, eg120_68⟩ : ∃ v, rd M0 120 68 = v := ⟨_, rfl⟩
  have bg120_68 : 0 ≤ g120_68 ∧ g120_68 ≤ 2 := by rw [← eg120_68]; exact ir_120_68 hI.2.1
  obtain ⟨g120_59, eg120_59⟩ : ∃ v, rd M0 120 59 = v := ⟨_, rfl⟩
  have bg120_59 : (-1) ≤ g120_59 ∧ g120_59 ≤ 5 := by rw [← eg120_59]; exact ir_120_59 hI.2.1
  obtain ⟨g126_1, eg126_1⟩ : ∃ v, rd M0 126 1 = v := ⟨_, rfl⟩
  have bg126_1 : 0 ≤ g126_1 ∧ g126_1 ≤ 6 := by rw [← eg126_1]; exact ir_126_1 hI.2.1
  obtain ⟨g120_61, eg120_61⟩ : ∃ v, rd M0 120 61 = v := ⟨_, rfl⟩
  have bg120_61 : 0 ≤ g120_61 ∧ g120_61 ≤ 3 := by rw [← eg120_61]; exact ir_120_61 hI.2.1
  refine Tr.iload_n (pc := 0) (i := 1) d_X12_tick_0 rfl rfl ?_
  refine Tr.iconst (pc := 1) d_X12_tick_1 (by decide) ?_
  have J20 : ∀ (M : Mem) (u20_120_68 : Int), St Tb1 ws_X12_tick_120_w2 as_X12_tick_120_w2 M0 M → (0 ≤ u20_120_68 ∧ u20_120_68 ≤ 2) → rd M 120 59 = g120_59 → rd M 120 61 = g120_61 → rd M 120 62 = g120_62 → rd M 120 68 = u20_120_68 → rd M 126 1 = g126_1 → (a1 = -1 ∨ g120_62 ≠ 2000 ∨ 1 ≤ u20_120_68) → (a1 ≠ -1 ∨ u20_120_68 = g120_68) → Tr l K 3 mX12_tick 20 [(0, (2, 120)), (1, (0, a1))] [] M (q_X12_tick_120_w2 a1 M0) := by
    intro M u20_120_68 hS bu20_120_68 k20_120_59 k20_120_61 k20_120_62 k20_120_68 k20_126_1 t20_0 t20_1
    refine Tr.iload_n (pc := 20) (i := 1) d_X12_tick_20 rfl rfl ?_
    refine Tr.iconst (pc := 21) d_X12_tick_21 (by decide) ?_
    refine Tr.icmp_ne (pc := 22) (tgt := 29) d_X12_tick_22 rfl (fun _ => ?_) (fun hc => absurd hc (by omega))
    refine Tr.aload_n (pc := 29) (i := 0) d_X12_tick_29 rfl rfl ?_
    refine Tr.getf (pc := 30) d_X12_tick_30 f_12_51 (by decide) (by decide) (ty_120 hS.1.1) ?_
    refine Tr.tp 122 (fx_120_13 hS.1.1) ?_
    refine Tr.aload_n (pc := 33) (i := 0) d_X12_tick_33 rfl rfl ?_
    refine Tr.getf (pc := 34) d_X12_tick_34 f_12_48 (by decide) (by decide) (ty_120 hS.1.1) ?_
    refine Tr.tp 1 ((St.kp hS (by decide) (by decide) (by decide)).trans en_120_12) ?_
    refine Tr.iald (pc := 37) d_X12_tick_37 (ty_122 hS.1.1) (by omega) (by omega) ?_
    refine Tr.gen (P := fun v => (-2147483648) ≤ v ∧ v ≤ 2147483647) (ir_122_1 hS.1.2.1) (fun r37 er37 br37 => ?_)
    refine Tr.i2l (pc := 38) d_X12_tick_38 ?_
    refine Tr.lstore_n (pc := 39) (i := 2) (ls2 := [(2, (1, r37)), (0, (2, 120)), (1, (0, a1))]) d_X12_tick_39 rfl (by decide) rfl ?_
    refine Tr.iconst (pc := 40) d_X12_tick_40 (by decide) ?_
    refine Tr.istore (pc := 41) (i := 4) (ls2 := [(4, (0, 0)), (2, (1, r37)), (0, (2, 120)), (1, (0, a1))]) d_X12_tick_41 (by decide) rfl ?_
    have J43 : ∀ (n43 : Nat) (M : Mem) (p43_2 p43_4 : Int), St Tb1 ws_X12_tick_120_w2 as_X12_tick_120_w2 M0 M → ((-9223372036854775808) ≤ p43_2 ∧ p43_2 ≤ 9223372036854775807) → (0 ≤ p43_4 ∧ p43_4 ≤ 6) → rd M 120 59 = g120_59 → rd M 120 61 = g120_61 → rd M 120 62 = g120_62 → rd M 120 68 = u20_120_68 → rd M 122 1 = r37 → rd M 126 1 = g126_1 → (6 - p43_4).toNat < n43 → Tr l K 3 mX12_tick 43 [(0, (2, 120)), (1, (0, a1)), (2, (1, p43_2)), (4, (0, p43_4))] [] M (q_X12_tick_120_w2 a1 M0) := by
      intro n43
      induction n43 with
      | zero => intro M p43_2 p43_4 hS bp43_2 bp43_4 k43_120_59 k43_120_61 k43_120_62 k43_120_68 k43_122_1 k43_126_1 hm43; exact absurd hm43 (Nat.not_lt_zero _)
      | succ n43 J43 =>
        intro M p43_2 p43_4 hS bp43_2 bp43_4 k43_120_59 k43_120_61 k43_120_62 k43_120_68 k43_122_1 k43_126_1 hm43
        refine Tr.iload (pc := 43) (i := 4) d_X12_tick_43 rfl ?_
        refine Tr.aload_n (pc := 45) (i := 0) d_X12_tick_45 rfl rfl ?_
        refine Tr.getf (pc := 46) d_X12_tick_46 f_12_63 (by decide) (by decide) (ty_120 hS.1.1) ?_
        refine Tr.tp 126 (fx_120_17 hS.1.1) ?_
        refine Tr.aload_n (pc := 49) (i := 0) d_X12_tick_49 rfl rfl ?_
        refine Tr.getf (pc := 50) d_X12_tick_50 f_12_48 (by decide) (by decide) (ty_120 hS.1.1) ?_
        refine Tr.tp 1 ((St.kp hS (by decide) (by decide) (by decide)).trans en_120_12) ?_
        refine Tr.iald (pc := 53) d_X12_tick_53 (ty_126 hS.1.1) (by omega) (by omega) ?_
        refine Tr.tp g126_1 k43_126_1 ?_
        refine Tr.icmp_ge (pc := 54) (tgt := 79) d_X12_tick_54 rfl (fun c54 => ?_) (fun c54 => ?_)
        · refine Tr.aload_n (pc := 79) (i := 0) d_X12_tick_79 rfl rfl ?_
          refine Tr.getf (pc := 80) d_X12_tick_80 f_12_219 (by decide) (by decide) (ty_120 hS.1.1) ?_
          refine Tr.tp u20_120_68 k43_120_68 ?_
          have J119 : ∀ (M : Mem) (u119_120_68 : Int), St Tb1 ws_X12_tick_120_w2 as_X12_tick_120_w2 M0 M → (0 ≤ u119_120_68 ∧ u119_120_68 ≤ 2) → rd M 120 59 = g120_59 → rd M 120 61 = g120_61 → rd M 120 62 = g120_62 → rd M 120 68 = u119_120_68 → rd M 122 1 = r37 → rd M 126 1 = g126_1 → (a1 = -1 ∨ g120_62 ≠ 2000 ∨ 1 ≤ u119_120_68) → (a1 ≠ -1 ∨ u119_120_68 = g120_68) → Tr l K 3 mX12_tick 119 [(0, (2, 120)), (1, (0, a1)), (2, (1, p43_2))] [] M (q_X12_tick_120_w2 a1 M0) := by
            intro M u119_120_68 hS bu119_120_68 k119_120_59 k119_120_61 k119_120_62 k119_120_68 k119_122_1 k119_126_1 t119_0 t119_1
            refine Tr.aload_n (pc := 119) (i := 0) d_X12_tick_119 rfl rfl ?_
            refine Tr.getf (pc := 120) d_X12_tick_120 f_12_219 (by decide) (by decide) (ty_120 hS.1.1) ?_
            refine Tr.tp u119_120_68 k119_120_68 ?_
            refine Tr.if_le (pc := 123) (tgt := 128) d_X12_tick_123 rfl (fun c123 => ?_) (fun c123 => ?_)
            · refine Tr.iconst (pc := 128) d_X12_tick_128 (by decide) ?_
              refine Tr.istore (pc := 129) (i := 4) (ls2 := [(4, (0, 0)), (0, (2, 120)), (1, (0, a1)), (2, (1, p43_2))]) d_X12_tick_129 (by decide) rfl ?_
              have J131 : ∀ (n131 : Nat) (M : Mem) (p131_4 : Int), St Tb1 ws_X12_tick_120_w2 as_X12_tick_120_w2 M0 M → (0 ≤ p131_4 ∧ p131_4 ≤ 6) → rd M 120 59 = g120_59 → rd M 120 61 = g120_61 → rd M 120 62 = g120_62 → rd M 120 68 = u119_120_68 → rd M 122 1 = r37 → rd M 126 1 = g126_1 → (6 - p131_4).toNat < n131 → Tr l K 3 mX12_tick 131 [(0, (2, 120)), (1, (0, a1)), (2, (1, p43_2)), (4, (0, p131_4))] [] M (q_X12_tick_120_w2 a1 M0) := by
                intro n131
                induction n131 with
                | zero => intro M p131_4 hS bp131_4 k131_120_59 k131_120_61 k131_120_62 k131_120_68 k131_122_1 k131_126_1 hm131; exact absurd hm131 (Nat.not_lt_zero _)
                | succ n131 J131 =>
                  intro M p131_4 hS bp131_4 k131_120_59 k131_120_61 k131_120_62 k131_120_68 k131_122_1 k131_126_1 hm131
                  refine Tr.iload (pc := 131) (i := 4) d_X12_tick_131 rfl ?_
                  refine Tr.aload_n (pc := 133) (i := 0) d_X12_tick_133 rfl rfl ?_
                  refine Tr.getf (pc := 134) d_X12_tick_134 f_12_63 (by decide) (by decide) (ty_120 hS.1.1) ?_
                  refine Tr.tp 126 (fx_120_17 hS.1.1) ?_
                  refine Tr.aload_n (pc := 137) (i := 0) d_X12_tick_137 rfl rfl ?_
                  refine Tr.getf (pc := 138) d_X12_tick_138 f_12_48 (by decide) (by decide) (ty_120 hS.1.1) ?_
                  refine Tr.tp 1 ((St.kp hS (by decide) (by decide) (by decide)).trans en_120_12) ?_
                  refine Tr.iald (pc := 141) d_X12_tick_141 (ty_126 hS.1.1) (by omega) (by omega) ?_
                  refine Tr.tp g126_1 k131_126_1 ?_
                  refine Tr.icmp_ge (pc := 142) (tgt := 297) d_X12_tick_142 rfl (fun c142 => ?_) (fun c142 => ?_)
                  · refine Tr.aload_n (pc := 297) (i := 0) d_X12_tick_297 rfl rfl ?_
                    refine Tr.getz (pc := 298) d_X12_tick_298 f_12_225 (by decide) (ty_120 hS.1.1) ?_
                    refine Tr.gen (P := fun v => 0 ≤ v ∧ v ≤ 1) (ir_120_70 hS.1.2.1) (fun r298 er298 br298 => ?_)
                    have J314 : ∀ (M : Mem), St Tb1 ws_X12_tick_120_w2 as_X12_tick_120_w2 M0 M → rd M 120 59 = g120_59 → rd M 120 61 = g120_61 → rd M 120 62 = g120_62 → rd M 120 68 = u119_120_68 → rd M 120 70 = r298 → rd M 122 1 = r37 → rd M 126 1 = g126_1 → Tr l K 3 mX12_tick 314 [(0, (2, 120)), (2, (1, p43_2))] [] M (q_X12_tick_120_w2 a1 M0) := by
                      intro M  hS  k314_120_59 k314_120_61 k314_120_62 k314_120_68 k314_120_70 k314_122_1 k314_126_1
                      refine Tr.aload_n (pc := 314) (i := 0) d_X12_tick_314 rfl rfl ?_
                      refine Tr.dup (pc := 315) d_X12_tick_315 ne21 ?_
                      refine Tr.getf (pc := 316) d_X12_tick_316 f_12_204 (by decide) (by decide) (ty_120 hS.1.1) ?_
                      refine Tr.gen (P := fun v => (-9223372036854775808) ≤ v ∧ v ≤ 9223372036854775807) (ir_120_63 hS.1.2.1) (fun r316 er316 br316 => ?_)
                      refine Tr.lload_n (pc := 319) (i := 2) d_X12_tick_319 rfl rfl ?_
                      refine Tr.ladd (pc := 320) d_X12_tick_320 ?_
                      refine Tr.gen (P := fun v => (-9223372036854775808) ≤ v ∧ v ≤ 9223372036854775807) (w64_b _) (fun r320 er320 br320 => ?_)
                      refine Tr.putfS (pc := 321) (P := St Tb1 ws_X12_tick_120_w2 as_X12_tick_120_w2 M0) d_X12_tick_321 f_12_204 (by decide) (by decide) (ty_120 hS.1.1) (st_120_63 hS (by decide) (by omega) (Tb1.of hS.1.2.2.2.2 (fun _ => rd_wb _ rfl) (rd_wb _ rfl))) (fun M321 hS w321 => ?_)
                      refine Tr.aload_n (pc := 324) (i := 0) d_X12_tick_324 rfl rfl ?_
                      refine Tr.dup (pc := 325) d_X12_tick_325 ne21 ?_
                      refine Tr.getf (pc := 326) d_X12_tick_326 f_12_201 (by decide) (by decide) (ty_120 hS.1.1) ?_
                      refine Tr.tp g120_62 ((Wr.b w321 rfl).trans k314_120_62) ?_
                      refine Tr.iconst (pc := 329) d_X12_tick_329 (by decide) ?_
                      refine Tr.iadd (pc := 330) d_X12_tick_330 ?_
                      refine Tr.tp (g120_62 + 1) ((w32_id (by omega)).trans (by omega)) ?_
                      refine Tr.putfS (pc := 331) (P := St Tb1 ws_X12_tick_120_w2 as_X12_tick_120_w2 M0) d_X12_tick_331 f_12_201 (by decide) (by decide) (ty_120 hS.1.1) (st_120_62 hS (by decide) (by omega) (Tb1.of hS.1.2.2.2.2 (fun _ => rd_wb _ rfl) (rd_wb _ rfl))) (fun M331 hS w331 => ?_)
                      refine Tr.iconst (pc := 334) d_X12_tick_334 (by decide) ?_
                      have kr_120_59 : rd M331 120 59 = g120_59 := ((Wr.b w331 rfl).trans ((Wr.b w321 rfl).trans k314_120_59))
                      have kr_120_62 : rd M331 120 62 = (g120_62 + 1) := w331.1
                      have kr_120_68 : rd M331 120 68 = u119_120_68 := ((Wr.b w331 rfl).trans ((Wr.b w321 rfl).trans k314_120_68))
                      exact Tr.zret (pc := 335) d_X12_tick_335 rfl (by omega) ⟨hS, _, rfl, by omega, by omega, by omega, by omega, by omega⟩
                    refine Tr.if_eq (pc := 301) (tgt := 314) d_X12_tick_301 rfl (fun c301 => ?_) (fun c301 => ?_)
                    · refine Tr.pick [0, 2] (ls2 := [(0, (2, 120)), (2, (1, p43_2))]) rfl ?_
                      exact J314 _ hS k131_120_59 k131_120_61 k131_120_62 k131_120_68 er298 k131_122_1 k131_126_1
                    · refine Tr.aload_n (pc := 304) (i := 0) d_X12_tick_304 rfl rfl ?_
                      refine Tr.getf (pc := 305) d_X12_tick_305 f_12_228 (by decide) (by decide) (ty_120 hS.1.1) ?_
                      refine Tr.tp 162 (fx_120_71 hS.1.1) ?_
                      refine Tr.aload_n (pc := 308) (i := 0) d_X12_tick_308 rfl rfl ?_
                      refine Tr.getf (pc := 309) d_X12_tick_309 f_12_201 (by decide) (by decide) (ty_120 hS.1.1) ?_
                      refine Tr.tp g120_62 k131_120_62 ?_
                      refine Tr.iload_n (pc := 312) (i := 1) d_X12_tick_312 rfl rfl ?_
                      refine Tr.iastS (pc := 313) (P := St Tb1 ws_X12_tick_120_w2 as_X12_tick_120_w2 M0) d_X12_tick_313 (ty_162 hS.1.1) (by omega) (by omega) (sa_162 hS (by decide) (by omega) (Tb1.of hS.1.2.2.2.2 (fun _ => rd_wb _ rfl) (rd_wb _ rfl))) (fun M313 hS w313 => ?_)
                      refine Tr.pick [0, 2] (ls2 := [(0, (2, 120)), (2, (1, p43_2))]) rfl ?_
                      exact J314 _ hS ((Wr.b w313 rfl).trans k131_120_59) ((Wr.b w313 rfl).trans k131_120_61) ((Wr.b w313 rfl).trans k131_120_62) ((Wr.b w313 rfl).trans k131_120_68) ((Wr.b w313 rfl).trans er298) ((Wr.b w313 rfl).trans k131_122_1) ((Wr.b w313 rfl).trans k131_126_1)
                  · refine Tr.aload_n (pc := 145) (i := 0) d_X12_tick_145 rfl rfl ?_
                    refine Tr.iload (pc := 146) (i := 4) d_X12_tick_146 rfl ?_
                    refine Tr.callV (pc := 148) (as := [_]) d_X12_tick_148 s_12_571 ok_X12_stateOf rfl rfl (Nat.le_of_ble_eq_true rfl) (Nat.le_of_ble_eq_true rfl) (by decide) (ty_120 hS.1.1) ?_
                    refine Tr.imp (Tr.deep (by decide) (sp_X12_stateOf_120 hS.1.wk p131_4 (by omega))) ?_
                    rintro M148 _ ⟨h148, r148, rfl, lr148, ur148, z148_0⟩
                    have h148 := St.rn h148 (Tb1.of hS.1.2.2.2.2 (fun _ => (St.ka h148 (by decide) (by decide) (by decide))) (St.kp h148 (by decide) (by decide) (by decide)))
                    have hS := St.tr hS h148 (by decide) (by decide)
                    have ka148_120_59 : rd M148 120 59 = g120_59 := ((St.kp h148 (by decide) (by decide) (by decide)).trans k131_120_59)
                    have ka148_120_61 : rd M148 120 61 = g120_61 := ((St.kp h148 (by decide) (by decide) (by decide)).trans k131_120_61)
                    refine Tr.sc [(0, r148)] rfl ?_
                    obtain ⟨th156, eth156⟩ : ∃ v, rd M 156 p131_4 = v := ⟨_, rfl⟩
                    have bth156 : 0 ≤ th156 ∧ th156 ≤ 1 := by rw [← eth156, ← show rd M148 156 p131_4 = rd M 156 p131_4 from St.ka h148 (by decide) (by decide) (by decide)]; exact ar_156 hS.1.2.1 _
                    obtain ⟨th158, eth158⟩ : ∃ v, rd M 158 p131_4 = v := ⟨_, rfl⟩
                    have bth158 : (-2147483648) ≤ th158 ∧ th158 ≤ 2147483647 := by rw [← eth158, ← show rd M148 158 p131_4 = rd M 158 p131_4 from St.ka h148 (by decide) (by decide) (by decide)]; exact ar_158 hS.1.2.1 _
                    refine Tr.istore (pc := 151) (i := 5) (ls2 := [(5, (0, r148)), (0, (2, 120)), (1, (0, a1)), (2, (1, p43_2)), (4, (0, p131_4))]) d_X12_tick_151 (by decide) rfl ?_
                    refine Tr.aload_n (pc := 153) (i := 0) d_X12_tick_153 rfl rfl ?_
                    refine Tr.getf (pc := 154) d_X12_tick_154 f_12_222 (by decide) (by decide) (ty_120 hS.1.1) ?_
                    refine Tr.tp 161 (fx_120_69 hS.1.1) ?_
                    refine Tr.iconst (pc := 157) d_X12_tick_157 (by decide) ?_
                    refine Tr.iload (pc := 158) (i := 4) d_X12_tick_158 rfl ?_
                    refine Tr.imul (pc := 160) d_X12_tick_160 ?_
                    refine Tr.tp (4 * p131_4) ((w32_id (by omega)).trans (by omega)) ?_
                    refine Tr.iload (pc := 161) (i := 5) d_X12_tick_161 rfl ?_
                    refine Tr.iadd (pc := 163) d_X12_tick_163 ?_
                    refine Tr.tp (4 * p131_4 + r148) ((w32_id (by omega)).trans (by omega)) ?_
                    refine Tr.dup2 (pc := 164) d_X12_tick_164 ne01 ne21 ?_
                    refine Tr.iald (pc := 165) d_X12_tick_165 (ty_161 hS.1.1) (by omega) (by omega) ?_
                    refine Tr.gen (P := fun v => (-2147483648) ≤ v ∧ v ≤ 2147483647) (ar_161 hS.1.2.1 _) (fun r165 er165 br165 => ?_)
                    refine Tr.iconst (pc := 166) d_X12_tick_166 (by decide) ?_
                    refine Tr.iadd (pc := 167) d_X12_tick_167 ?_
                    refine Tr.gen (P := fun v => (-2147483648) ≤ v ∧ v ≤ 2147483647) (w32_b _) (fun r167 er167 br167 => ?_)
                    refine Tr.iastS (pc := 168) (P := St Tb1 ws_X12_tick_120_w2 as_X12_tick_120_w2 M0) d_X12_tick_168 (ty_161 hS.1.1) (by omega) (by omega) (sa_161 hS (by decide) (by omega) (Tb1.of hS.1.2.2.2.2 (fun _ => rd_wb _ rfl) (rd_wb _ rfl))) (fun M168 hS w168 => ?_)
                    refine Tr.aload_n (pc := 169) (i := 0) d_X12_tick_169 rfl rfl ?_
                    refine Tr.getz (pc := 170) d_X12_tick_170 f_12_225 (by decide) (ty_120 hS.1.1) ?_
                    refine Tr.gen (P := fun v => 0 ≤ v ∧ v ≤ 1) (ir_120_70 hS.1.2.1) (fun r170 er170 br170 => ?_)
                    have J264 : ∀ (M : Mem), St Tb1 ws_X12_tick_120_w2 as_X12_tick_120_w2 M0 M → rd M 120 59 = g120_59 → rd M 120 61 = g120_61 → rd M 120 62 = g120_62 → rd M 120 68 = u119_120_68 → rd M 120 70 = r170 → rd M 122 1 = r37 → rd M 126 1 = g126_1 → rd M 156 p131_4 = th156 → rd M 158 p131_4 = th158 → rd M 161 (4 * p131_4 + r148) = r167 → Tr l K 3 mX12_tick 264 [(0, (2, 120)), (1, (0, a1)), (2, (1, p43_2)), (4, (0, p131_4)), (5, (0, r148))] [] M (q_X12_tick_120_w2 a1 M0) := by
                      intro M  hS  k264_120_59 k264_120_61 k264_120_62 k264_120_68 k264_120_70 k264_122_1 k264_126_1 k264_156_p131_410 k264_158_p131_410 k264_161_p131_44r14810
                      refine Tr.iload (pc := 264) (i := 5) d_X12_tick_264 rfl ?_
                      refine Tr.iconst (pc := 266) d_X12_tick_266 (by decide) ?_
                      have J291 : ∀ (M : Mem), St Tb1 ws_X12_tick_120_w2 as_X12_tick_120_w2 M0 M → rd M 120 59 = g120_59 → rd M 120 61 = g120_61 → rd M 120 62 = g120_62 → rd M 120 68 = u119_120_68 → rd M 120 70 = r170 → rd M 122 1 = r37 → rd M 126 1 = g126_1 → rd M 156 p131_4 = th156 → rd M 161 (4 * p131_4 + r148) = r167 → Tr l K 3 mX12_tick 291 [(0, (2, 120)), (1, (0, a1)), (2, (1, p43_2)), (4, (0, p131_4))] [] M (q_X12_tick_120_w2 a1 M0) := by
                        intro M  hS  k291_120_59 k291_120_61 k291_120_62 k291_120_68 k291_120_70 k291_122_1 k291_126_1 k291_156_p131_410 k291_161_p131_44r14810
                        refine Tr.iincV (pc := 291) (n2 := (p131_4 + 1)) (ls2 := [(4, (0, (p131_4 + 1))), (0, (2, 120)), (1, (0, a1)), (2, (1, p43_2))]) d_X12_tick_291 rfl (by decide) ((w32_id (by omega)).trans (by omega)) rfl ?_
                        refine Tr.goto (pc := 294) (tgt := 131) d_X12_tick_294 rfl ?_
                        refine Tr.pick [1, 2, 3, 0] (ls2 := [(0, (2, 120)), (1, (0, a1)), (2, (1, p43_2)), (4, (0, (p131_4 + 1)))]) rfl ?_
                        exact J131 _ _ hS (by omega) k291_120_59 k291_120_61 k291_120_62 k291_120_68 k291_122_1 k291_126_1 (by omega)
                      refine Tr.icmp_ne (pc := 267) (tgt := 291) d_X12_tick_267 rfl (fun c267 => ?_) (fun c267 => ?_)
                      · refine Tr.pick [0, 1, 2, 3] (ls2 := [(0, (2, 120)), (1, (0, a1)), (2, (1, p43_2)), (4, (0, p131_4))]) rfl ?_
                        exact J291 _ hS k264_120_59 k264_120_61 k264_120_62 k264_120_68 k264_120_70 k264_122_1 k264_126_1 k264_156_p131_410 k264_161_p131_44r14810
                      · refine Tr.aload_n (pc := 270) (i := 0) d_X12_tick_270 rfl rfl ?_
                        refine Tr.getf (pc := 271) d_X12_tick_271 f_12_177 (by decide) (by decide) (ty_120 hS.1.1) ?_
                        refine Tr.tp 156 (fx_120_54 hS.1.1) ?_
                        refine Tr.iload (pc := 274) (i := 4) d_X12_tick_274 rfl ?_
                        refine Tr.zald (pc := 276) d_X12_tick_276 (ty_156 hS.1.1) (by omega) (by omega) ?_
                        refine Tr.tp th156 k264_156_p131_410 ?_
                        refine Tr.if_ne (pc := 277) (tgt := 291) d_X12_tick_277 rfl (fun c277 => ?_) (fun c277 => ?_)
                        · refine Tr.pick [0, 1, 2, 3] (ls2 := [(0, (2, 120)), (1, (0, a1)), (2, (1, p43_2)), (4, (0, p131_4))]) rfl ?_
                          exact J291 _ hS k264_120_59 k264_120_61 k264_120_62 k264_120_68 k264_120_70 k264_122_1 k264_126_1 k264_156_p131_410 k264_161_p131_44r14810
                        · refine Tr.aload_n (pc := 280) (i := 0) d_X12_tick_280 rfl rfl ?_
                          refine Tr.getf (pc := 281) d_X12_tick_281 f_12_183 (by decide) (by decide) (ty_120 hS.1.1) ?_
                          refine Tr.tp 158 (fx_120_56 hS.1.1) ?_
                          refine Tr.iload (pc := 284) (i := 4) d_X12_tick_284 rfl ?_
                          refine Tr.dup2 (pc := 286) d_X12_tick_286 ne01 ne21 ?_
                          refine Tr.iald (pc := 287) d_X12_tick_287 (ty_158 hS.1.1) (by omega) (by omega) ?_
                          refine Tr.tp th158 k264_158_p131_410 ?_
                          refine Tr.iconst (pc := 288) d_X12_tick_288 (by decide) ?_
                          refine Tr.isub (pc := 289) d_X12_tick_289 ?_
                          refine Tr.tp (th158 - 1) ((w32_id (by omega)).trans (by omega)) ?_
                          refine Tr.iastS (pc := 290) (P := St Tb1 ws_X12_tick_120_w2 as_X12_tick_120_w2 M0) d_X12_tick_290 (ty_158 hS.1.1) (by omega) (by omega) (sa_158 hS (by decide) (by omega) (Tb1_wr hS.1.2.2.2.2 (fun i0 i1 => by have h8 := hS.1.2.2.2.2 _ i0 i1; omega))) (fun M290 hS w290 => ?_)
                          refine Tr.pick [0, 1, 2, 3] (ls2 := [(0, (2, 120)), (1, (0, a1)), (2, (1, p43_2)), (4, (0, p131_4))]) rfl ?_
                          exact J291 _ hS ((Wr.b w290 rfl).trans k264_120_59) ((Wr.b w290 rfl).trans k264_120_61) ((Wr.b w290 rfl).trans k264_120_62) ((Wr.b w290 rfl).trans k264_120_68) ((Wr.b w290 rfl).trans k264_120_70) ((Wr.b w290 rfl).trans k264_122_1) ((Wr.b w290 rfl).trans k264_126_1) ((Wr.b w290 rfl).trans k264_156_p131_410) ((Wr.b w290 rfl).trans k264_161_p131_44r14810)
                    refine Tr.if_eq (pc := 173) (tgt := 264) d_X12_tick_173 rfl (fun c173 => ?_) (fun c173 => ?_)
                    · refine Tr.pick [1, 2, 3, 4, 0] (ls2 := [(0, (2, 120)), (1, (0, a1)), (2, (1, p43_2)), (4, (0, p131_4)), (5, (0, r148))]) rfl ?_
                      exact J264 _ hS ((Wr.b w168 rfl).trans ((St.kp h148 (by decide) (by decide) (by decide)).trans k131_120_59)) ((Wr.b w168 rfl).trans ((St.kp h148 (by decide) (by decide) (by decide)).trans k131_120_61)) ((Wr.b w168 rfl).trans ((St.kp h148 (by decide) (by decide) (by decide)).trans k131_120_62)) ((Wr.b w168 rfl).trans ((St.kp h148 (by decide) (by decide) (by decide)).trans k131_120_68)) er170 ((Wr.b w168 rfl).trans ((St.kp h148 (by decide) (by decide) (by decide)).trans k131_122_1)) ((Wr.b w168 rfl).trans ((St.kp h148 (by decide) (by decide) (by decide)).trans k131_126_1)) ((Wr.b w168 rfl).trans ((St.ka h148 (by decide) (by decide) (by decide)).trans eth156)) ((Wr.b w168 rfl).trans ((St.ka h148 (by decide) (by decide) (by decide)).trans eth158)) w168.1
                    · refine Tr.aload_n (pc := 176) (i := 0) d_X12_tick_176 rfl rfl ?_
                      refine Tr.getf (pc := 177) d_X12_tick_177 f_12_231 (by decide) (by decide) (ty_120 hS.1.1) ?_
                      refine Tr.tp 163 (fx_120_72 hS.1.1) ?_
                      refine Tr.sipush (pc := 180) d_X12_tick_180 rfl (by decide) ?_
                      refine Tr.iload (pc := 183) (i := 4) d_X12_tick_183 rfl ?_
                      refine Tr.imul (pc := 185) d_X12_tick_185 ?_
                      refine Tr.tp (2100 * p131_4) ((w32_id (by omega)).trans (by omega)) ?_
                      refine Tr.aload_n (pc := 186) (i := 0) d_X12_tick_186 rfl rfl ?_
                      refine Tr.getf (pc := 187) d_X12_tick_187 f_12_201 (by decide) (by decide) (ty_120 hS.1.1) ?_
                      refine Tr.tp g120_62 ((Wr.b w168 rfl).trans ((St.kp h148 (by decide) (by decide) (by decide)).trans k131_120_62)) ?_
                      refine Tr.iadd (pc := 190) d_X12_tick_190 ?_
                      refine Tr.tp (g120_62 + 2100 * p131_4) ((w32_id (by omega)).trans (by omega)) ?_
                      refine Tr.iload (pc := 191) (i := 5) d_X12_tick_191 rfl ?_
                      refine Tr.iastS (pc := 193) (P := St Tb1 ws_X12_tick_120_w2 as_X12_tick_120_w2 M0) d_X12_tick_193 (ty_163 hS.1.1) (by omega) (by omega) (sa_163 hS (by decide) (by omega) (Tb1.of hS.1.2.2.2.2 (fun _ => rd_wb _ rfl) (rd_wb _ rfl))) (fun M193 hS w193 => ?_)
                      refine Tr.aload_n (pc := 194) (i := 0) d_X12_tick_194 rfl rfl ?_
                      refine Tr.getf (pc := 195) d_X12_tick_195 f_12_234 (by decide) (by decide) (ty_120 hS.1.1) ?_
                      refine Tr.tp 164 (fx_120_73 hS.1.1) ?_
                      refine Tr.sipush (pc := 198) d_X12_tick_198 rfl (by decide) ?_
                      refine Tr.iload (pc := 201) (i := 4) d_X12_tick_201 rfl ?_
                      refine Tr.imul (pc := 203) d_X12_tick_203 ?_
                      refine Tr.tp (2100 * p131_4) ((w32_id (by omega)).trans (by omega)) ?_
                      refine Tr.aload_n (pc := 204) (i := 0) d_X12_tick_204 rfl rfl ?_
                      refine Tr.getf (pc := 205) d_X12_tick_205 f_12_201 (by decide) (by decide) (ty_120 hS.1.1) ?_
                      refine Tr.tp g120_62 ((Wr.b w193 rfl).trans ((Wr.b w168 rfl).trans ((St.kp h148 (by decide) (by decide) (by decide)).trans k131_120_62))) ?_
                      refine Tr.iadd (pc := 208) d_X12_tick_208 ?_
                      refine Tr.tp (g120_62 + 2100 * p131_4) ((w32_id (by omega)).trans (by omega)) ?_
                      refine Tr.iload (pc := 209) (i := 5) d_X12_tick_209 rfl ?_
                      refine Tr.iconst (pc := 211) d_X12_tick_211 (by decide) ?_
                      have J226 : ∀ (M : Mem) (q226_2 : Int), St Tb1 ws_X12_tick_120_w2 as_X12_tick_120_w2 M0 M → ((-1) ≤ q226_2 ∧ q226_2 ≤ 59) → rd M 120 59 = g120_59 → rd M 120 61 = g120_61 → rd M 120 62 = g120_62 → rd M 120 68 = u119_120_68 → rd M 120 70 = r170 → rd M 122 1 = r37 → rd M 126 1 = g126_1 → rd M 156 p131_4 = th156 → rd M 158 p131_4 = th158 → rd M 161 (4 * p131_4 + r148) = r167 → rd M 163 (g120_62 + 2100 * p131_4) = r148 → Tr l K 3 mX12_tick 226 [(0, (2, 120)), (1, (0, a1)), (2, (1, p43_2)), (4, (0, p131_4)), (5, (0, r148))] [(0, q226_2), (0, (g120_62 + 2100 * p131_4)), (2, 164)] M (q_X12_tick_120_w2 a1 M0) := by
                        intro M q226_2 hS bq226_2 k226_120_59 k226_120_61 k226_120_62 k226_120_68 k226_120_70 k226_122_1 k226_126_1 k226_156_p131_410 k226_158_p131_410 k226_161_p131_44r14810 k226_163_g120_621p131_421000
                        refine Tr.iastS (pc := 226) (P := St Tb1 ws_X12_tick_120_w2 as_X12_tick_120_w2 M0) d_X12_tick_226 (ty_164 hS.1.1) (by omega) (by omega) (sa_164 hS (by decide) (by omega) (Tb1.of hS.1.2.2.2.2 (fun _ => rd_wb _ rfl) (rd_wb _ rfl))) (fun M226 hS w226 => ?_)
                        refine Tr.aload_n (pc := 227) (i := 0) d_X12_tick_227 rfl rfl ?_
                        refine Tr.getf (pc := 228) d_X12_tick_228 f_12_237 (by decide) (by decide) (ty_120 hS.1.1) ?_
                        refine Tr.tp 165 (fx_120_74 hS.1.1) ?_
                        refine Tr.sipush (pc := 231) d_X12_tick_231 rfl (by decide) ?_
                        refine Tr.iload (pc := 234) (i := 4) d_X12_tick_234 rfl ?_
                        refine Tr.imul (pc := 236) d_X12_tick_236 ?_
                        refine Tr.tp (2100 * p131_4) ((w32_id (by omega)).trans (by omega)) ?_
                        refine Tr.aload_n (pc := 237) (i := 0) d_X12_tick_237 rfl rfl ?_
                        refine Tr.getf (pc := 238) d_X12_tick_238 f_12_201 (by decide) (by decide) (ty_120 hS.1.1) ?_
                        refine Tr.tp g120_62 ((Wr.b w226 rfl).trans k226_120_62) ?_
                        refine Tr.iadd (pc := 241) d_X12_tick_241 ?_
                        refine Tr.tp (g120_62 + 2100 * p131_4) ((w32_id (by omega)).trans (by omega)) ?_
                        refine Tr.aload_n (pc := 242) (i := 0) d_X12_tick_242 rfl rfl ?_
                        refine Tr.getf (pc := 243) d_X12_tick_243 f_12_177 (by decide) (by decide) (ty_120 hS.1.1) ?_
                        refine Tr.tp 156 (fx_120_54 hS.1.1) ?_
                        refine Tr.iload (pc := 246) (i := 4) d_X12_tick_246 rfl ?_
                        refine Tr.zald (pc := 248) d_X12_tick_248 (ty_156 hS.1.1) (by omega) (by omega) ?_
                        refine Tr.tp th156 ((Wr.b w226 rfl).trans k226_156_p131_410) ?_
                        have J263 : ∀ (M : Mem) (q263_2 : Int), St Tb1 ws_X12_tick_120_w2 as_X12_tick_120_w2 M0 M → ((-1) ≤ q263_2 ∧ q263_2 ≤ 59) → rd M 120 59 = g120_59 → rd M 120 61 = g120_61 → rd M 120 62 = g120_62 → rd M 120 68 = u119_120_68 → rd M 120 70 = r170 → rd M 122 1 = r37 → rd M 126 1 = g126_1 → rd M 156 p131_4 = th156 → rd M 158 p131_4 = th158 → rd M 161 (4 * p131_4 + r148) = r167 → rd M 163 (g120_62 + 2100 * p131_4) = r148 → rd M 164 (g120_62 + 2100 * p131_4) = q226_2 → Tr l K 3 mX12_tick 263 [(0, (2, 120)), (1, (0, a1)), (2, (1, p43_2)), (4, (0, p131_4)), (5, (0, r148))] [(0, q263_2), (0, (g120_62 + 2100 * p131_4)), (2, 165)] M (q_X12_tick_120_w2 a1 M0) := by
                          intro M q263_2 hS bq263_2 k263_120_59 k263_120_61 k263_120_62 k263_120_68 k263_120_70 k263_122_1 k263_126_1 k263_156_p131_410 k263_158_p131_410 k263_161_p131_44r14810 k263_163_g120_621p131_421000 k263_164_g120_621p131_421000
                          refine Tr.iastS (pc := 263) (P := St Tb1 ws_X12_tick_120_w2 as_X12_tick_120_w2 M0) d_X12_tick_263 (ty_165 hS.1.1) (by omega) (by omega) (sa_165 hS (by decide) (by omega) (Tb1.of hS.1.2.2.2.2 (fun _ => rd_wb _ rfl) (rd_wb _ rfl))) (fun M263 hS w263 => ?_)
                          refine Tr.pick [0, 1, 2, 3, 4] (ls2 := [(0, (2, 120)), (1, (0, a1)), (2, (1, p43_2)), (4, (0, p131_4)), (5, (0, r148))]) rfl ?_
                          exact J264 _ hS ((Wr.b w263 rfl).trans k263_120_59) ((Wr.b w263 rfl).trans k263_120_61) ((Wr.b w263 rfl).trans k263_120_62) ((Wr.b w263 rfl).trans k263_120_68) ((Wr.b w263 rfl).trans k263_120_70) ((Wr.b w263 rfl).trans k263_122_1) ((Wr.b w263 rfl).trans k263_126_1) ((Wr.b w263 rfl).trans k263_156_p131_410) ((Wr.b w263 rfl).trans k263_158_p131_410) ((Wr.b w263 rfl).trans k263_161_p131_44r14810)
                        refine Tr.if_eq (pc := 249) (tgt := 262) d_X12_tick_249 rfl (fun c249 => ?_) (fun c249 => ?_)
                        · refine Tr.iconst (pc := 262) d_X12_tick_262 (by decide) ?_
                          refine Tr.pick [0, 1, 2, 3, 4] (ls2 := [(0, (2, 120)), (1, (0, a1)), (2, (1, p43_2)), (4, (0, p131_4)), (5, (0, r148))]) rfl ?_
                          exact J263 _ _ hS (by omega) ((Wr.b w226 rfl).trans k226_120_59) ((Wr.b w226 rfl).trans k226_120_61) ((Wr.b w226 rfl).trans k226_120_62) ((Wr.b w226 rfl).trans k226_120_68) ((Wr.b w226 rfl).trans k226_120_70) ((Wr.b w226 rfl).trans k226_122_1) ((Wr.b w226 rfl).trans k226_126_1) ((Wr.b w226 rfl).trans k226_156_p131_410) ((Wr.b w226 rfl).trans k226_158_p131_410) ((Wr.b w226 rfl).trans k226_161_p131_44r14810) ((Wr.b w226 rfl).trans k226_163_g120_621p131_421000) w226.1
                        · refine Tr.aload_n (pc := 252) (i := 0) d_X12_tick_252 rfl rfl ?_
                          refine Tr.getf (pc := 253) d_X12_tick_253 f_12_180 (by decide) (by decide) (ty_120 hS.1.1) ?_
                          refine Tr.tp 157 (fx_120_55 hS.1.1) ?_
                          refine Tr.iload (pc := 256) (i := 4) d_X12_tick_256 rfl ?_
                          refine Tr.iald (pc := 258) d_X12_tick_258 (ty_157 hS.1.1) (by omega) (by omega) ?_
                          refine Tr.gen (P := fun v => (-1) ≤ v ∧ v ≤ 59) (ar_157 hS.1.2.1 _) (fun r258 er258 br258 => ?_)
                          refine Tr.goto (pc := 259) (tgt := 263) d_X12_tick_259 rfl ?_
                          refine Tr.pick [0, 1, 2, 3, 4] (ls2 := [(0, (2, 120)), (1, (0, a1)), (2, (1, p43_2)), (4, (0, p131_4)), (5, (0, r148))]) rfl ?_
                          exact J263 _ _ hS (by omega) ((Wr.b w226 rfl).trans k226_120_59) ((Wr.b w226 rfl).trans k226_120_61) ((Wr.b w226 rfl).trans k226_120_62) ((Wr.b w226 rfl).trans k226_120_68) ((Wr.b w226 rfl).trans k226_120_70) ((Wr.b w226 rfl).trans k226_122_1) ((Wr.b w226 rfl).trans k226_126_1) ((Wr.b w226 rfl).trans k226_156_p131_410) ((Wr.b w226 rfl).trans k226_158_p131_410) ((Wr.b w226 rfl).trans k226_161_p131_44r14810) ((Wr.b w226 rfl).trans k226_163_g120_621p131_421000) w226.1
                      refine Tr.icmp_ne (pc := 212) (tgt := 225) d_X12_tick_212 rfl (fun c212 => ?_) (fun c212 => ?_)
                      · refine Tr.iload_n (pc := 225) (i := 1) d_X12_tick_225 rfl rfl ?_
                        refine Tr.pick [1, 2, 3, 4, 0] (ls2 := [(0, (2, 120)), (1, (0, a1)), (2, (1, p43_2)), (4, (0, p131_4)), (5, (0, r148))]) rfl ?_
                        exact J226 _ _ hS (by omega) ((Wr.b w193 rfl).trans ((Wr.b w168 rfl).trans ((St.kp h148 (by decide) (by decide) (by decide)).trans k131_120_59))) ((Wr.b w193 rfl).trans ((Wr.b w168 rfl).trans ((St.kp h148 (by decide) (by decide) (by decide)).trans k131_120_61))) ((Wr.b w193 rfl).trans ((Wr.b w168 rfl).trans ((St.kp h148 (by decide) (by decide) (by decide)).trans k131_120_62))) ((Wr.b w193 rfl).trans ((Wr.b w168 rfl).trans ((St.kp h148 (by decide) (by decide) (by decide)).trans k131_120_68))) ((Wr.b w193 rfl).trans er170) ((Wr.b w193 rfl).trans ((Wr.b w168 rfl).trans ((St.kp h148 (by decide) (by decide) (by decide)).trans k131_122_1))) ((Wr.b w193 rfl).trans ((Wr.b w168 rfl).trans ((St.kp h148 (by decide) (by decide) (by decide)).trans k131_126_1))) ((Wr.b w193 rfl).trans ((Wr.b w168 rfl).trans ((St.ka h148 (by decide) (by decide) (by decide)).trans eth156))) ((Wr.b w193 rfl).trans ((Wr.b w168 rfl).trans ((St.ka h148 (by decide) (by decide) (by decide)).trans eth158))) ((Wr.b w193 rfl).trans w168.1) w193.1
                      · refine Tr.aload_n (pc := 215) (i := 0) d_X12_tick_215 rfl rfl ?_
                        refine Tr.getf (pc := 216) d_X12_tick_216 f_12_186 (by decide) (by decide) (ty_120 hS.1.1) ?_
                        refine Tr.tp 159 (fx_120_57 hS.1.1) ?_
                        refine Tr.iload (pc := 219) (i := 4) d_X12_tick_219 rfl ?_
                        refine Tr.iald (pc := 221) d_X12_tick_221 (ty_159 hS.1.1) (by omega) (by omega) ?_
                        refine Tr.gen (P := fun v => (-1) ≤ v ∧ v ≤ 59) (ar_159 hS.1.2.1 _) (fun r221 er221 br221 => ?_)
                        refine Tr.goto (pc := 222) (tgt := 226) d_X12_tick_222 rfl ?_
                        refine Tr.pick [1, 2, 3, 4, 0] (ls2 := [(0, (2, 120)), (1, (0, a1)), (2, (1, p43_2)), (4, (0, p131_4)), (5, (0, r148))]) rfl ?_
                        exact J226 _ _ hS (by omega) ((Wr.b w193 rfl).trans ((Wr.b w168 rfl).trans ((St.kp h148 (by decide) (by decide) (by decide)).trans k131_120_59))) ((Wr.b w193 rfl).trans ((Wr.b w168 rfl).trans ((St.kp h148 (by decide) (by decide) (by decide)).trans k131_120_61))) ((Wr.b w193 rfl).trans ((Wr.b w168 rfl).trans ((St.kp h148 (by decide) (by decide) (by decide)).trans k131_120_62))) ((Wr.b w193 rfl).trans ((Wr.b w168 rfl).trans ((St.kp h148 (by decide) (by decide) (by decide)).trans k131_120_68))) ((Wr.b w193 rfl).trans er170) ((Wr.b w193 rfl).trans ((Wr.b w168 rfl).trans ((St.kp h148 (by decide) (by decide) (by decide)).trans k131_122_1))) ((Wr.b w193 rfl).trans ((Wr.b w168 rfl).trans ((St.kp h148 (by decide) (by decide) (by decide)).trans k131_126_1))) ((Wr.b w193 rfl).trans ((Wr.b w168 rfl).trans ((St.ka h148 (by decide) (by decide) (by decide)).trans eth156))) ((Wr.b w193 rfl).trans ((Wr.b w168 rfl).trans ((St.ka h148 (by decide) (by decide) (by decide)).trans eth158))) ((Wr.b w193 rfl).trans w168.1) w193.1
              refine Tr.pick [1, 2, 3, 0] (ls2 := [(0, (2, 120)), (1, (0, a1)), (2, (1, p43_2)), (4, (0, 0))]) rfl ?_
              exact J131 _ _ _ hS (by omega) k119_120_59 k119_120_61 k119_120_62 k119_120_68 k119_122_1 k119_126_1 (Nat.lt_succ_self _)
            · refine Tr.iconst (pc := 126) d_X12_tick_126 (by decide) ?_
              have kr_120_59 : rd M 120 59 = g120_59 := k119_120_59
              have kr_120_62 : rd M 120 62 = g120_62 := k119_120_62
              have kr_120_68 : rd M 120 68 = u119_120_68 := k119_120_68
              exact Tr.zret (pc := 127) d_X12_tick_127 rfl (by omega) ⟨hS, _, rfl, by omega, by omega, by omega, by omega, by omega⟩
          refine Tr.if_ne (pc := 83) (tgt := 119) d_X12_tick_83 rfl (fun c83 => ?_) (fun c83 => ?_)
          · refine Tr.pick [0, 1, 2] (ls2 := [(0, (2, 120)), (1, (0, a1)), (2, (1, p43_2))]) rfl ?_
            exact J119 _ _ hS (by omega) k43_120_59 k43_120_61 k43_120_62 k43_120_68 k43_122_1 k43_126_1 (by first | assumption | omega) (by first | assumption | omega)
          · refine Tr.iload_n (pc := 86) (i := 1) d_X12_tick_86 rfl rfl ?_
            refine Tr.iconst (pc := 87) d_X12_tick_87 (by decide) ?_
            refine Tr.icmp_eq (pc := 88) (tgt := 119) d_X12_tick_88 rfl (fun hc => absurd hc (by omega)) (fun _ => ?_)
            refine Tr.aload_n (pc := 91) (i := 0) d_X12_tick_91 rfl rfl ?_
            refine Tr.getf (pc := 92) d_X12_tick_92 f_12_207 (by decide) (by decide) (ty_120 hS.1.1) ?_
            refine Tr.gen (P := fun v => (-9223372036854775808) ≤ v ∧ v ≤ 9223372036854775807) (ir_120_64 hS.1.2.1) (fun r92 er92 br92 => ?_)
            refine Tr.lconst (pc := 95) (v := 0) d_X12_tick_95 rfl (by decide) ?_
            refine Tr.lcmp (pc := 96) d_X12_tick_96 ?_
            refine Tr.gen (P := fun v => (v = 1 ∧ 0 < r92) ∨ (v = 0 ∧ r92 = 0) ∨ (v = -1 ∧ r92 < 0)) (f_lcmp_c _ _) (fun r96 er96 br96 => ?_)
            refine Tr.if_lt (pc := 97) (tgt := 119) d_X12_tick_97 rfl (fun c97 => ?_) (fun c97 => ?_)
            · refine Tr.pick [0, 1, 2] (ls2 := [(0, (2, 120)), (1, (0, a1)), (2, (1, p43_2))]) rfl ?_
              exact J119 _ _ hS (by omega) k43_120_59 k43_120_61 k43_120_62 k43_120_68 k43_122_1 k43_126_1 (by first | assumption | omega) (by first | assumption | omega)
            · refine Tr.lload_n (pc := 100) (i := 2) d_X12_tick_100 rfl rfl ?_
              refine Tr.aload_n (pc := 101) (i := 0) d_X12_tick_101 rfl rfl ?_
              refine Tr.getf (pc := 102) d_X12_tick_102 f_12_207 (by decide) (by decide) (ty_120 hS.1.1) ?_
              refine Tr.tp r92 er92 ?_
              refine Tr.aload_n (pc := 105) (i := 0) d_X12_tick_105 rfl rfl ?_
              refine Tr.getf (pc := 106) d_X12_tick_106 f_12_204 (by decide) (by decide) (ty_120 hS.1.1) ?_
              refine Tr.gen (P := fun v => (-9223372036854775808) ≤ v ∧ v ≤ 9223372036854775807) (ir_120_63 hS.1.2.1) (fun r106 er106 br106 => ?_)
              refine Tr.lsub (pc := 109) d_X12_tick_109 ?_
              refine Tr.gen (P := fun v => (-9223372036854775808) ≤ v ∧ v ≤ 9223372036854775807) (w64_b _) (fun r109 er109 br109 => ?_)
              refine Tr.lcmp (pc := 110) d_X12_tick_110 ?_
              refine Tr.gen (P := fun v => (v = 1 ∧ r109 < p43_2) ∨ (v = 0 ∧ p43_2 = r109) ∨ (v = -1 ∧ p43_2 < r109)) (f_lcmp_c _ _) (fun r110 er110 br110 => ?_)
              refine Tr.if_le (pc := 111) (tgt := 119) d_X12_tick_111 rfl (fun c111 => ?_) (fun c111 => ?_)
              · refine Tr.pick [0, 1, 2] (ls2 := [(0, (2, 120)), (1, (0, a1)), (2, (1, p43_2))]) rfl ?_
                exact J119 _ _ hS (by omega) k43_120_59 k43_120_61 k43_120_62 k43_120_68 k43_122_1 k43_126_1 (by first | assumption | omega) (by first | assumption | omega)
              · refine Tr.aload_n (pc := 114) (i := 0) d_X12_tick_114 rfl rfl ?_
                refine Tr.iconst (pc := 115) d_X12_tick_115 (by decide) ?_
                refine Tr.putfS (pc := 116) (P := St Tb1 ws_X12_tick_120_w2 as_X12_tick_120_w2 M0) d_X12_tick_116 f_12_219 (by decide) (by decide) (ty_120 hS.1.1) (st_120_68 hS (by decide) (by omega) (Tb1.of hS.1.2.2.2.2 (fun _ => rd_wb _ rfl) (rd_wb _ rfl))) (fun M116 hS w116 => ?_)
                refine Tr.pick [0, 1, 2] (ls2 := [(0, (2, 120)), (1, (0, a1)), (2, (1, p43_2))]) rfl ?_
                exact J119 _ _ hS (by omega) ((Wr.b w116 rfl).trans k43_120_59) ((Wr.b w116 rfl).trans k43_120_61) ((Wr.b w116 rfl).trans k43_120_62) w116.1 ((Wr.b w116 rfl).trans k43_122_1) ((Wr.b w116 rfl).trans k43_126_1) (by first | assumption | omega) (by first | assumption | omega)
        · refine Tr.lload_n (pc := 57) (i := 2) d_X12_tick_57 rfl rfl ?_
          refine Tr.aload_n (pc := 58) (i := 0) d_X12_tick_58 rfl rfl ?_
          refine Tr.iload (pc := 59) (i := 4) d_X12_tick_59 rfl ?_
          refine Tr.aload_n (pc := 61) (i := 0) d_X12_tick_61 rfl rfl ?_
          refine Tr.iload (pc := 62) (i := 4) d_X12_tick_62 rfl ?_
          refine Tr.callV (pc := 64) (as := [_]) d_X12_tick_64 s_12_571 ok_X12_stateOf rfl rfl (Nat.le_of_ble_eq_true rfl) (Nat.le_of_ble_eq_true rfl) (by decide) (ty_120 hS.1.1) ?_
          refine Tr.imp (Tr.deep (by decide) (sp_X12_stateOf_120 hS.1.wk p43_4 (by omega))) ?_
          rintro M64 _ ⟨h64, r64, rfl, lr64, ur64, z64_0⟩
          have h64 := St.rn h64 (Tb1.of hS.1.2.2.2.2 (fun _ => (St.ka h64 (by decide) (by decide) (by decide))) (St.kp h64 (by decide) (by decide) (by decide)))
          have hS := St.tr hS h64 (by decide) (by decide)
          have ka64_120_59 : rd M64 120 59 = g120_59 := ((St.kp h64 (by decide) (by decide) (by decide)).trans k43_120_59)
          have ka64_120_61 : rd M64 120 61 = g120_61 := ((St.kp h64 (by decide) (by decide) (by decide)).trans k43_120_61)
          refine Tr.sc [(0, r64), (0, p43_4), (2, 120), (1, p43_2)] rfl ?_
          refine Tr.callV (pc := 67) (as := [_, _]) d_X12_tick_67 s_12_574 ok_X12_sips rfl rfl (Nat.le_of_ble_eq_true rfl) (Nat.le_of_ble_eq_true rfl) (by decide) (ty_120 hS.1.1) ?_
          refine Tr.imp (Tr.deep (by decide) (sp_X12_sips_120_w1 hS.1.wk ((St.kp hS (by decide) (by decide) (by decide)).trans en_120_12) p43_4 (by omega) r64 (by omega) (Bk1.of hF_Bk1 (fun j => (St.ka hS (by decide) (by decide) (by decide))) (fun j => (St.ka hS (by decide) (by decide) (by decide))) (fun j => (St.ka hS (by decide) (by decide) (by decide))) (fun j => (St.ka hS (by decide) (by decide) (by decide))) (fun j => (St.ka hS (by decide) (by decide) (by decide))) (fun j => (St.ka hS (by decide) (by decide) (by decide))) (fun j => (St.ka hS (by decide) (by decide) (by decide))) (fun j => (St.ka hS (by decide) (by decide) (by decide))) (St.kp hS (by decide) (by decide) (by decide)) (St.kp hS (by decide) (by decide) (by decide)) (St.kp hS (by decide) (by decide) (by decide)) (St.kp hS (by decide) (by decide) (by decide))))) ?_
          rintro M67 _ ⟨h67, r67, rfl, lr67, ur67⟩
          have h67 := St.rn h67 (Tb1.of hS.1.2.2.2.2 (fun _ => (St.ka h67 (by decide) (by decide) (by decide))) (St.kp h67 (by decide) (by decide) (by decide)))
          have hS := St.tr hS h67 (by decide) (by decide)
          refine Tr.sc [(0, r67), (1, p43_2)] rfl ?_
          refine Tr.i2l (pc := 70) d_X12_tick_70 ?_
          refine Tr.ladd (pc := 71) d_X12_tick_71 ?_
          refine Tr.gen (P := fun v => (-9223372036854775808) ≤ v ∧ v ≤ 9223372036854775807) (w64_b _) (fun r71 er71 br71 => ?_)
          refine Tr.lstore_n (pc := 72) (i := 2) (ls2 := [(2, (1, r71)), (0, (2, 120)), (1, (0, a1)), (4, (0, p43_4))]) d_X12_tick_72 rfl (by decide) rfl ?_
          refine Tr.iincV (pc := 73) (n2 := (p43_4 + 1)) (ls2 := [(4, (0, (p43_4 + 1))), (2, (1, r71)), (0, (2, 120)), (1, (0, a1))]) d_X12_tick_73 rfl (by decide) ((w32_id (by omega)).trans (by omega)) rfl ?_
          refine Tr.goto (pc := 76) (tgt := 43) d_X12_tick_76 rfl ?_
          refine Tr.pick [2, 3, 1, 0] (ls2 := [(0, (2, 120)), (1, (0, a1)), (2, (1, r71)), (4, (0, (p43_4 + 1)))]) rfl ?_
          exact J43 _ _ _ hS (by omega) (by omega) ((St.kp h67 (by decide) (by decide) (by decide)).trans ((St.kp h64 (by decide) (by decide) (by decide)).trans k43_120_59)) ((St.kp h67 (by decide) (by decide) (by decide)).trans ((St.kp h64 (by decide) (by decide) (by decide)).trans k43_120_61)) ((St.kp h67 (by decide) (by decide) (by decide)).trans ((St.kp h64 (by decide) (by decide) (by decide)).trans k43_120_62)) ((St.kp h67 (by decide) (by decide) (by decide)).trans ((St.kp h64 (by decide) (by decide) (by decide)).trans k43_120_68)) ((St.kp h67 (by decide) (by decide) (by decide)).trans ((St.kp h64 (by decide) (by decide) (by decide)).trans k43_122_1)) ((St.kp h67 (by decide) (by decide) (by decide)).trans ((St.kp h64 (by decide) (by decide) (by decide)).trans k43_126_1)) (by omega)
    refine Tr.pick [2, 3, 1, 0] (ls2 := [(0, (2, 120)), (1, (0, a1)), (2, (1, r37)), (4, (0, 0))]) rfl ?_
    exact J43 _ _ _ _ hS (by omega) (by omega) k20_120_59 k20_120_61 k20_120_62 k20_120_68 er37 k20_126_1 (Nat.lt_succ_self _)
  refine Tr.icmp_eq (pc := 2) (tgt := 20) d_X12_tick_2 rfl (fun hc => absurd hc (by omega)) (fun _ => ?_)
  refine Tr.aload_n (pc := 5) (i := 0) d_X12_tick_5 rfl rfl ?_
  refine Tr.getf (pc := 6) d_X12_tick_6 f_12_201 (by decide) (by decide) (ty_120 hS.1.1) ?_
  refine Tr.tp g120_62 eg120_62 ?_
  refine Tr.sipush (pc := 9) d_X12_tick_9 rfl (by decide) ?_
  refine Tr.icmp_ne (pc := 12) (tgt := 20) d_X12_tick_12 rfl (fun c12 => ?_) (fun c12 => ?_)
  · refine Tr.pick [0, 1] (ls2 := [(0, (2, 120)), (1, (0, a1))]) rfl ?_
    exact J20 _ _ hS (by omega) eg120_59 eg120_61 eg120_62 eg120_68 eg126_1 (by first | assumption | omega) (by first | assumption | omega)
  · refine Tr.aload_n (pc := 15) (i := 0) d_X12_tick_15 rfl rfl ?_
    refine Tr.iconst (pc := 16) d_X12_tick_16 (by decide) ?_
    refine Tr.putfS (pc := 17) (P := St Tb1 ws_X12_tick_120_w2 as_X12_tick_120_w2 M0) d_X12_tick_17 f_12_219 (by decide) (by decide) (ty_120 hS.1.1) (st_120_68 hS (by decide) (by omega) (Tb1.of hS.1.2.2.2.2 (fun _ => rd_wb _ rfl) (rd_wb _ rfl))) (fun M17 hS w17 => ?_)
    refine Tr.pick [0, 1] (ls2 := [(0, (2, 120)), (1, (0, a1))]) rfl ?_
    exact J20 _ _ hS (by omega) ((Wr.b w17 rfl).trans eg120_59) ((Wr.b w17 rfl).trans eg120_61) ((Wr.b w17 rfl).trans eg120_62) w17.1 ((Wr.b w17 rfl).trans eg126_1) (by first | assumption | omega) (by first | assumption | omega)

def ws_X12_tick_120_w3 : List (Int × Int) := [(120, 62), (120, 63)]
def as_X12_tick_120_w3 : List Int := [158, 161, 162, 163, 164, 165]
def q_X12_tick_120_w3 (a1 : Int) (M0 M' : Mem) (r : Option PV) : Prop := St Tb1 ws_X12_tick_120_w3 as_X12_tick_120_w3 M0 M' ∧ ∃ v : Int, r = some (0, v) ∧ 0 ≤ v ∧ v ≤ 1 ∧ ((v = 1 ∧ rd M' 120 62 = rd M0 120 62 + 1 ∧ (a1 = -1 ∨ rd M' 120 62 ≤ 2000)) ∨ (v = 0 ∧ rd M' 120 62 = rd M0 120 62 ∧ 1 ≤ rd M' 120 68)) ∧ (a1 ≠ -1 ∨ rd M' 120 68 = rd M0 120 68) ∧ (rd M' 120 59 = rd M0 120 59) ∧ (v = 1 → ∀ B : Int, 1 ≤ B → (∀ p : Int, 0 ≤ p → p < rd M0 126 1 → rd M0 156 p = 0 → rd M0 158 p ≤ B) → ∀ p : Int, 0 ≤ p → p < rd M' 126 1 → rd M' 156 p = 0 → rd M' 158 p ≤ B - 1)
set_option maxRecDepth 100000 in
set_option maxHeartbeats 4000000 in
theorem sp_X12_tick_120_w3 {l : Launch} {K : EC} {M0 : Mem} (hI : In Tb1 M0) (en_120_12 : rd M0 120 12 = 1) (a1 : Int) (ha1 : (-1) ≤ a1 ∧ a1 ≤ (-1))  (hq0 : rd M0 120 61 ≠ 2 ∨ rd M0 120 59 = -1) (hq1 : rd M0 120 62 ≤ 2000 ∨ (a1 = -1 ∧ rd M0 120 62 ≤ 2049)) (hq2 : rd M0 120 59 = -1) (hF_Bk1 : Bk1 M0) : Tr l K 3 mX12_tick 0 [(0, (2, 120)), (1, (0, a1))] [] M0 (q_X12_tick_120_w3 a1 M0) := by
  have hS : St Tb1 ws_X12_tick_120_w3 as_X12_tick_120_w3 M0 M0 := St.rf hI
  obtain ⟨g120_62, eg120_62⟩ : ∃ v, rd M0 120 62 = v := ⟨_, rfl⟩
  have bg120_62 : 0 ≤ g120_62 ∧ g120_62 ≤ 2060 := by rw [← eg120_62]; exact ir_120_62 hI.2.1
  obtain ⟨g120_68, eg120_68⟩ : ∃ v, rd M0 120 68 = v := ⟨_, rfl⟩
  have bg120_68 : 0 ≤ g120_68 ∧ g120_68 ≤ 2 := by rw [← eg120_68]; exact ir_120_68 hI.2.1
  obtain ⟨g120_59, eg120_59⟩ : ∃ v, rd M0 120 59 = v := ⟨_, rfl⟩
  have bg120_59 : (-1) ≤ g120_59 ∧ g120_59 ≤ 5 := by rw [← eg120_59]; exact ir_120_59 hI.2.1
  obtain ⟨g126_1, eg126_1⟩ : ∃ v, rd M0 126 1 = v := ⟨_, rfl⟩
  have bg126_1 : 0 ≤ g126_1 ∧ g126_1 ≤ 6 := by rw [← eg126_1]; exact ir_126_1 hI.2.1
  obtain ⟨g120_61, eg120_61⟩ : ∃ v, rd M0 120 61 = v := ⟨_, rfl⟩
  have bg120_61 : 0 ≤ g120_61 ∧ g120_61 ≤ 3 := by rw [← eg120_61]; exact ir_120_61 hI.2.1
  refine Tr.iload_n (pc := 0) (i := 1) d_X12_tick_0 rfl rfl ?_
  refine Tr.tp (-1) (by omega) ?_
  refine Tr.iconst (pc := 1) d_X12_tick_1 (by decide) ?_
  refine Tr.icmp_eq (pc := 2) (tgt := 20) d_X12_tick_2 rfl (fun _ => ?_) (fun hc => absurd (by omega) hc)
  refine Tr.iload_n (pc := 20) (i := 1) d_X12_tick_20 rfl rfl ?_
  refine Tr.tp (-1) (by omega) ?_
  refine Tr.iconst (pc := 21) d_X12_tick_21 (by decide) ?_
  refine Tr.icmp_ne (pc := 22) (tgt := 29) d_X12_tick_22 rfl (fun hc => absurd (by omega) hc) (fun _ => ?_)
  refine Tr.lconst (pc := 25) (v := 0) d_X12_tick_25 rfl (by decide) ?_
  refine Tr.goto (pc := 26) (tgt := 39) d_X12_tick_26 rfl ?_
  refine Tr.lstore_n (pc := 39) (i := 2) (ls2 := [(2, (1, 0)), (0, (2, 120)), (1, (0, a1))]) d_X12_tick_39 rfl (by decide) rfl ?_
  refine Tr.iconst (pc := 40) d_X12_tick_40 (by decide) ?_
  refine Tr.istore (pc := 41) (i := 4) (ls2 := [(4, (0, 0)), (2, (1, 0)), (0, (2, 120)), (1, (0, a1))]) d_X12_tick_41 (by decide) rfl ?_
  have J43 : ∀ (n43 : Nat) (M : Mem) (p43_2 p43_4 : Int), St Tb1 ws_X12_tick_120_w3 as_X12_tick_120_w3 M0 M → ((-9223372036854775808) ≤ p43_2 ∧ p43_2 ≤ 9223372036854775807) → (0 ≤ p43_4 ∧ p43_4 ≤ 6) → rd M 120 59 = g120_59 → rd M 120 61 = g120_61 → rd M 120 62 = g120_62 → rd M 120 68 = g120_68 → rd M 126 1 = g126_1 → (∀ p : Int, rd M 158 p = rd M0 158 p) → (6 - p43_4).toNat < n43 → Tr l K 3 mX12_tick 43 [(0, (2, 120)), (1, (0, a1)), (2, (1, p43_2)), (4, (0, p43_4))] [] M (q_X12_tick_120_w3 a1 M0) := by
    intro n43
    induction n43 with
    | zero => intro M p43_2 p43_4 hS bp43_2 bp43_4 k43_120_59 k43_120_61 k43_120_62 k43_120_68 k43_126_1 tp43_0 hm43; exact absurd hm43 (Nat.not_lt_zero _)
    | succ n43 J43 =>
      intro M p43_2 p43_4 hS bp43_2 bp43_4 k43_120_59 k43_120_61 k43_120_62 k43_120_68 k43_126_1 tp43_0 hm43
      refine Tr.iload (pc := 43) (i := 4) d_X12_tick_43 rfl ?_
      refine Tr.aload_n (pc := 45) (i := 0) d_X12_tick_45 rfl rfl ?_
      refine Tr.getf (pc := 46) d_X12_tick_46 f_12_63 (by decide) (by decide) (ty_120 hS.1.1) ?_
      refine Tr.tp 126 (fx_120_17 hS.1.1) ?_
      refine Tr.aload_n (pc := 49) (i := 0) d_X12_tick_49 rfl rfl ?_
      refine Tr.getf (pc := 50) d_X12_tick_50 f_12_48 (by decide) (by decide) (ty_120 hS.1.1) ?_
      refine Tr.tp 1 ((St.kp hS (by decide) (by decide) (by decide)).trans en_120_12) ?_
      refine Tr.iald (pc := 53) d_X12_tick_53 (ty_126 hS.1.1) (by omega) (by omega) ?_
      refine Tr.tp g126_1 k43_126_1 ?_
      refine Tr.icmp_ge (pc := 54) (tgt := 79) d_X12_tick_54 rfl (fun c54 => ?_) (fun c54 => ?_)
      · refine Tr.aload_n (pc := 79) (i := 0) d_X12_tick_79 rfl rfl ?_
        refine Tr.getf (pc := 80) d_X12_tick_80 f_12_219 (by decide) (by decide) (ty_120 hS.1.1) ?_
        refine Tr.tp g120_68 k43_120_68 ?_
        have J119 : ∀ (M : Mem), St Tb1 ws_X12_tick_120_w3 as_X12_tick_120_w3 M0 M → rd M 120 59 = g120_59 → rd M 120 61 = g120_61 → rd M 120 62 = g120_62 → rd M 120 68 = g120_68 → rd M 126 1 = g126_1 → (a1 = -1 ∨ g120_62 ≠ 2000 ∨ 1 ≤ g120_68) → (a1 ≠ -1 ∨ g120_68 = g120_68) → (∀ p : Int, rd M 158 p = rd M0 158 p) → Tr l K 3 mX12_tick 119 [(0, (2, 120)), (1, (0, a1)), (2, (1, p43_2))] [] M (q_X12_tick_120_w3 a1 M0) := by
          intro M  hS  k119_120_59 k119_120_61 k119_120_62 k119_120_68 k119_126_1 t119_0 t119_1 tp119_0
          refine Tr.aload_n (pc := 119) (i := 0) d_X12_tick_119 rfl rfl ?_
          refine Tr.getf (pc := 120) d_X12_tick_120 f_12_219 (by decide) (by decide) (ty_120 hS.1.1) ?_
          refine Tr.tp g120_68 k119_120_68 ?_
          refine Tr.if_le (pc := 123) (tgt := 128) d_X12_tick_123 rfl (fun c123 => ?_) (fun c123 => ?_)
          · refine Tr.iconst (pc := 128) d_X12_tick_128 (by decide) ?_
            refine Tr.istore (pc := 129) (i := 4) (ls2 := [(4, (0, 0)), (0, (2, 120)), (1, (0, a1)), (2, (1, p43_2))]) d_X12_tick_129 (by decide) rfl ?_
            have J131 : ∀ (n131 : Nat) (M : Mem) (p131_4 : Int), St Tb1 ws_X12_tick_120_w3 as_X12_tick_120_w3 M0 M → (0 ≤ p131_4 ∧ p131_4 ≤ 6) → rd M 120 59 = g120_59 → rd M 120 61 = g120_61 → rd M 120 62 = g120_62 → rd M 120 68 = g120_68 → rd M 126 1 = g126_1 → (DT M0 M p131_4) → (6 - p131_4).toNat < n131 → Tr l K 3 mX12_tick 131 [(0, (2, 120)), (1, (0, a1)), (2, (1, p43_2)), (4, (0, p131_4))] [] M (q_X12_tick_120_w3 a1 M0) := by
              intro n131
              induction n131 with
              | zero => intro M p131_4 hS bp131_4 k131_120_59 k131_120_61 k131_120_62 k131_120_68 k131_126_1 tp131_0 hm131; exact absurd hm131 (Nat.not_lt_zero _)
              | succ n131 J131 =>
                intro M p131_4 hS bp131_4 k131_120_59 k131_120_61 k131_120_62 k131_120_68 k131_126_1 tp131_0 hm131
                refine Tr.iload (pc := 131) (i := 4) d_X12_tick_131 rfl ?_
                refine Tr.aload_n (pc := 133) (i := 0) d_X12_tick_133 rfl rfl ?_
                refine Tr.getf (pc := 134) d_X12_tick_134 f_12_63 (by decide) (by decide) (ty_120 hS.1.1) ?_
                refine Tr.tp 126 (fx_120_17 hS.1.1) ?_
                refine Tr.aload_n (pc := 137) (i := 0) d_X12_tick_137 rfl rfl ?_
                refine Tr.getf (pc := 138) d_X12_tick_138 f_12_48 (by decide) (by decide) (ty_120 hS.1.1) ?_
                refine Tr.tp 1 ((St.kp hS (by decide) (by decide) (by decide)).trans en_120_12) ?_
                refine Tr.iald (pc := 141) d_X12_tick_141 (ty_126 hS.1.1) (by omega) (by omega) ?_
                refine Tr.tp g126_1 k131_126_1 ?_
                refine Tr.icmp_ge (pc := 142) (tgt := 297) d_X12_tick_142 rfl (fun c142 => ?_) (fun c142 => ?_)
                · refine Tr.aload_n (pc := 297) (i := 0) d_X12_tick_297 rfl rfl ?_
                  refine Tr.getz (pc := 298) d_X12_tick_298 f_12_225 (by decide) (ty_120 hS.1.1) ?_
                  refine Tr.gen (P := fun v => 0 ≤ v ∧ v ≤ 1) (ir_120_70 hS.1.2.1) (fun r298 er298 br298 => ?_)
                  have J314 : ∀ (M : Mem), St Tb1 ws_X12_tick_120_w3 as_X12_tick_120_w3 M0 M → rd M 120 59 = g120_59 → rd M 120 61 = g120_61 → rd M 120 62 = g120_62 → rd M 120 68 = g120_68 → rd M 120 70 = r298 → rd M 126 1 = g126_1 → (DE 1 M0 M) → Tr l K 3 mX12_tick 314 [(0, (2, 120)), (2, (1, p43_2))] [] M (q_X12_tick_120_w3 a1 M0) := by
                    intro M  hS  k314_120_59 k314_120_61 k314_120_62 k314_120_68 k314_120_70 k314_126_1 tp314_0
                    refine Tr.aload_n (pc := 314) (i := 0) d_X12_tick_314 rfl rfl ?_
                    refine Tr.dup (pc := 315) d_X12_tick_315 ne21 ?_
                    refine Tr.getf (pc := 316) d_X12_tick_316 f_12_204 (by decide) (by decide) (ty_120 hS.1.1) ?_
                    refine Tr.gen (P := fun v => (-9223372036854775808) ≤ v ∧ v ≤ 9223372036854775807) (ir_120_63 hS.1.2.1) (fun r316 er316 br316 => ?_)
                    refine Tr.lload_n (pc := 319) (i := 2) d_X12_tick_319 rfl rfl ?_
                    refine Tr.ladd (pc := 320) d_X12_tick_320 ?_
                    refine Tr.gen (P := fun v => (-9223372036854775808) ≤ v ∧ v ≤ 9223372036854775807) (w64_b _) (fun r320 er320 br320 => ?_)
                    refine Tr.putfS (pc := 321) (P := St Tb1 ws_X12_tick_120_w3 as_X12_tick_120_w3 M0) d_X12_tick_321 f_12_204 (by decide) (by decide) (ty_120 hS.1.1) (st_120_63 hS (by decide) (by omega) (Tb1.of hS.1.2.2.2.2 (fun _ => rd_wb _ rfl) (rd_wb _ rfl))) (fun M321 hS w321 => ?_)
                    refine Tr.aload_n (pc := 324) (i := 0) d_X12_tick_324 rfl rfl ?_
                    refine Tr.dup (pc := 325) d_X12_tick_325 ne21 ?_
                    refine Tr.getf (pc := 326) d_X12_tick_326 f_12_201 (by decide) (by decide) (ty_120 hS.1.1) ?_
                    refine Tr.tp g120_62 ((Wr.b w321 rfl).trans k314_120_62) ?_
                    refine Tr.iconst (pc := 329) d_X12_tick_329 (by decide) ?_
                    refine Tr.iadd (pc := 330) d_X12_tick_330 ?_
                    refine Tr.tp (g120_62 + 1) ((w32_id (by omega)).trans (by omega)) ?_
                    refine Tr.putfS (pc := 331) (P := St Tb1 ws_X12_tick_120_w3 as_X12_tick_120_w3 M0) d_X12_tick_331 f_12_201 (by decide) (by decide) (ty_120 hS.1.1) (st_120_62 hS (by decide) (by omega) (Tb1.of hS.1.2.2.2.2 (fun _ => rd_wb _ rfl) (rd_wb _ rfl))) (fun M331 hS w331 => ?_)
                    refine Tr.iconst (pc := 334) d_X12_tick_334 (by decide) ?_
                    have kr_120_59 : rd M331 120 59 = g120_59 := ((Wr.b w331 rfl).trans ((Wr.b w321 rfl).trans k314_120_59))
                    have kr_120_62 : rd M331 120 62 = (g120_62 + 1) := w331.1
                    have kr_120_68 : rd M331 120 68 = g120_68 := ((Wr.b w331 rfl).trans ((Wr.b w321 rfl).trans k314_120_68))
                    exact Tr.zret (pc := 335) d_X12_tick_335 rfl (by omega) ⟨hS, _, rfl, by omega, by omega, by omega, by omega, by omega, (fun _ B B1 hB => dt_end (DE.fr tp314_0 (fun p => ((Wr.b w331 rfl).trans ((Wr.b w321 rfl).trans rfl)))) (St.kp hS (by decide) (by decide) (by decide)) (fun p => St.ka hS (by decide) (by decide) (by decide)) B1 hB)⟩
                  refine Tr.if_eq (pc := 301) (tgt := 314) d_X12_tick_301 rfl (fun c301 => ?_) (fun c301 => ?_)
                  · refine Tr.pick [0, 2] (ls2 := [(0, (2, 120)), (2, (1, p43_2))]) rfl ?_
                    exact J314 _ hS k131_120_59 k131_120_61 k131_120_62 k131_120_68 er298 k131_126_1 ⟨p131_4, by omega, DT.fr tp131_0 (fun p => rfl)⟩
                  · refine Tr.aload_n (pc := 304) (i := 0) d_X12_tick_304 rfl rfl ?_
                    refine Tr.getf (pc := 305) d_X12_tick_305 f_12_228 (by decide) (by decide) (ty_120 hS.1.1) ?_
                    refine Tr.tp 162 (fx_120_71 hS.1.1) ?_
                    refine Tr.aload_n (pc := 308) (i := 0) d_X12_tick_308 rfl rfl ?_
                    refine Tr.getf (pc := 309) d_X12_tick_309 f_12_201 (by decide) (by decide) (ty_120 hS.1.1) ?_
                    refine Tr.tp g120_62 k131_120_62 ?_
                    refine Tr.iload_n (pc := 312) (i := 1) d_X12_tick_312 rfl rfl ?_
                    refine Tr.tp (-1) (by omega) ?_
                    refine Tr.iastS (pc := 313) (P := St Tb1 ws_X12_tick_120_w3 as_X12_tick_120_w3 M0) d_X12_tick_313 (ty_162 hS.1.1) (by omega) (by omega) (sa_162 hS (by decide) (by omega) (Tb1.of hS.1.2.2.2.2 (fun _ => rd_wb _ rfl) (rd_wb _ rfl))) (fun M313 hS w313 => ?_)
                    refine Tr.pick [0, 2] (ls2 := [(0, (2, 120)), (2, (1, p43_2))]) rfl ?_
                    exact J314 _ hS ((Wr.b w313 rfl).trans k131_120_59) ((Wr.b w313 rfl).trans k131_120_61) ((Wr.b w313 rfl).trans k131_120_62) ((Wr.b w313 rfl).trans k131_120_68) ((Wr.b w313 rfl).trans er298) ((Wr.b w313 rfl).trans k131_126_1) ⟨p131_4, by omega, DT.fr tp131_0 (fun p => ((Wr.b w313 rfl).trans rfl))⟩
                · refine Tr.aload_n (pc := 145) (i := 0) d_X12_tick_145 rfl rfl ?_
                  refine Tr.iload (pc := 146) (i := 4) d_X12_tick_146 rfl ?_
                  refine Tr.callV (pc := 148) (as := [_]) d_X12_tick_148 s_12_571 ok_X12_stateOf rfl rfl (Nat.le_of_ble_eq_true rfl) (Nat.le_of_ble_eq_true rfl) (by decide) (ty_120 hS.1.1) ?_
                  refine Tr.imp (Tr.deep (by decide) (sp_X12_stateOf_120 hS.1.wk p131_4 (by omega))) ?_
                  rintro M148 _ ⟨h148, r148, rfl, lr148, ur148, z148_0⟩
                  have h148 := St.rn h148 (Tb1.of hS.1.2.2.2.2 (fun _ => (St.ka h148 (by decide) (by decide) (by decide))) (St.kp h148 (by decide) (by decide) (by decide)))
                  have hS := St.tr hS h148 (by decide) (by decide)
                  have ka148_120_59 : rd M148 120 59 = g120_59 := ((St.kp h148 (by decide) (by decide) (by decide)).trans k131_120_59)
                  have ka148_120_61 : rd M148 120 61 = g120_61 := ((St.kp h148 (by decide) (by decide) (by decide)).trans k131_120_61)
                  refine Tr.sc [(0, r148)] rfl ?_
                  obtain ⟨th156, eth156⟩ : ∃ v, rd M 156 p131_4 = v := ⟨_, rfl⟩
                  have bth156 : 0 ≤ th156 ∧ th156 ≤ 1 := by rw [← eth156, ← show rd M148 156 p131_4 = rd M 156 p131_4 from St.ka h148 (by decide) (by decide) (by decide)]; exact ar_156 hS.1.2.1 _
                  obtain ⟨th158, eth158⟩ : ∃ v, rd M 158 p131_4 = v := ⟨_, rfl⟩
                  have bth158 : (-2147483648) ≤ th158 ∧ th158 ≤ 2147483647 := by rw [← eth158, ← show rd M148 158 p131_4 = rd M 158 p131_4 from St.ka h148 (by decide) (by decide) (by decide)]; exact ar_158 hS.1.2.1 _
                  have q156 : rd M 156 p131_4 = rd M0 156 p131_4 := (St.ka h148 (by decide) (by decide) (by decide)).symm.trans (St.ka hS (by decide) (by decide) (by decide))
                  have q158 : rd M 158 p131_4 = rd M0 158 p131_4 := (tp131_0 p131_4 (by omega)).2.1 (by omega)
                  refine Tr.istore (pc := 151) (i := 5) (ls2 := [(5, (0, r148)), (0, (2, 120)), (1, (0, a1)), (2, (1, p43_2)), (4, (0, p131_4))]) d_X12_tick_151 (by decide) rfl ?_
                  refine Tr.aload_n (pc := 153) (i := 0) d_X12_tick_153 rfl rfl ?_
                  refine Tr.getf (pc := 154) d_X12_tick_154 f_12_222 (by decide) (by decide) (ty_120 hS.1.1) ?_
                  refine Tr.tp 161 (fx_120_69 hS.1.1) ?_
                  refine Tr.iconst (pc := 157) d_X12_tick_157 (by decide) ?_
                  refine Tr.iload (pc := 158) (i := 4) d_X12_tick_158 rfl ?_
                  refine Tr.imul (pc := 160) d_X12_tick_160 ?_
                  refine Tr.tp (4 * p131_4) ((w32_id (by omega)).trans (by omega)) ?_
                  refine Tr.iload (pc := 161) (i := 5) d_X12_tick_161 rfl ?_
                  refine Tr.iadd (pc := 163) d_X12_tick_163 ?_
                  refine Tr.tp (4 * p131_4 + r148) ((w32_id (by omega)).trans (by omega)) ?_
                  refine Tr.dup2 (pc := 164) d_X12_tick_164 ne01 ne21 ?_
                  refine Tr.iald (pc := 165) d_X12_tick_165 (ty_161 hS.1.1) (by omega) (by omega) ?_
                  refine Tr.gen (P := fun v => (-2147483648) ≤ v ∧ v ≤ 2147483647) (ar_161 hS.1.2.1 _) (fun r165 er165 br165 => ?_)
                  refine Tr.iconst (pc := 166) d_X12_tick_166 (by decide) ?_
                  refine Tr.iadd (pc := 167) d_X12_tick_167 ?_
                  refine Tr.gen (P := fun v => (-2147483648) ≤ v ∧ v ≤ 2147483647) (w32_b _) (fun r167 er167 br167 => ?_)
                  refine Tr.iastS (pc := 168) (P := St Tb1 ws_X12_tick_120_w3 as_X12_tick_120_w3 M0) d_X12_tick_168 (ty_161 hS.1.1) (by omega) (by omega) (sa_161 hS (by decide) (by omega) (Tb1.of hS.1.2.2.2.2 (fun _ => rd_wb _ rfl) (rd_wb _ rfl))) (fun M168 hS w168 => ?_)
                  refine Tr.aload_n (pc := 169) (i := 0) d_X12_tick_169 rfl rfl ?_
                  refine Tr.getz (pc := 170) d_X12_tick_170 f_12_225 (by decide) (ty_120 hS.1.1) ?_
                  refine Tr.gen (P := fun v => 0 ≤ v ∧ v ≤ 1) (ir_120_70 hS.1.2.1) (fun r170 er170 br170 => ?_)
                  have J264 : ∀ (M : Mem), St Tb1 ws_X12_tick_120_w3 as_X12_tick_120_w3 M0 M → rd M 120 59 = g120_59 → rd M 120 61 = g120_61 → rd M 120 62 = g120_62 → rd M 120 68 = g120_68 → rd M 120 70 = r170 → rd M 126 1 = g126_1 → rd M 156 p131_4 = th156 → rd M 158 p131_4 = th158 → rd M 161 (4 * p131_4 + r148) = r167 → (DT M0 M p131_4) → Tr l K 3 mX12_tick 264 [(0, (2, 120)), (1, (0, a1)), (2, (1, p43_2)), (4, (0, p131_4)), (5, (0, r148))] [] M (q_X12_tick_120_w3 a1 M0) := by
                    intro M  hS  k264_120_59 k264_120_61 k264_120_62 k264_120_68 k264_120_70 k264_126_1 k264_156_p131_410 k264_158_p131_410 k264_161_p131_44r14810 tp264_0
                    refine Tr.iload (pc := 264) (i := 5) d_X12_tick_264 rfl ?_
                    refine Tr.iconst (pc := 266) d_X12_tick_266 (by decide) ?_
                    have J291 : ∀ (M : Mem), St Tb1 ws_X12_tick_120_w3 as_X12_tick_120_w3 M0 M → rd M 120 59 = g120_59 → rd M 120 61 = g120_61 → rd M 120 62 = g120_62 → rd M 120 68 = g120_68 → rd M 120 70 = r170 → rd M 126 1 = g126_1 → rd M 156 p131_4 = th156 → rd M 161 (4 * p131_4 + r148) = r167 → (DT M0 M (p131_4 + 1)) → Tr l K 3 mX12_tick 291 [(0, (2, 120)), (1, (0, a1)), (2, (1, p43_2)), (4, (0, p131_4))] [] M (q_X12_tick_120_w3 a1 M0) := by
                      intro M  hS  k291_120_59 k291_120_61 k291_120_62 k291_120_68 k291_120_70 k291_126_1 k291_156_p131_410 k291_161_p131_44r14810 tp291_0
                      refine Tr.iincV (pc := 291) (n2 := (p131_4 + 1)) (ls2 := [(4, (0, (p131_4 + 1))), (0, (2, 120)), (1, (0, a1)), (2, (1, p43_2))]) d_X12_tick_291 rfl (by decide) ((w32_id (by omega)).trans (by omega)) rfl ?_
                      refine Tr.goto (pc := 294) (tgt := 131) d_X12_tick_294 rfl ?_
                      refine Tr.pick [1, 2, 3, 0] (ls2 := [(0, (2, 120)), (1, (0, a1)), (2, (1, p43_2)), (4, (0, (p131_4 + 1)))]) rfl ?_
                      exact J131 _ _ hS (by omega) k291_120_59 k291_120_61 k291_120_62 k291_120_68 k291_126_1 tp291_0 (by omega)
                    refine Tr.icmp_ne (pc := 267) (tgt := 291) d_X12_tick_267 rfl (fun c267 => ?_) (fun c267 => ?_)
                    · refine Tr.pick [0, 1, 2, 3] (ls2 := [(0, (2, 120)), (1, (0, a1)), (2, (1, p43_2)), (4, (0, p131_4))]) rfl ?_
                      have q9 : rd M 156 p131_4 = rd M0 156 p131_4 := St.ka hS (by decide) (by decide) (by decide)
                      exact J291 _ hS k264_120_59 k264_120_61 k264_120_62 k264_120_68 k264_120_70 k264_126_1 k264_156_p131_410 k264_161_p131_44r14810 (dt_skip tp264_0 (by omega) (fun hh => by omega))
                    · refine Tr.aload_n (pc := 270) (i := 0) d_X12_tick_270 rfl rfl ?_
                      refine Tr.getf (pc := 271) d_X12_tick_271 f_12_177 (by decide) (by decide) (ty_120 hS.1.1) ?_
                      refine Tr.tp 156 (fx_120_54 hS.1.1) ?_
                      refine Tr.iload (pc := 274) (i := 4) d_X12_tick_274 rfl ?_
                      refine Tr.zald (pc := 276) d_X12_tick_276 (ty_156 hS.1.1) (by omega) (by omega) ?_
                      refine Tr.tp th156 k264_156_p131_410 ?_
                      refine Tr.if_ne (pc := 277) (tgt := 291) d_X12_tick_277 rfl (fun c277 => ?_) (fun c277 => ?_)
                      · refine Tr.pick [0, 1, 2, 3] (ls2 := [(0, (2, 120)), (1, (0, a1)), (2, (1, p43_2)), (4, (0, p131_4))]) rfl ?_
                        have q9 : rd M 156 p131_4 = rd M0 156 p131_4 := St.ka hS (by decide) (by decide) (by decide)
                        exact J291 _ hS k264_120_59 k264_120_61 k264_120_62 k264_120_68 k264_120_70 k264_126_1 k264_156_p131_410 k264_161_p131_44r14810 (dt_skip tp264_0 (by omega) (fun hh => by omega))
                      · refine Tr.aload_n (pc := 280) (i := 0) d_X12_tick_280 rfl rfl ?_
                        refine Tr.getf (pc := 281) d_X12_tick_281 f_12_183 (by decide) (by decide) (ty_120 hS.1.1) ?_
                        refine Tr.tp 158 (fx_120_56 hS.1.1) ?_
                        refine Tr.iload (pc := 284) (i := 4) d_X12_tick_284 rfl ?_
                        refine Tr.dup2 (pc := 286) d_X12_tick_286 ne01 ne21 ?_
                        refine Tr.iald (pc := 287) d_X12_tick_287 (ty_158 hS.1.1) (by omega) (by omega) ?_
                        refine Tr.tp th158 k264_158_p131_410 ?_
                        refine Tr.iconst (pc := 288) d_X12_tick_288 (by decide) ?_
                        refine Tr.isub (pc := 289) d_X12_tick_289 ?_
                        refine Tr.tp (th158 - 1) ((w32_id (by omega)).trans (by omega)) ?_
                        refine Tr.iastS (pc := 290) (P := St Tb1 ws_X12_tick_120_w3 as_X12_tick_120_w3 M0) d_X12_tick_290 (ty_158 hS.1.1) (by omega) (by omega) (sa_158 hS (by decide) (by omega) (Tb1_wr hS.1.2.2.2.2 (fun i0 i1 => by have h8 := hS.1.2.2.2.2 _ i0 i1; omega))) (fun M290 hS w290 => ?_)
                        refine Tr.pick [0, 1, 2, 3] (ls2 := [(0, (2, 120)), (1, (0, a1)), (2, (1, p43_2)), (4, (0, p131_4))]) rfl ?_
                        have q9 : rd M290 156 p131_4 = rd M0 156 p131_4 := St.ka hS (by decide) (by decide) (by decide)
                        exact J291 _ hS ((Wr.b w290 rfl).trans k264_120_59) ((Wr.b w290 rfl).trans k264_120_61) ((Wr.b w290 rfl).trans k264_120_62) ((Wr.b w290 rfl).trans k264_120_68) ((Wr.b w290 rfl).trans k264_120_70) ((Wr.b w290 rfl).trans k264_126_1) ((Wr.b w290 rfl).trans k264_156_p131_410) ((Wr.b w290 rfl).trans k264_161_p131_44r14810) (dt_dec tp264_0 (by rw [k264_158_p131_410]; exact w290))
                  refine Tr.if_eq (pc := 173) (tgt := 264) d_X12_tick_173 rfl (fun c173 => ?_) (fun c173 => ?_)
                  · refine Tr.pick [1, 2, 3, 4, 0] (ls2 := [(0, (2, 120)), (1, (0, a1)), (2, (1, p43_2)), (4, (0, p131_4)), (5, (0, r148))]) rfl ?_
                    exact J264 _ hS ((Wr.b w168 rfl).trans ((St.kp h148 (by decide) (by decide) (by decide)).trans k131_120_59)) ((Wr.b w168 rfl).trans ((St.kp h148 (by decide) (by decide) (by decide)).trans k131_120_61)) ((Wr.b w168 rfl).trans ((St.kp h148 (by decide) (by decide) (by decide)).trans k131_120_62)) ((Wr.b w168 rfl).trans ((St.kp h148 (by decide) (by decide) (by decide)).trans k131_120_68)) er170 ((Wr.b w168 rfl).trans ((St.kp h148 (by decide) (by decide) (by decide)).trans k131_126_1)) ((Wr.b w168 rfl).trans ((St.ka h148 (by decide) (by decide) (by decide)).trans eth156)) ((Wr.b w168 rfl).trans ((St.ka h148 (by decide) (by decide) (by decide)).trans eth158)) w168.1 (DT.fr tp131_0 (fun p => ((Wr.b w168 rfl).trans ((St.ka h148 (by decide) (by decide) (by decide)).trans rfl))))
                  · refine Tr.aload_n (pc := 176) (i := 0) d_X12_tick_176 rfl rfl ?_
                    refine Tr.getf (pc := 177) d_X12_tick_177 f_12_231 (by decide) (by decide) (ty_120 hS.1.1) ?_
                    refine Tr.tp 163 (fx_120_72 hS.1.1) ?_
                    refine Tr.sipush (pc := 180) d_X12_tick_180 rfl (by decide) ?_
                    refine Tr.iload (pc := 183) (i := 4) d_X12_tick_183 rfl ?_
                    refine Tr.imul (pc := 185) d_X12_tick_185 ?_
                    refine Tr.tp (2100 * p131_4) ((w32_id (by omega)).trans (by omega)) ?_
                    refine Tr.aload_n (pc := 186) (i := 0) d_X12_tick_186 rfl rfl ?_
                    refine Tr.getf (pc := 187) d_X12_tick_187 f_12_201 (by decide) (by decide) (ty_120 hS.1.1) ?_
                    refine Tr.tp g120_62 ((Wr.b w168 rfl).trans ((St.kp h148 (by decide) (by decide) (by decide)).trans k131_120_62)) ?_
                    refine Tr.iadd (pc := 190) d_X12_tick_190 ?_
                    refine Tr.tp (g120_62 + 2100 * p131_4) ((w32_id (by omega)).trans (by omega)) ?_
                    refine Tr.iload (pc := 191) (i := 5) d_X12_tick_191 rfl ?_
                    refine Tr.iastS (pc := 193) (P := St Tb1 ws_X12_tick_120_w3 as_X12_tick_120_w3 M0) d_X12_tick_193 (ty_163 hS.1.1) (by omega) (by omega) (sa_163 hS (by decide) (by omega) (Tb1.of hS.1.2.2.2.2 (fun _ => rd_wb _ rfl) (rd_wb _ rfl))) (fun M193 hS w193 => ?_)
                    refine Tr.aload_n (pc := 194) (i := 0) d_X12_tick_194 rfl rfl ?_
                    refine Tr.getf (pc := 195) d_X12_tick_195 f_12_234 (by decide) (by decide) (ty_120 hS.1.1) ?_
                    refine Tr.tp 164 (fx_120_73 hS.1.1) ?_
                    refine Tr.sipush (pc := 198) d_X12_tick_198 rfl (by decide) ?_
                    refine Tr.iload (pc := 201) (i := 4) d_X12_tick_201 rfl ?_
                    refine Tr.imul (pc := 203) d_X12_tick_203 ?_
                    refine Tr.tp (2100 * p131_4) ((w32_id (by omega)).trans (by omega)) ?_
                    refine Tr.aload_n (pc := 204) (i := 0) d_X12_tick_204 rfl rfl ?_
                    refine Tr.getf (pc := 205) d_X12_tick_205 f_12_201 (by decide) (by decide) (ty_120 hS.1.1) ?_
                    refine Tr.tp g120_62 ((Wr.b w193 rfl).trans ((Wr.b w168 rfl).trans ((St.kp h148 (by decide) (by decide) (by decide)).trans k131_120_62))) ?_
                    refine Tr.iadd (pc := 208) d_X12_tick_208 ?_
                    refine Tr.tp (g120_62 + 2100 * p131_4) ((w32_id (by omega)).trans (by omega)) ?_
                    refine Tr.iload (pc := 209) (i := 5) d_X12_tick_209 rfl ?_
                    refine Tr.iconst (pc := 211) d_X12_tick_211 (by decide) ?_
                    have J226 : ∀ (M : Mem) (q226_2 : Int), St Tb1 ws_X12_tick_120_w3 as_X12_tick_120_w3 M0 M → ((-1) ≤ q226_2 ∧ q226_2 ≤ 59) → rd M 120 59 = g120_59 → rd M 120 61 = g120_61 → rd M 120 62 = g120_62 → rd M 120 68 = g120_68 → rd M 120 70 = r170 → rd M 126 1 = g126_1 → rd M 156 p131_4 = th156 → rd M 158 p131_4 = th158 → rd M 161 (4 * p131_4 + r148) = r167 → rd M 163 (g120_62 + 2100 * p131_4) = r148 → (DT M0 M p131_4) → Tr l K 3 mX12_tick 226 [(0, (2, 120)), (1, (0, a1)), (2, (1, p43_2)), (4, (0, p131_4)), (5, (0, r148))] [(0, q226_2), (0, (g120_62 + 2100 * p131_4)), (2, 164)] M (q_X12_tick_120_w3 a1 M0) := by
                      intro M q226_2 hS bq226_2 k226_120_59 k226_120_61 k226_120_62 k226_120_68 k226_120_70 k226_126_1 k226_156_p131_410 k226_158_p131_410 k226_161_p131_44r14810 k226_163_g120_621p131_421000 tp226_0
                      refine Tr.iastS (pc := 226) (P := St Tb1 ws_X12_tick_120_w3 as_X12_tick_120_w3 M0) d_X12_tick_226 (ty_164 hS.1.1) (by omega) (by omega) (sa_164 hS (by decide) (by omega) (Tb1.of hS.1.2.2.2.2 (fun _ => rd_wb _ rfl) (rd_wb _ rfl))) (fun M226 hS w226 => ?_)
                      refine Tr.aload_n (pc := 227) (i := 0) d_X12_tick_227 rfl rfl ?_
                      refine Tr.getf (pc := 228) d_X12_tick_228 f_12_237 (by decide) (by decide) (ty_120 hS.1.1) ?_
                      refine Tr.tp 165 (fx_120_74 hS.1.1) ?_
                      refine Tr.sipush (pc := 231) d_X12_tick_231 rfl (by decide) ?_
                      refine Tr.iload (pc := 234) (i := 4) d_X12_tick_234 rfl ?_
                      refine Tr.imul (pc := 236) d_X12_tick_236 ?_
                      refine Tr.tp (2100 * p131_4) ((w32_id (by omega)).trans (by omega)) ?_
                      refine Tr.aload_n (pc := 237) (i := 0) d_X12_tick_237 rfl rfl ?_
                      refine Tr.getf (pc := 238) d_X12_tick_238 f_12_201 (by decide) (by decide) (ty_120 hS.1.1) ?_
                      refine Tr.tp g120_62 ((Wr.b w226 rfl).trans k226_120_62) ?_
                      refine Tr.iadd (pc := 241) d_X12_tick_241 ?_
                      refine Tr.tp (g120_62 + 2100 * p131_4) ((w32_id (by omega)).trans (by omega)) ?_
                      refine Tr.aload_n (pc := 242) (i := 0) d_X12_tick_242 rfl rfl ?_
                      refine Tr.getf (pc := 243) d_X12_tick_243 f_12_177 (by decide) (by decide) (ty_120 hS.1.1) ?_
                      refine Tr.tp 156 (fx_120_54 hS.1.1) ?_
                      refine Tr.iload (pc := 246) (i := 4) d_X12_tick_246 rfl ?_
                      refine Tr.zald (pc := 248) d_X12_tick_248 (ty_156 hS.1.1) (by omega) (by omega) ?_
                      refine Tr.tp th156 ((Wr.b w226 rfl).trans k226_156_p131_410) ?_
                      have J263 : ∀ (M : Mem) (q263_2 : Int), St Tb1 ws_X12_tick_120_w3 as_X12_tick_120_w3 M0 M → ((-1) ≤ q263_2 ∧ q263_2 ≤ 59) → rd M 120 59 = g120_59 → rd M 120 61 = g120_61 → rd M 120 62 = g120_62 → rd M 120 68 = g120_68 → rd M 120 70 = r170 → rd M 126 1 = g126_1 → rd M 156 p131_4 = th156 → rd M 158 p131_4 = th158 → rd M 161 (4 * p131_4 + r148) = r167 → rd M 163 (g120_62 + 2100 * p131_4) = r148 → rd M 164 (g120_62 + 2100 * p131_4) = q226_2 → (DT M0 M p131_4) → Tr l K 3 mX12_tick 263 [(0, (2, 120)), (1, (0, a1)), (2, (1, p43_2)), (4, (0, p131_4)), (5, (0, r148))] [(0, q263_2), (0, (g120_62 + 2100 * p131_4)), (2, 165)] M (q_X12_tick_120_w3 a1 M0) := by
                        intro M q263_2 hS bq263_2 k263_120_59 k263_120_61 k263_120_62 k263_120_68 k263_120_70 k263_126_1 k263_156_p131_410 k263_158_p131_410 k263_161_p131_44r14810 k263_163_g120_621p131_421000 k263_164_g120_621p131_421000 tp263_0
                        refine Tr.iastS (pc := 263) (P := St Tb1 ws_X12_tick_120_w3 as_X12_tick_120_w3 M0) d_X12_tick_263 (ty_165 hS.1.1) (by omega) (by omega) (sa_165 hS (by decide) (by omega) (Tb1.of hS.1.2.2.2.2 (fun _ => rd_wb _ rfl) (rd_wb _ rfl))) (fun M263 hS w263 => ?_)
                        refine Tr.pick [0, 1, 2, 3, 4] (ls2 := [(0, (2, 120)), (1, (0, a1)), (2, (1, p43_2)), (4, (0, p131_4)), (5, (0, r148))]) rfl ?_
                        exact J264 _ hS ((Wr.b w263 rfl).trans k263_120_59) ((Wr.b w263 rfl).trans k263_120_61) ((Wr.b w263 rfl).trans k263_120_62) ((Wr.b w263 rfl).trans k263_120_68) ((Wr.b w263 rfl).trans k263_120_70) ((Wr.b w263 rfl).trans k263_126_1) ((Wr.b w263 rfl).trans k263_156_p131_410) ((Wr.b w263 rfl).trans k263_158_p131_410) ((Wr.b w263 rfl).trans k263_161_p131_44r14810) (DT.fr tp263_0 (fun p => ((Wr.b w263 rfl).trans rfl)))
                      refine Tr.if_eq (pc := 249) (tgt := 262) d_X12_tick_249 rfl (fun c249 => ?_) (fun c249 => ?_)
                      · refine Tr.iconst (pc := 262) d_X12_tick_262 (by decide) ?_
                        refine Tr.pick [0, 1, 2, 3, 4] (ls2 := [(0, (2, 120)), (1, (0, a1)), (2, (1, p43_2)), (4, (0, p131_4)), (5, (0, r148))]) rfl ?_
                        exact J263 _ _ hS (by omega) ((Wr.b w226 rfl).trans k226_120_59) ((Wr.b w226 rfl).trans k226_120_61) ((Wr.b w226 rfl).trans k226_120_62) ((Wr.b w226 rfl).trans k226_120_68) ((Wr.b w226 rfl).trans k226_120_70) ((Wr.b w226 rfl).trans k226_126_1) ((Wr.b w226 rfl).trans k226_156_p131_410) ((Wr.b w226 rfl).trans k226_158_p131_410) ((Wr.b w226 rfl).trans k226_161_p131_44r14810) ((Wr.b w226 rfl).trans k226_163_g120_621p131_421000) w226.1 (DT.fr tp226_0 (fun p => ((Wr.b w226 rfl).trans rfl)))
                      · refine Tr.aload_n (pc := 252) (i := 0) d_X12_tick_252 rfl rfl ?_
                        refine Tr.getf (pc := 253) d_X12_tick_253 f_12_180 (by decide) (by decide) (ty_120 hS.1.1) ?_
                        refine Tr.tp 157 (fx_120_55 hS.1.1) ?_
                        refine Tr.iload (pc := 256) (i := 4) d_X12_tick_256 rfl ?_
                        refine Tr.iald (pc := 258) d_X12_tick_258 (ty_157 hS.1.1) (by omega) (by omega) ?_
                        refine Tr.gen (P := fun v => (-1) ≤ v ∧ v ≤ 59) (ar_157 hS.1.2.1 _) (fun r258 er258 br258 => ?_)
                        refine Tr.goto (pc := 259) (tgt := 263) d_X12_tick_259 rfl ?_
                        refine Tr.pick [0, 1, 2, 3, 4] (ls2 := [(0, (2, 120)), (1, (0, a1)), (2, (1, p43_2)), (4, (0, p131_4)), (5, (0, r148))]) rfl ?_
                        exact J263 _ _ hS (by omega) ((Wr.b w226 rfl).trans k226_120_59) ((Wr.b w226 rfl).trans k226_120_61) ((Wr.b w226 rfl).trans k226_120_62) ((Wr.b w226 rfl).trans k226_120_68) ((Wr.b w226 rfl).trans k226_120_70) ((Wr.b w226 rfl).trans k226_126_1) ((Wr.b w226 rfl).trans k226_156_p131_410) ((Wr.b w226 rfl).trans k226_158_p131_410) ((Wr.b w226 rfl).trans k226_161_p131_44r14810) ((Wr.b w226 rfl).trans k226_163_g120_621p131_421000) w226.1 (DT.fr tp226_0 (fun p => ((Wr.b w226 rfl).trans rfl)))
                    refine Tr.icmp_ne (pc := 212) (tgt := 225) d_X12_tick_212 rfl (fun c212 => ?_) (fun c212 => ?_)
                    · refine Tr.iload_n (pc := 225) (i := 1) d_X12_tick_225 rfl rfl ?_
                      refine Tr.tp (-1) (by omega) ?_
                      refine Tr.pick [1, 2, 3, 4, 0] (ls2 := [(0, (2, 120)), (1, (0, a1)), (2, (1, p43_2)), (4, (0, p131_4)), (5, (0, r148))]) rfl ?_
                      exact J226 _ _ hS (by omega) ((Wr.b w193 rfl).trans ((Wr.b w168 rfl).trans ((St.kp h148 (by decide) (by decide) (by decide)).trans k131_120_59))) ((Wr.b w193 rfl).trans ((Wr.b w168 rfl).trans ((St.kp h148 (by decide) (by decide) (by decide)).trans k131_120_61))) ((Wr.b w193 rfl).trans ((Wr.b w168 rfl).trans ((St.kp h148 (by decide) (by decide) (by decide)).trans k131_120_62))) ((Wr.b w193 rfl).trans ((Wr.b w168 rfl).trans ((St.kp h148 (by decide) (by decide) (by decide)).trans k131_120_68))) ((Wr.b w193 rfl).trans er170) ((Wr.b w193 rfl).trans ((Wr.b w168 rfl).trans ((St.kp h148 (by decide) (by decide) (by decide)).trans k131_126_1))) ((Wr.b w193 rfl).trans ((Wr.b w168 rfl).trans ((St.ka h148 (by decide) (by decide) (by decide)).trans eth156))) ((Wr.b w193 rfl).trans ((Wr.b w168 rfl).trans ((St.ka h148 (by decide) (by decide) (by decide)).trans eth158))) ((Wr.b w193 rfl).trans w168.1) w193.1 (DT.fr tp131_0 (fun p => ((Wr.b w193 rfl).trans ((Wr.b w168 rfl).trans ((St.ka h148 (by decide) (by decide) (by decide)).trans rfl)))))
                    · refine Tr.aload_n (pc := 215) (i := 0) d_X12_tick_215 rfl rfl ?_
                      refine Tr.getf (pc := 216) d_X12_tick_216 f_12_186 (by decide) (by decide) (ty_120 hS.1.1) ?_
                      refine Tr.tp 159 (fx_120_57 hS.1.1) ?_
                      refine Tr.iload (pc := 219) (i := 4) d_X12_tick_219 rfl ?_
                      refine Tr.iald (pc := 221) d_X12_tick_221 (ty_159 hS.1.1) (by omega) (by omega) ?_
                      refine Tr.gen (P := fun v => (-1) ≤ v ∧ v ≤ 59) (ar_159 hS.1.2.1 _) (fun r221 er221 br221 => ?_)
                      refine Tr.goto (pc := 222) (tgt := 226) d_X12_tick_222 rfl ?_
                      refine Tr.pick [1, 2, 3, 4, 0] (ls2 := [(0, (2, 120)), (1, (0, a1)), (2, (1, p43_2)), (4, (0, p131_4)), (5, (0, r148))]) rfl ?_
                      exact J226 _ _ hS (by omega) ((Wr.b w193 rfl).trans ((Wr.b w168 rfl).trans ((St.kp h148 (by decide) (by decide) (by decide)).trans k131_120_59))) ((Wr.b w193 rfl).trans ((Wr.b w168 rfl).trans ((St.kp h148 (by decide) (by decide) (by decide)).trans k131_120_61))) ((Wr.b w193 rfl).trans ((Wr.b w168 rfl).trans ((St.kp h148 (by decide) (by decide) (by decide)).trans k131_120_62))) ((Wr.b w193 rfl).trans ((Wr.b w168 rfl).trans ((St.kp h148 (by decide) (by decide) (by decide)).trans k131_120_68))) ((Wr.b w193 rfl).trans er170) ((Wr.b w193 rfl).trans ((Wr.b w168 rfl).trans ((St.kp h148 (by decide) (by decide) (by decide)).trans k131_126_1))) ((Wr.b w193 rfl).trans ((Wr.b w168 rfl).trans ((St.ka h148 (by decide) (by decide) (by decide)).trans eth156))) ((Wr.b w193 rfl).trans ((Wr.b w168 rfl).trans ((St.ka h148 (by decide) (by decide) (by decide)).trans eth158))) ((Wr.b w193 rfl).trans w168.1) w193.1 (DT.fr tp131_0 (fun p => ((Wr.b w193 rfl).trans ((Wr.b w168 rfl).trans ((St.ka h148 (by decide) (by decide) (by decide)).trans rfl)))))
            refine Tr.pick [1, 2, 3, 0] (ls2 := [(0, (2, 120)), (1, (0, a1)), (2, (1, p43_2)), (4, (0, 0))]) rfl ?_
            exact J131 _ _ _ hS (by omega) k119_120_59 k119_120_61 k119_120_62 k119_120_68 k119_126_1 (fun p p0 => ⟨Int.le_of_eq ((tp119_0 p)), fun _ => (tp119_0 p), fun c => absurd c (by omega)⟩) (Nat.lt_succ_self _)
          · refine Tr.iconst (pc := 126) d_X12_tick_126 (by decide) ?_
            have kr_120_59 : rd M 120 59 = g120_59 := k119_120_59
            have kr_120_62 : rd M 120 62 = g120_62 := k119_120_62
            have kr_120_68 : rd M 120 68 = g120_68 := k119_120_68
            exact Tr.zret (pc := 127) d_X12_tick_127 rfl (by omega) ⟨hS, _, rfl, by omega, by omega, by omega, by omega, by omega, (fun c => absurd c (by omega))⟩
        refine Tr.if_ne (pc := 83) (tgt := 119) d_X12_tick_83 rfl (fun c83 => ?_) (fun c83 => ?_)
        · refine Tr.pick [0, 1, 2] (ls2 := [(0, (2, 120)), (1, (0, a1)), (2, (1, p43_2))]) rfl ?_
          exact J119 _ hS k43_120_59 k43_120_61 k43_120_62 k43_120_68 k43_126_1 (by first | assumption | omega) (by first | assumption | omega) (fun p => (tp43_0 p))
        · refine Tr.iload_n (pc := 86) (i := 1) d_X12_tick_86 rfl rfl ?_
          refine Tr.tp (-1) (by omega) ?_
          refine Tr.iconst (pc := 87) d_X12_tick_87 (by decide) ?_
          refine Tr.icmp_eq (pc := 88) (tgt := 119) d_X12_tick_88 rfl (fun _ => ?_) (fun hc => absurd (by omega) hc)
          refine Tr.pick [0, 1, 2] (ls2 := [(0, (2, 120)), (1, (0, a1)), (2, (1, p43_2))]) rfl ?_
          exact J119 _ hS k43_120_59 k43_120_61 k43_120_62 k43_120_68 k43_126_1 (by first | assumption | omega) (by first | assumption | omega) (fun p => (tp43_0 p))
      · refine Tr.lload_n (pc := 57) (i := 2) d_X12_tick_57 rfl rfl ?_
        refine Tr.aload_n (pc := 58) (i := 0) d_X12_tick_58 rfl rfl ?_
        refine Tr.iload (pc := 59) (i := 4) d_X12_tick_59 rfl ?_
        refine Tr.aload_n (pc := 61) (i := 0) d_X12_tick_61 rfl rfl ?_
        refine Tr.iload (pc := 62) (i := 4) d_X12_tick_62 rfl ?_
        refine Tr.callV (pc := 64) (as := [_]) d_X12_tick_64 s_12_571 ok_X12_stateOf rfl rfl (Nat.le_of_ble_eq_true rfl) (Nat.le_of_ble_eq_true rfl) (by decide) (ty_120 hS.1.1) ?_
        refine Tr.imp (Tr.deep (by decide) (sp_X12_stateOf_120 hS.1.wk p43_4 (by omega))) ?_
        rintro M64 _ ⟨h64, r64, rfl, lr64, ur64, z64_0⟩
        have h64 := St.rn h64 (Tb1.of hS.1.2.2.2.2 (fun _ => (St.ka h64 (by decide) (by decide) (by decide))) (St.kp h64 (by decide) (by decide) (by decide)))
        have hS := St.tr hS h64 (by decide) (by decide)
        have ka64_120_59 : rd M64 120 59 = g120_59 := ((St.kp h64 (by decide) (by decide) (by decide)).trans k43_120_59)
        have ka64_120_61 : rd M64 120 61 = g120_61 := ((St.kp h64 (by decide) (by decide) (by decide)).trans k43_120_61)
        refine Tr.sc [(0, r64), (0, p43_4), (2, 120), (1, p43_2)] rfl ?_
        refine Tr.callV (pc := 67) (as := [_, _]) d_X12_tick_67 s_12_574 ok_X12_sips rfl rfl (Nat.le_of_ble_eq_true rfl) (Nat.le_of_ble_eq_true rfl) (by decide) (ty_120 hS.1.1) ?_
        refine Tr.imp (Tr.deep (by decide) (sp_X12_sips_120_w1 hS.1.wk ((St.kp hS (by decide) (by decide) (by decide)).trans en_120_12) p43_4 (by omega) r64 (by omega) (Bk1.of hF_Bk1 (fun j => (St.ka hS (by decide) (by decide) (by decide))) (fun j => (St.ka hS (by decide) (by decide) (by decide))) (fun j => (St.ka hS (by decide) (by decide) (by decide))) (fun j => (St.ka hS (by decide) (by decide) (by decide))) (fun j => (St.ka hS (by decide) (by decide) (by decide))) (fun j => (St.ka hS (by decide) (by decide) (by decide))) (fun j => (St.ka hS (by decide) (by decide) (by decide))) (fun j => (St.ka hS (by decide) (by decide) (by decide))) (St.kp hS (by decide) (by decide) (by decide)) (St.kp hS (by decide) (by decide) (by decide)) (St.kp hS (by decide) (by decide) (by decide)) (St.kp hS (by decide) (by decide) (by decide))))) ?_
        rintro M67 _ ⟨h67, r67, rfl, lr67, ur67⟩
        have h67 := St.rn h67 (Tb1.of hS.1.2.2.2.2 (fun _ => (St.ka h67 (by decide) (by decide) (by decide))) (St.kp h67 (by decide) (by decide) (by decide)))
        have hS := St.tr hS h67 (by decide) (by decide)
        refine Tr.sc [(0, r67), (1, p43_2)] rfl ?_
        refine Tr.i2l (pc := 70) d_X12_tick_70 ?_
        refine Tr.ladd (pc := 71) d_X12_tick_71 ?_
        refine Tr.gen (P := fun v => (-9223372036854775808) ≤ v ∧ v ≤ 9223372036854775807) (w64_b _) (fun r71 er71 br71 => ?_)
        refine Tr.lstore_n (pc := 72) (i := 2) (ls2 := [(2, (1, r71)), (0, (2, 120)), (1, (0, a1)), (4, (0, p43_4))]) d_X12_tick_72 rfl (by decide) rfl ?_
        refine Tr.iincV (pc := 73) (n2 := (p43_4 + 1)) (ls2 := [(4, (0, (p43_4 + 1))), (2, (1, r71)), (0, (2, 120)), (1, (0, a1))]) d_X12_tick_73 rfl (by decide) ((w32_id (by omega)).trans (by omega)) rfl ?_
        refine Tr.goto (pc := 76) (tgt := 43) d_X12_tick_76 rfl ?_
        refine Tr.pick [2, 3, 1, 0] (ls2 := [(0, (2, 120)), (1, (0, a1)), (2, (1, r71)), (4, (0, (p43_4 + 1)))]) rfl ?_
        exact J43 _ _ _ hS (by omega) (by omega) ((St.kp h67 (by decide) (by decide) (by decide)).trans ((St.kp h64 (by decide) (by decide) (by decide)).trans k43_120_59)) ((St.kp h67 (by decide) (by decide) (by decide)).trans ((St.kp h64 (by decide) (by decide) (by decide)).trans k43_120_61)) ((St.kp h67 (by decide) (by decide) (by decide)).trans ((St.kp h64 (by decide) (by decide) (by decide)).trans k43_120_62)) ((St.kp h67 (by decide) (by decide) (by decide)).trans ((St.kp h64 (by decide) (by decide) (by decide)).trans k43_120_68)) ((St.kp h67 (by decide) (by decide) (by decide)).trans ((St.kp h64 (by decide) (by decide) (by decide)).trans k43_126_1)) (fun p => ((St.ka h67 (by decide) (by decide) (by decide)).trans ((St.ka h64 (by decide) (by decide) (by decide)).trans (tp43_0 p)))) (by omega)
  refine Tr.pick [2, 3, 1, 0] (ls2 := [(0, (2, 120)), (1, (0, a1)), (2, (1, 0)), (4, (0, 0))]) rfl ?_
  exact J43 _ _ _ _ hS (by omega) (by omega) eg120_59 eg120_61 eg120_62 eg120_68 eg126_1 (fun p => rfl) (Nat.lt_succ_self _)
end
