/-! 36.01 -/
section
def ws_X12_isLine_120 : List (Int × Int) := []
def as_X12_isLine_120 : List Int := []
def q_X12_isLine_120 (a1 : Int) (M0 M' : Mem) (r : Option PV) : Prop := St Tru ws_X12_isLine_120 as_X12_isLine_120 M0 M' ∧ ∃ v : Int, r = some (0, v) ∧ 0 ≤ v ∧ v ≤ 1 ∧ (v = 0 ∨ (0 ≤ a1 ∧ a1 < rd M' 129 0))
set_option maxRecDepth 100000 in
set_option maxHeartbeats 4000000 in
theorem sp_X12_isLine_120 {l : Launch} {K : EC} {M0 : Mem} (hI : In Tru M0) (en_120_12 : rd M0 120 12 = 0) (a1 : Int) (ha1 : (-2147483648) ≤ a1 ∧ a1 ≤ 2147483647)  : Tr l K 1 mX12_isLine 0 [(0, (2, 120)), (1, (0, a1))] [] M0 (q_X12_isLine_120 a1 M0) := by
  have hS : St Tru ws_X12_isLine_120 as_X12_isLine_120 M0 M0 := St.rf hI
  obtain ⟨g129_0, eg129_0⟩ : ∃ v, rd M0 129 0 = v := ⟨_, rfl⟩
  have bg129_0 : 0 ≤ g129_0 ∧ g129_0 ≤ 60 := by rw [← eg129_0]; exact ir_129_0 hI.2.1
  refine Tr.iload_n (pc := 0) (i := 1) d_X12_isLine_0 rfl rfl ?_
  refine Tr.iconst (pc := 1) d_X12_isLine_1 (by decide) ?_
  refine Tr.aload_n (pc := 2) (i := 0) d_X12_isLine_2 rfl rfl ?_
  refine Tr.getf (pc := 3) d_X12_isLine_3 f_12_72 (by decide) (by decide) (ty_120 hS.1.1) ?_
  refine Tr.tp 129 (fx_120_20 hS.1.1) ?_
  refine Tr.aload_n (pc := 6) (i := 0) d_X12_isLine_6 rfl rfl ?_
  refine Tr.getf (pc := 7) d_X12_isLine_7 f_12_48 (by decide) (by decide) (ty_120 hS.1.1) ?_
  refine Tr.tp 0 ((St.kp hS (by decide) (by decide) (by decide)).trans en_120_12) ?_
  refine Tr.iald (pc := 10) d_X12_isLine_10 (ty_129 hS.1.1) (by omega) (by omega) ?_
  refine Tr.tp g129_0 eg129_0 ?_
  refine Tr.iconst (pc := 11) d_X12_isLine_11 (by decide) ?_
  refine Tr.isub (pc := 12) d_X12_isLine_12 ?_
  refine Tr.tp (g129_0 - 1) ((w32_id (by omega)).trans (by omega)) ?_
  refine Tr.callS (pc := 13) (as := [_, _, _]) d_X12_isLine_13 s_12_467 ok_X12_is rfl rfl (Nat.le_of_ble_eq_true rfl) (Nat.le_of_ble_eq_true rfl) ?_
  refine Tr.imp (Tr.deep (by decide) (sp_X12_is hS.1 a1 (by omega) 0 (by omega) (g129_0 - 1) (by omega))) ?_
  rintro M13 _ ⟨h13, r13, rfl, lr13, ur13, wr13⟩
  have hS := St.tr hS h13 (by decide) (by decide)
  refine Tr.sc [(0, r13)] rfl ?_
  have kr_129_0 : rd M13 129 0 = g129_0 := ((St.kp h13 (by decide) (by decide) (by decide)).trans eg129_0)
  exact Tr.zret (pc := 16) d_X12_isLine_16 rfl (by omega) ⟨hS, _, rfl, by omega, by omega, by omega⟩

def ws_X12_stateAt_120 : List (Int × Int) := []
def as_X12_stateAt_120 : List Int := []
def q_X12_stateAt_120 (a1 : Int) (a2 : Int) (M0 M' : Mem) (r : Option PV) : Prop := St Tru ws_X12_stateAt_120 as_X12_stateAt_120 M0 M' ∧ ∃ v : Int, r = some (0, v) ∧ 0 ≤ v ∧ v ≤ 3 ∧ (v = rd M0 163 (2100 * a1 + a2))
set_option maxRecDepth 100000 in
set_option maxHeartbeats 4000000 in
theorem sp_X12_stateAt_120 {l : Launch} {K : EC} {M0 : Mem} (hI : In Tru M0)  (a1 : Int) (ha1 : 0 ≤ a1 ∧ a1 ≤ 5) (a2 : Int) (ha2 : 0 ≤ a2 ∧ a2 ≤ 2099)  : Tr l K 0 mX12_stateAt 0 [(0, (2, 120)), (1, (0, a1)), (2, (0, a2))] [] M0 (q_X12_stateAt_120 a1 a2 M0) := by
  have hS : St Tru ws_X12_stateAt_120 as_X12_stateAt_120 M0 M0 := St.rf hI
  refine Tr.aload_n (pc := 0) (i := 0) d_X12_stateAt_0 rfl rfl ?_
  refine Tr.getf (pc := 1) d_X12_stateAt_1 f_12_231 (by decide) (by decide) (ty_120 hS.1.1) ?_
  refine Tr.tp 163 (fx_120_72 hS.1.1) ?_
  refine Tr.sipush (pc := 4) d_X12_stateAt_4 rfl (by decide) ?_
  refine Tr.iload_n (pc := 7) (i := 1) d_X12_stateAt_7 rfl rfl ?_
  refine Tr.imul (pc := 8) d_X12_stateAt_8 ?_
  refine Tr.tp (2100 * a1) ((w32_id (by omega)).trans (by omega)) ?_
  refine Tr.iload_n (pc := 9) (i := 2) d_X12_stateAt_9 rfl rfl ?_
  refine Tr.iadd (pc := 10) d_X12_stateAt_10 ?_
  refine Tr.tp (2100 * a1 + a2) ((w32_id (by omega)).trans (by omega)) ?_
  refine Tr.iald (pc := 11) d_X12_stateAt_11 (ty_163 hS.1.1) (by omega) (by omega) ?_
  refine Tr.gen (P := fun v => 0 ≤ v ∧ v ≤ 3) (ar_163 hS.1.2.1 _) (fun r11 er11 br11 => ?_)
  exact Tr.iret (pc := 12) d_X12_stateAt_12 rfl ⟨hS, _, rfl, by omega, by omega, by omega⟩

def ws_X12_finds_120 : List (Int × Int) := [(120, 97), (120, 98), (120, 99)]
def as_X12_finds_120 : List Int := []
def q_X12_finds_120 (a1 : Int) (a2 : Int) (M0 M' : Mem) (r : Option PV) : Prop := St Tru ws_X12_finds_120 as_X12_finds_120 M0 M' ∧ ∃ v : Int, r = some (0, v) ∧ 0 ≤ v ∧ v ≤ 1 ∧ (v = 0 ∨ a2 ≤ 2100)
set_option maxRecDepth 100000 in
set_option maxHeartbeats 4000000 in
theorem sp_X12_finds_120 {l : Launch} {K : EC} {M0 : Mem} (hI : In Tru M0)  (a1 : Int) (ha1 : 0 ≤ a1 ∧ a1 ≤ 5) (a2 : Int) (ha2 : (-2147483648) ≤ a2 ∧ a2 ≤ 2147483647)  : Tr l K 1 mX12_finds 0 [(0, (2, 120)), (1, (0, a1)), (2, (0, a2))] [] M0 (q_X12_finds_120 a1 a2 M0) := by
  have hS : St Tru ws_X12_finds_120 as_X12_finds_120 M0 M0 := St.rf hI
  obtain ⟨g120_97, eg120_97⟩ : ∃ v, rd M0 120 97 = v := ⟨_, rfl⟩
  have bg120_97 : 0 ≤ g120_97 ∧ g120_97 ≤ 2100 := by rw [← eg120_97]; exact ir_120_97 hI.2.1
  obtain ⟨g120_86, eg120_86⟩ : ∃ v, rd M0 120 86 = v := ⟨_, rfl⟩
  have bg120_86 : 0 ≤ g120_86 ∧ g120_86 ≤ 2060 := by rw [← eg120_86]; exact ir_120_86 hI.2.1
  refine Tr.iconst (pc := 0) d_X12_finds_0 (by decide) ?_
  refine Tr.istore_n (pc := 1) (i := 3) (ls2 := [(3, (0, 0)), (0, (2, 120)), (1, (0, a1)), (2, (0, a2))]) d_X12_finds_1 rfl (by decide) rfl ?_
  refine Tr.iconst (pc := 2) d_X12_finds_2 (by decide) ?_
  refine Tr.istore (pc := 3) (i := 4) (ls2 := [(4, (0, 0)), (3, (0, 0)), (0, (2, 120)), (1, (0, a1)), (2, (0, a2))]) d_X12_finds_3 (by decide) rfl ?_
  have J5 : ∀ (n5 : Nat) (M : Mem) (p5_3 p5_4 u5_120_97 : Int), St Tru ws_X12_finds_120 as_X12_finds_120 M0 M → (0 ≤ p5_3 ∧ p5_3 ≤ 2147483647) → (0 ≤ p5_4 ∧ p5_4 ≤ 2060) → (0 ≤ u5_120_97 ∧ u5_120_97 ≤ 2100) → rd M 120 86 = g120_86 → rd M 120 97 = u5_120_97 → (p5_3 ≤ p5_4 ∧ 0 ≤ p5_3) → (2200 - p5_4).toNat < n5 → Tr l K 1 mX12_finds 5 [(0, (2, 120)), (1, (0, a1)), (2, (0, a2)), (3, (0, p5_3)), (4, (0, p5_4))] [] M (q_X12_finds_120 a1 a2 M0) := by
    intro n5
    induction n5 with
    | zero => intro M p5_3 p5_4 u5_120_97 hS bp5_3 bp5_4 bu5_120_97 k5_120_86 k5_120_97 t5_0 hm5; exact absurd hm5 (Nat.not_lt_zero _)
    | succ n5 J5 =>
      intro M p5_3 p5_4 u5_120_97 hS bp5_3 bp5_4 bu5_120_97 k5_120_86 k5_120_97 t5_0 hm5
      refine Tr.iload (pc := 5) (i := 4) d_X12_finds_5 rfl ?_
      refine Tr.aload_n (pc := 7) (i := 0) d_X12_finds_7 rfl rfl ?_
      refine Tr.getf (pc := 8) d_X12_finds_8 f_12_273 (by decide) (by decide) (ty_120 hS.1.1) ?_
      refine Tr.tp g120_86 k5_120_86 ?_
      refine Tr.icmp_ge (pc := 11) (tgt := 80) d_X12_finds_11 rfl (fun c11 => ?_) (fun c11 => ?_)
      · refine Tr.aload_n (pc := 80) (i := 0) d_X12_finds_80 rfl rfl ?_
        refine Tr.iload_n (pc := 81) (i := 3) d_X12_finds_81 rfl rfl ?_
        refine Tr.putfS (pc := 82) (P := St Tru ws_X12_finds_120 as_X12_finds_120 M0) d_X12_finds_82 f_12_312 (by decide) (by decide) (ty_120 hS.1.1) (st_120_99 hS (by decide) (by omega) trivial) (fun M82 hS w82 => ?_)
        refine Tr.iconst (pc := 85) d_X12_finds_85 (by decide) ?_
        exact Tr.zret (pc := 86) d_X12_finds_86 rfl (by omega) ⟨hS, _, rfl, by omega, by omega, by omega⟩
      · refine Tr.aload_n (pc := 14) (i := 0) d_X12_finds_14 rfl rfl ?_
        refine Tr.iload_n (pc := 15) (i := 1) d_X12_finds_15 rfl rfl ?_
        refine Tr.iload (pc := 16) (i := 4) d_X12_finds_16 rfl ?_
        refine Tr.callV (pc := 18) (as := [_, _]) d_X12_finds_18 s_12_641 ok_X12_stateAt rfl rfl (Nat.le_of_ble_eq_true rfl) (Nat.le_of_ble_eq_true rfl) (by decide) (ty_120 hS.1.1) ?_
        refine Tr.imp (Tr.deep (by decide) (sp_X12_stateAt_120 hS.1 a1 (by omega) p5_4 (by omega))) ?_
        rintro M18 _ ⟨h18, r18, rfl, lr18, ur18, z18_0⟩
        have hS := St.tr hS h18 (by decide) (by decide)
        refine Tr.sc [(0, r18)] rfl ?_
        have qs18 : rd M 163 (2100 * a1 + p5_4) = r18 := (congrArg (rd M 163) (by omega)).trans z18_0.symm
        refine Tr.if_ne (pc := 21) (tgt := 30) d_X12_finds_21 rfl (fun c21 => ?_) (fun c21 => ?_)
        · refine Tr.aload_n (pc := 30) (i := 0) d_X12_finds_30 rfl rfl ?_
          refine Tr.iload (pc := 31) (i := 4) d_X12_finds_31 rfl ?_
          refine Tr.putfS (pc := 33) (P := St Tru ws_X12_finds_120 as_X12_finds_120 M0) d_X12_finds_33 f_12_306 (by decide) (by decide) (ty_120 hS.1.1) (st_120_97 hS (by decide) (by omega) trivial) (fun M33 hS w33 => ?_)
          have J36 : ∀ (n36 : Nat) (M : Mem) (p36_4 : Int), St Tru ws_X12_finds_120 as_X12_finds_120 M0 M → (0 ≤ p36_4 ∧ p36_4 ≤ 2060) → rd M 120 86 = g120_86 → rd M 120 97 = p5_4 → rd M 163 (2100 * a1 + p5_4) = r18 → (p5_3 ≤ p36_4 ∧ 0 ≤ p5_3) → (p5_4 < g120_86) → (p5_4 = p5_4) → (p5_4 ≤ p36_4 ∧ (p5_4 < p36_4 ∨ rd M 163 (2100 * a1 + p36_4) ≠ 0)) → (2200 - p36_4).toNat < n36 → Tr l K 1 mX12_finds 36 [(0, (2, 120)), (1, (0, a1)), (2, (0, a2)), (3, (0, p5_3)), (4, (0, p36_4))] [] M (q_X12_finds_120 a1 a2 M0) := by
            intro n36
            induction n36 with
            | zero => intro M p36_4 hS bp36_4 k36_120_86 k36_120_97 k36_163_a12100p5_410 t36_0 t36_1 t36_2 t36_3 hm36; exact absurd hm36 (Nat.not_lt_zero _)
            | succ n36 J36 =>
              intro M p36_4 hS bp36_4 k36_120_86 k36_120_97 k36_163_a12100p5_410 t36_0 t36_1 t36_2 t36_3 hm36
              refine Tr.iload (pc := 36) (i := 4) d_X12_finds_36 rfl ?_
              refine Tr.aload_n (pc := 38) (i := 0) d_X12_finds_38 rfl rfl ?_
              refine Tr.getf (pc := 39) d_X12_finds_39 f_12_273 (by decide) (by decide) (ty_120 hS.1.1) ?_
              refine Tr.tp g120_86 k36_120_86 ?_
              have J61 : ∀ (M : Mem), St Tru ws_X12_finds_120 as_X12_finds_120 M0 M → rd M 120 86 = g120_86 → rd M 120 97 = p5_4 → rd M 163 (2100 * a1 + p5_4) = r18 → (p5_3 ≤ p36_4 ∧ 0 ≤ p5_3) → (p5_4 < p36_4) → (p5_4 = p5_4) → Tr l K 1 mX12_finds 61 [(0, (2, 120)), (1, (0, a1)), (2, (0, a2)), (3, (0, p5_3)), (4, (0, p36_4))] [] M (q_X12_finds_120 a1 a2 M0) := by
                intro M  hS  k61_120_86 k61_120_97 k61_163_a12100p5_410 t61_0 t61_1 t61_2
                refine Tr.aload_n (pc := 61) (i := 0) d_X12_finds_61 rfl rfl ?_
                refine Tr.iload (pc := 62) (i := 4) d_X12_finds_62 rfl ?_
                refine Tr.putfS (pc := 64) (P := St Tru ws_X12_finds_120 as_X12_finds_120 M0) d_X12_finds_64 f_12_309 (by decide) (by decide) (ty_120 hS.1.1) (st_120_98 hS (by decide) (by omega) trivial) (fun M64 hS w64 => ?_)
                refine Tr.iload_n (pc := 67) (i := 3) d_X12_finds_67 rfl rfl ?_
                refine Tr.iload_n (pc := 68) (i := 2) d_X12_finds_68 rfl rfl ?_
                refine Tr.icmp_ne (pc := 69) (tgt := 74) d_X12_finds_69 rfl (fun c69 => ?_) (fun c69 => ?_)
                · refine Tr.iincV (pc := 74) (n2 := (p5_3 + 1)) (ls2 := [(3, (0, (p5_3 + 1))), (0, (2, 120)), (1, (0, a1)), (2, (0, a2)), (4, (0, p36_4))]) d_X12_finds_74 rfl (by decide) ((w32_id (by omega)).trans (by omega)) rfl ?_
                  refine Tr.goto (pc := 77) (tgt := 5) d_X12_finds_77 rfl ?_
                  refine Tr.pick [1, 2, 3, 0, 4] (ls2 := [(0, (2, 120)), (1, (0, a1)), (2, (0, a2)), (3, (0, (p5_3 + 1))), (4, (0, p36_4))]) rfl ?_
                  exact J5 _ _ _ _ hS (by omega) (by omega) (by omega) ((Wr.b w64 rfl).trans k61_120_86) ((Wr.b w64 rfl).trans k61_120_97) (by omega) (by omega)
                · refine Tr.iconst (pc := 72) d_X12_finds_72 (by decide) ?_
                  exact Tr.zret (pc := 73) d_X12_finds_73 rfl (by omega) ⟨hS, _, rfl, by omega, by omega, by omega⟩
              refine Tr.icmp_ge (pc := 42) (tgt := 61) d_X12_finds_42 rfl (fun c42 => ?_) (fun c42 => ?_)
              · refine Tr.pick [0, 1, 2, 3, 4] (ls2 := [(0, (2, 120)), (1, (0, a1)), (2, (0, a2)), (3, (0, p5_3)), (4, (0, p36_4))]) rfl ?_
                exact J61 _ hS k36_120_86 k36_120_97 k36_163_a12100p5_410 (by omega) (by omega) (by omega)
              · refine Tr.aload_n (pc := 45) (i := 0) d_X12_finds_45 rfl rfl ?_
                refine Tr.iload_n (pc := 46) (i := 1) d_X12_finds_46 rfl rfl ?_
                refine Tr.iload (pc := 47) (i := 4) d_X12_finds_47 rfl ?_
                refine Tr.callV (pc := 49) (as := [_, _]) d_X12_finds_49 s_12_641 ok_X12_stateAt rfl rfl (Nat.le_of_ble_eq_true rfl) (Nat.le_of_ble_eq_true rfl) (by decide) (ty_120 hS.1.1) ?_
                refine Tr.imp (Tr.deep (by decide) (sp_X12_stateAt_120 hS.1 a1 (by omega) p36_4 (by omega))) ?_
                rintro M49 _ ⟨h49, r49, rfl, lr49, ur49, z49_0⟩
                have hS := St.tr hS h49 (by decide) (by decide)
                refine Tr.sc [(0, r49)] rfl ?_
                have qs49 : rd M 163 (2100 * a1 + p36_4) = r49 := (congrArg (rd M 163) (by omega)).trans z49_0.symm
                refine Tr.if_eq (pc := 52) (tgt := 61) d_X12_finds_52 rfl (fun c52 => ?_) (fun c52 => ?_)
                · refine Tr.pick [0, 1, 2, 3, 4] (ls2 := [(0, (2, 120)), (1, (0, a1)), (2, (0, a2)), (3, (0, p5_3)), (4, (0, p36_4))]) rfl ?_
                  exact J61 _ hS ((St.kp h49 (by decide) (by decide) (by decide)).trans k36_120_86) ((St.kp h49 (by decide) (by decide) (by decide)).trans k36_120_97) ((St.ka h49 (by decide) (by decide) (by decide)).trans k36_163_a12100p5_410) (by omega) (by omega) (by omega)
                · refine Tr.iincV (pc := 55) (n2 := (p36_4 + 1)) (ls2 := [(4, (0, (p36_4 + 1))), (0, (2, 120)), (1, (0, a1)), (2, (0, a2)), (3, (0, p5_3))]) d_X12_finds_55 rfl (by decide) ((w32_id (by omega)).trans (by omega)) rfl ?_
                  refine Tr.goto (pc := 58) (tgt := 36) d_X12_finds_58 rfl ?_
                  refine Tr.pick [1, 2, 3, 4, 0] (ls2 := [(0, (2, 120)), (1, (0, a1)), (2, (0, a2)), (3, (0, p5_3)), (4, (0, (p36_4 + 1)))]) rfl ?_
                  exact J36 _ _ hS (by omega) ((St.kp h49 (by decide) (by decide) (by decide)).trans k36_120_86) ((St.kp h49 (by decide) (by decide) (by decide)).trans k36_120_97) ((St.ka h49 (by decide) (by decide) (by decide)).trans k36_163_a12100p5_410) (by omega) (by omega) (by omega) (by first | assumption | omega) (by omega)
          refine Tr.pick [0, 1, 2, 3, 4] (ls2 := [(0, (2, 120)), (1, (0, a1)), (2, (0, a2)), (3, (0, p5_3)), (4, (0, p5_4))]) rfl ?_
          have jr36_0 : rd M33 163 (2100 * a1 + p5_4) = r18 := ((Wr.b w33 rfl).trans ((St.ka h18 (by decide) (by decide) (by decide)).trans qs18))
          exact J36 _ _ _ hS (by omega) ((Wr.b w33 rfl).trans ((St.kp h18 (by decide) (by decide) (by decide)).trans k5_120_86)) w33.1 ((Wr.b w33 rfl).trans ((St.ka h18 (by decide) (by decide) (by decide)).trans qs18)) (by omega) (by omega) (by omega) (by first | assumption | omega) (Nat.lt_succ_self _)
        · refine Tr.iincV (pc := 24) (n2 := (p5_4 + 1)) (ls2 := [(4, (0, (p5_4 + 1))), (0, (2, 120)), (1, (0, a1)), (2, (0, a2)), (3, (0, p5_3))]) d_X12_finds_24 rfl (by decide) ((w32_id (by omega)).trans (by omega)) rfl ?_
          refine Tr.goto (pc := 27) (tgt := 5) d_X12_finds_27 rfl ?_
          refine Tr.pick [1, 2, 3, 4, 0] (ls2 := [(0, (2, 120)), (1, (0, a1)), (2, (0, a2)), (3, (0, p5_3)), (4, (0, (p5_4 + 1)))]) rfl ?_
          exact J5 _ _ _ _ hS (by omega) (by omega) (by omega) ((St.kp h18 (by decide) (by decide) (by decide)).trans k5_120_86) ((St.kp h18 (by decide) (by decide) (by decide)).trans k5_120_97) (by omega) (by omega)
  refine Tr.pick [2, 3, 4, 1, 0] (ls2 := [(0, (2, 120)), (1, (0, a1)), (2, (0, a2)), (3, (0, 0)), (4, (0, 0))]) rfl ?_
  exact J5 _ _ _ _ _ hS (by omega) (by omega) (by omega) eg120_86 eg120_97 (by omega) (Nat.lt_succ_self _)

def ws_X12_linesIn_120 : List (Int × Int) := []
def as_X12_linesIn_120 : List Int := []
def q_X12_linesIn_120 (M0 M' : Mem) (r : Option PV) : Prop := St Tru ws_X12_linesIn_120 as_X12_linesIn_120 M0 M' ∧ ∃ v : Int, r = some (1, v) ∧ (-9223372036854775808) ≤ v ∧ v ≤ 9223372036854775807
set_option maxRecDepth 100000 in
set_option maxHeartbeats 4000000 in
theorem sp_X12_linesIn_120 {l : Launch} {K : EC} {M0 : Mem} (hI : In Tru M0)  (a1 : Int) (ha1 : 0 ≤ a1 ∧ a1 ≤ 5)  : Tr l K 0 mX12_linesIn 0 [(0, (2, 120)), (1, (0, a1))] [] M0 (q_X12_linesIn_120 M0) := by
  have hS : St Tru ws_X12_linesIn_120 as_X12_linesIn_120 M0 M0 := St.rf hI
  refine Tr.lconst (pc := 0) (v := 0) d_X12_linesIn_0 rfl (by decide) ?_
  refine Tr.lstore_n (pc := 1) (i := 2) (ls2 := [(2, (1, 0)), (0, (2, 120)), (1, (0, a1))]) d_X12_linesIn_1 rfl (by decide) rfl ?_
  refine Tr.iconst (pc := 2) d_X12_linesIn_2 (by decide) ?_
  refine Tr.istore (pc := 3) (i := 4) (ls2 := [(4, (0, 0)), (2, (1, 0)), (0, (2, 120)), (1, (0, a1))]) d_X12_linesIn_3 (by decide) rfl ?_
  have J5 : ∀ (n5 : Nat) (M : Mem) (p5_2 p5_4 : Int), St Tru ws_X12_linesIn_120 as_X12_linesIn_120 M0 M → ((-9223372036854775808) ≤ p5_2 ∧ p5_2 ≤ 9223372036854775807) → (0 ≤ p5_4 ∧ p5_4 ≤ 2100) → (2100 - p5_4).toNat < n5 → Tr l K 0 mX12_linesIn 5 [(0, (2, 120)), (1, (0, a1)), (2, (1, p5_2)), (4, (0, p5_4))] [] M (q_X12_linesIn_120 M0) := by
    intro n5
    induction n5 with
    | zero => intro M p5_2 p5_4 hS bp5_2 bp5_4  hm5; exact absurd hm5 (Nat.not_lt_zero _)
    | succ n5 J5 =>
      intro M p5_2 p5_4 hS bp5_2 bp5_4  hm5
      refine Tr.iload (pc := 5) (i := 4) d_X12_linesIn_5 rfl ?_
      refine Tr.aload_n (pc := 7) (i := 0) d_X12_linesIn_7 rfl rfl ?_
      refine Tr.getf (pc := 8) d_X12_linesIn_8 f_12_300 (by decide) (by decide) (ty_120 hS.1.1) ?_
      refine Tr.gen (P := fun v => 0 ≤ v ∧ v ≤ 2100) (ir_120_95 hS.1.2.1) (fun r8 er8 br8 => ?_)
      refine Tr.icmp_ge (pc := 11) (tgt := 73) d_X12_linesIn_11 rfl (fun c11 => ?_) (fun c11 => ?_)
      · refine Tr.lload_n (pc := 73) (i := 2) d_X12_linesIn_73 rfl rfl ?_
        exact Tr.lret (pc := 74) d_X12_linesIn_74 rfl ⟨hS, _, rfl, by omega, by omega⟩
      · refine Tr.aload_n (pc := 14) (i := 0) d_X12_linesIn_14 rfl rfl ?_
        refine Tr.getf (pc := 15) d_X12_linesIn_15 f_12_243 (by decide) (by decide) (ty_120 hS.1.1) ?_
        refine Tr.tp 166 (fx_120_76 hS.1.1) ?_
        refine Tr.iload (pc := 18) (i := 4) d_X12_linesIn_18 rfl ?_
        refine Tr.iald (pc := 20) d_X12_linesIn_20 (ty_166 hS.1.1) (by omega) (by omega) ?_
        refine Tr.gen (P := fun v => 0 ≤ v ∧ v ≤ 5) (ar_166 hS.1.2.1 _) (fun r20 er20 br20 => ?_)
        refine Tr.iload_n (pc := 21) (i := 1) d_X12_linesIn_21 rfl rfl ?_
        have J67 : ∀ (M : Mem) (p67_2 : Int), St Tru ws_X12_linesIn_120 as_X12_linesIn_120 M0 M → ((-9223372036854775808) ≤ p67_2 ∧ p67_2 ≤ 9223372036854775807) → rd M 120 95 = r8 → rd M 166 p5_4 = r20 → Tr l K 0 mX12_linesIn 67 [(0, (2, 120)), (1, (0, a1)), (2, (1, p67_2)), (4, (0, p5_4))] [] M (q_X12_linesIn_120 M0) := by
          intro M p67_2 hS bp67_2 k67_120_95 k67_166_p5_410
          refine Tr.iincV (pc := 67) (n2 := (p5_4 + 1)) (ls2 := [(4, (0, (p5_4 + 1))), (0, (2, 120)), (1, (0, a1)), (2, (1, p67_2))]) d_X12_linesIn_67 rfl (by decide) ((w32_id (by omega)).trans (by omega)) rfl ?_
          refine Tr.goto (pc := 70) (tgt := 5) d_X12_linesIn_70 rfl ?_
          refine Tr.pick [1, 2, 3, 0] (ls2 := [(0, (2, 120)), (1, (0, a1)), (2, (1, p67_2)), (4, (0, (p5_4 + 1)))]) rfl ?_
          exact J5 _ _ _ hS (by omega) (by omega) (by omega)
        refine Tr.icmp_ne (pc := 22) (tgt := 67) d_X12_linesIn_22 rfl (fun c22 => ?_) (fun c22 => ?_)
        · refine Tr.pick [0, 1, 2, 3] (ls2 := [(0, (2, 120)), (1, (0, a1)), (2, (1, p5_2)), (4, (0, p5_4))]) rfl ?_
          exact J67 _ _ hS (by omega) er8 er20
        · refine Tr.aload_n (pc := 25) (i := 0) d_X12_linesIn_25 rfl rfl ?_
          refine Tr.getf (pc := 26) d_X12_linesIn_26 f_12_249 (by decide) (by decide) (ty_120 hS.1.1) ?_
          refine Tr.tp 168 (fx_120_78 hS.1.1) ?_
          refine Tr.iload (pc := 29) (i := 4) d_X12_linesIn_29 rfl ?_
          refine Tr.iald (pc := 31) d_X12_linesIn_31 (ty_168 hS.1.1) (by omega) (by omega) ?_
          refine Tr.gen (P := fun v => (-2147483648) ≤ v ∧ v ≤ 2147483647) (ar_168 hS.1.2.1 _) (fun r31 er31 br31 => ?_)
          refine Tr.aload_n (pc := 32) (i := 0) d_X12_linesIn_32 rfl rfl ?_
          refine Tr.getf (pc := 33) d_X12_linesIn_33 f_12_306 (by decide) (by decide) (ty_120 hS.1.1) ?_
          refine Tr.gen (P := fun v => 0 ≤ v ∧ v ≤ 2100) (ir_120_97 hS.1.2.1) (fun r33 er33 br33 => ?_)
          refine Tr.iconst (pc := 36) d_X12_linesIn_36 (by decide) ?_
          refine Tr.isub (pc := 37) d_X12_linesIn_37 ?_
          refine Tr.tp (r33 - 1) ((w32_id (by omega)).trans (by omega)) ?_
          refine Tr.icmp_lt (pc := 38) (tgt := 67) d_X12_linesIn_38 rfl (fun c38 => ?_) (fun c38 => ?_)
          · refine Tr.pick [0, 1, 2, 3] (ls2 := [(0, (2, 120)), (1, (0, a1)), (2, (1, p5_2)), (4, (0, p5_4))]) rfl ?_
            exact J67 _ _ hS (by omega) er8 er20
          · refine Tr.aload_n (pc := 41) (i := 0) d_X12_linesIn_41 rfl rfl ?_
            refine Tr.getf (pc := 42) d_X12_linesIn_42 f_12_249 (by decide) (by decide) (ty_120 hS.1.1) ?_
            refine Tr.tp 168 (fx_120_78 hS.1.1) ?_
            refine Tr.iload (pc := 45) (i := 4) d_X12_linesIn_45 rfl ?_
            refine Tr.iald (pc := 47) d_X12_linesIn_47 (ty_168 hS.1.1) (by omega) (by omega) ?_
            refine Tr.tp r31 er31 ?_
            refine Tr.aload_n (pc := 48) (i := 0) d_X12_linesIn_48 rfl rfl ?_
            refine Tr.getf (pc := 49) d_X12_linesIn_49 f_12_309 (by decide) (by decide) (ty_120 hS.1.1) ?_
            refine Tr.gen (P := fun v => 0 ≤ v ∧ v ≤ 2100) (ir_120_98 hS.1.2.1) (fun r49 er49 br49 => ?_)
            refine Tr.icmp_ge (pc := 52) (tgt := 67) d_X12_linesIn_52 rfl (fun c52 => ?_) (fun c52 => ?_)
            · refine Tr.pick [0, 1, 2, 3] (ls2 := [(0, (2, 120)), (1, (0, a1)), (2, (1, p5_2)), (4, (0, p5_4))]) rfl ?_
              exact J67 _ _ hS (by omega) er8 er20
            · refine Tr.lload_n (pc := 55) (i := 2) d_X12_linesIn_55 rfl rfl ?_
              refine Tr.lconst (pc := 56) (v := 1) d_X12_linesIn_56 rfl (by decide) ?_
              refine Tr.aload_n (pc := 57) (i := 0) d_X12_linesIn_57 rfl rfl ?_
              refine Tr.getf (pc := 58) d_X12_linesIn_58 f_12_246 (by decide) (by decide) (ty_120 hS.1.1) ?_
              refine Tr.tp 167 (fx_120_77 hS.1.1) ?_
              refine Tr.iload (pc := 61) (i := 4) d_X12_linesIn_61 rfl ?_
              refine Tr.iald (pc := 63) d_X12_linesIn_63 (ty_167 hS.1.1) (by omega) (by omega) ?_
              refine Tr.gen (P := fun v => (-1) ≤ v ∧ v ≤ 59) (ar_167 hS.1.2.1 _) (fun r63 er63 br63 => ?_)
              refine Tr.lshl (pc := 64) d_X12_linesIn_64 ?_
              refine Tr.gen (P := fun v => (-9223372036854775808) ≤ v ∧ v ≤ 9223372036854775807) (i64_b _) (fun r64 er64 br64 => ?_)
              refine Tr.lor (pc := 65) d_X12_linesIn_65 ?_
              refine Tr.gen (P := fun v => (-9223372036854775808) ≤ v ∧ v ≤ 9223372036854775807) (i64_b _) (fun r65 er65 br65 => ?_)
              refine Tr.lstore_n (pc := 66) (i := 2) (ls2 := [(2, (1, r65)), (0, (2, 120)), (1, (0, a1)), (4, (0, p5_4))]) d_X12_linesIn_66 rfl (by decide) rfl ?_
              refine Tr.pick [1, 2, 0, 3] (ls2 := [(0, (2, 120)), (1, (0, a1)), (2, (1, r65)), (4, (0, p5_4))]) rfl ?_
              exact J67 _ _ hS (by omega) er8 er20
  refine Tr.pick [2, 3, 1, 0] (ls2 := [(0, (2, 120)), (1, (0, a1)), (2, (1, 0)), (4, (0, 0))]) rfl ?_
  exact J5 _ _ _ _ hS (by omega) (by omega) (Nat.lt_succ_self _)

def ws_X12_bitsOf : List (Int × Int) := []
def as_X12_bitsOf : List Int := []
def q_X12_bitsOf (a0 : Int) (M0 M' : Mem) (r : Option PV) : Prop := St Tru ws_X12_bitsOf as_X12_bitsOf M0 M' ∧ ∃ v : Int, r = some (0, v) ∧ 0 ≤ v ∧ v ≤ 2147483648 ∧ ((v = pop a0 ∧ 0 ≤ v ∧ v ≤ 64) ∧ (a0 = 0 ∨ 1 ≤ v))
set_option maxRecDepth 100000 in
set_option maxHeartbeats 4000000 in
theorem sp_X12_bitsOf {l : Launch} {K : EC} {M0 : Mem} (hI : In Tru M0)  (a0 : Int) (ha0 : (-9223372036854775808) ≤ a0 ∧ a0 ≤ 9223372036854775807)  : Tr l K 0 mX12_bitsOf 0 [(0, (1, a0))] [] M0 (q_X12_bitsOf a0 M0) := by
  have hS : St Tru ws_X12_bitsOf as_X12_bitsOf M0 M0 := St.rf hI
  refine Tr.iconst (pc := 0) d_X12_bitsOf_0 (by decide) ?_
  refine Tr.istore_n (pc := 1) (i := 2) (ls2 := [(2, (0, 0)), (0, (1, a0))]) d_X12_bitsOf_1 rfl (by decide) rfl ?_
  refine Tr.lload_n (pc := 2) (i := 0) d_X12_bitsOf_2 rfl rfl ?_
  refine Tr.lstore_n (pc := 3) (i := 3) (ls2 := [(3, (1, a0)), (2, (0, 0)), (0, (1, a0))]) d_X12_bitsOf_3 rfl (by decide) rfl ?_
  have J4 : ∀ (n4 : Nat) (M : Mem) (p4_2 p4_3 : Int), St Tru ws_X12_bitsOf as_X12_bitsOf M0 M → (0 ≤ p4_2 ∧ p4_2 ≤ 2147483648) → ((-9223372036854775808) ≤ p4_3 ∧ p4_3 ≤ 9223372036854775807) → (p4_2 + pop p4_3 = pop a0) → (0 ≤ p4_2 ∧ p4_2 ≤ 64) → (p4_3 % 18446744073709551616).toNat < n4 → Tr l K 0 mX12_bitsOf 4 [(2, (0, p4_2)), (3, (1, p4_3))] [] M (q_X12_bitsOf a0 M0) := by
    intro n4
    induction n4 with
    | zero => intro M p4_2 p4_3 hS bp4_2 bp4_3  t4_0 t4_1 hm4; exact absurd hm4 (Nat.not_lt_zero _)
    | succ n4 J4 =>
      intro M p4_2 p4_3 hS bp4_2 bp4_3  t4_0 t4_1 hm4
      refine Tr.lload_n (pc := 4) (i := 3) d_X12_bitsOf_4 rfl rfl ?_
      refine Tr.lconst (pc := 5) (v := 0) d_X12_bitsOf_5 rfl (by decide) ?_
      refine Tr.lcmp (pc := 6) d_X12_bitsOf_6 ?_
      refine Tr.gen (P := fun v => (v = 1 ∧ 0 < p4_3) ∨ (v = 0 ∧ p4_3 = 0) ∨ (v = -1 ∧ p4_3 < 0)) (f_lcmp_c _ _) (fun r6 er6 br6 => ?_)
      refine Tr.if_eq (pc := 7) (tgt := 24) d_X12_bitsOf_7 rfl (fun c7 => ?_) (fun c7 => ?_)
      · refine Tr.iload_n (pc := 24) (i := 2) d_X12_bitsOf_24 rfl rfl ?_
        have jb := pop_b t4_0 (by omega) ha0
        exact Tr.iret (pc := 25) d_X12_bitsOf_25 rfl ⟨hS, _, rfl, by omega, by omega, by omega⟩
      · refine Tr.iload_n (pc := 10) (i := 2) d_X12_bitsOf_10 rfl rfl ?_
        refine Tr.lload_n (pc := 11) (i := 3) d_X12_bitsOf_11 rfl rfl ?_
        refine Tr.lconst (pc := 12) (v := 1) d_X12_bitsOf_12 rfl (by decide) ?_
        refine Tr.land (pc := 13) d_X12_bitsOf_13 ?_
        refine Tr.gen (P := fun v => v = p4_3 % 2 ∧ (0 ≤ v ∧ v ≤ 1)) ⟨(f_land_1 _).1, (f_land_1 _).2⟩ (fun r13 er13 br13 => ?_)
        refine Tr.l2i (pc := 14) d_X12_bitsOf_14 ?_
        refine Tr.tp r13 (w32_id (by omega)) ?_
        refine Tr.iadd (pc := 15) d_X12_bitsOf_15 ?_
        refine Tr.tp (p4_2 + r13) ((w32_id (by omega)).trans (by omega)) ?_
        refine Tr.istore_n (pc := 16) (i := 2) (ls2 := [(2, (0, (p4_2 + r13))), (3, (1, p4_3))]) d_X12_bitsOf_16 rfl (by decide) rfl ?_
        refine Tr.lload_n (pc := 17) (i := 3) d_X12_bitsOf_17 rfl rfl ?_
        refine Tr.iconst (pc := 18) d_X12_bitsOf_18 (by decide) ?_
        refine Tr.lushr (pc := 19) d_X12_bitsOf_19 ?_
        refine Tr.gen (P := fun v => v = (p4_3 % 18446744073709551616) / 2 ∧ (0 ≤ v ∧ v ≤ 9223372036854775807) ∧ (pop p4_3 : Int) = p4_3 % 2 + pop v) (lushr_pop _) (fun r19 er19 br19 => ?_)
        refine Tr.lstore_n (pc := 20) (i := 3) (ls2 := [(3, (1, r19)), (2, (0, (p4_2 + r13)))]) d_X12_bitsOf_20 rfl (by decide) rfl ?_
        refine Tr.goto (pc := 21) (tgt := 4) d_X12_bitsOf_21 rfl ?_
        refine Tr.pick [1, 0] (ls2 := [(2, (0, (p4_2 + r13))), (3, (1, r19))]) rfl ?_
        have jq := pop_le a0
        exact J4 _ _ _ hS (by omega) (by omega) (by omega) (by omega) (by omega)
  refine Tr.pick [1, 0] (ls2 := [(2, (0, 0)), (3, (1, a0))]) rfl ?_
  have jq := pop_le a0
  exact J4 _ _ _ _ hS (by omega) (by omega) (by omega) (by omega) (Nat.lt_succ_self _)

def ws_X12_onIn_120 : List (Int × Int) := []
def as_X12_onIn_120 : List Int := []
def q_X12_onIn_120 (M0 M' : Mem) (r : Option PV) : Prop := St Tru ws_X12_onIn_120 as_X12_onIn_120 M0 M' ∧ ∃ v : Int, r = some (0, v) ∧ (-2147483648) ≤ v ∧ v ≤ 2147483647
set_option maxRecDepth 100000 in
set_option maxHeartbeats 4000000 in
theorem sp_X12_onIn_120 {l : Launch} {K : EC} {M0 : Mem} (hI : In Tru M0)  (a1 : Int) (ha1 : 0 ≤ a1 ∧ a1 ≤ 5)  : Tr l K 1 mX12_onIn 0 [(0, (2, 120)), (1, (0, a1))] [] M0 (q_X12_onIn_120 M0) := by
  have hS : St Tru ws_X12_onIn_120 as_X12_onIn_120 M0 M0 := St.rf hI
  refine Tr.iconst (pc := 0) d_X12_onIn_0 (by decide) ?_
  refine Tr.istore_n (pc := 1) (i := 2) (ls2 := [(2, (0, 0)), (0, (2, 120)), (1, (0, a1))]) d_X12_onIn_1 rfl (by decide) rfl ?_
  refine Tr.aload_n (pc := 2) (i := 0) d_X12_onIn_2 rfl rfl ?_
  refine Tr.getf (pc := 3) d_X12_onIn_3 f_12_306 (by decide) (by decide) (ty_120 hS.1.1) ?_
  refine Tr.gen (P := fun v => 0 ≤ v ∧ v ≤ 2100) (ir_120_97 hS.1.2.1) (fun r3 er3 br3 => ?_)
  refine Tr.istore_n (pc := 6) (i := 3) (ls2 := [(3, (0, r3)), (2, (0, 0)), (0, (2, 120)), (1, (0, a1))]) d_X12_onIn_6 rfl (by decide) rfl ?_
  have J7 : ∀ (n7 : Nat) (M : Mem) (p7_2 p7_3 : Int), St Tru ws_X12_onIn_120 as_X12_onIn_120 M0 M → ((-2147483648) ≤ p7_2 ∧ p7_2 ≤ 2147483647) → (0 ≤ p7_3 ∧ p7_3 ≤ 2100) → rd M 120 97 = r3 → (2100 - p7_3).toNat < n7 → Tr l K 1 mX12_onIn 7 [(0, (2, 120)), (1, (0, a1)), (2, (0, p7_2)), (3, (0, p7_3))] [] M (q_X12_onIn_120 M0) := by
    intro n7
    induction n7 with
    | zero => intro M p7_2 p7_3 hS bp7_2 bp7_3 k7_120_97 hm7; exact absurd hm7 (Nat.not_lt_zero _)
    | succ n7 J7 =>
      intro M p7_2 p7_3 hS bp7_2 bp7_3 k7_120_97 hm7
      refine Tr.iload_n (pc := 7) (i := 3) d_X12_onIn_7 rfl rfl ?_
      refine Tr.aload_n (pc := 8) (i := 0) d_X12_onIn_8 rfl rfl ?_
      refine Tr.getf (pc := 9) d_X12_onIn_9 f_12_309 (by decide) (by decide) (ty_120 hS.1.1) ?_
      refine Tr.gen (P := fun v => 0 ≤ v ∧ v ≤ 2100) (ir_120_98 hS.1.2.1) (fun r9 er9 br9 => ?_)
      refine Tr.icmp_ge (pc := 12) (tgt := 39) d_X12_onIn_12 rfl (fun c12 => ?_) (fun c12 => ?_)
      · refine Tr.iload_n (pc := 39) (i := 2) d_X12_onIn_39 rfl rfl ?_
        exact Tr.iret (pc := 40) d_X12_onIn_40 rfl ⟨hS, _, rfl, by omega, by omega⟩
      · refine Tr.iload_n (pc := 15) (i := 2) d_X12_onIn_15 rfl rfl ?_
        refine Tr.aload_n (pc := 16) (i := 0) d_X12_onIn_16 rfl rfl ?_
        refine Tr.iload_n (pc := 17) (i := 1) d_X12_onIn_17 rfl rfl ?_
        refine Tr.iload_n (pc := 18) (i := 3) d_X12_onIn_18 rfl rfl ?_
        refine Tr.callV (pc := 19) (as := [_, _]) d_X12_onIn_19 s_12_641 ok_X12_stateAt rfl rfl (Nat.le_of_ble_eq_true rfl) (Nat.le_of_ble_eq_true rfl) (by decide) (ty_120 hS.1.1) ?_
        refine Tr.imp (Tr.deep (by decide) (sp_X12_stateAt_120 hS.1 a1 (by omega) p7_3 (by omega))) ?_
        rintro M19 _ ⟨h19, r19, rfl, lr19, ur19, z19_0⟩
        have hS := St.tr hS h19 (by decide) (by decide)
        refine Tr.sc [(0, r19), (0, p7_2)] rfl ?_
        have qs19 : rd M 163 (2100 * a1 + p7_3) = r19 := (congrArg (rd M 163) (by omega)).trans z19_0.symm
        refine Tr.iconst (pc := 22) d_X12_onIn_22 (by decide) ?_
        have J31 : ∀ (M : Mem) (q31_1 : Int), St Tru ws_X12_onIn_120 as_X12_onIn_120 M0 M → (0 ≤ q31_1 ∧ q31_1 ≤ 1) → rd M 120 97 = r3 → rd M 120 98 = r9 → rd M 163 (2100 * a1 + p7_3) = r19 → Tr l K 1 mX12_onIn 31 [(0, (2, 120)), (1, (0, a1)), (3, (0, p7_3))] [(0, q31_1), (0, p7_2)] M (q_X12_onIn_120 M0) := by
          intro M q31_1 hS bq31_1 k31_120_97 k31_120_98 k31_163_a12100p7_310
          refine Tr.iadd (pc := 31) d_X12_onIn_31 ?_
          refine Tr.gen (P := fun v => (-2147483648) ≤ v ∧ v ≤ 2147483647) (w32_b _) (fun r31 er31 br31 => ?_)
          refine Tr.istore_n (pc := 32) (i := 2) (ls2 := [(2, (0, r31)), (0, (2, 120)), (1, (0, a1)), (3, (0, p7_3))]) d_X12_onIn_32 rfl (by decide) rfl ?_
          refine Tr.iincV (pc := 33) (n2 := (p7_3 + 1)) (ls2 := [(3, (0, (p7_3 + 1))), (2, (0, r31)), (0, (2, 120)), (1, (0, a1))]) d_X12_onIn_33 rfl (by decide) ((w32_id (by omega)).trans (by omega)) rfl ?_
          refine Tr.goto (pc := 36) (tgt := 7) d_X12_onIn_36 rfl ?_
          refine Tr.pick [2, 3, 1, 0] (ls2 := [(0, (2, 120)), (1, (0, a1)), (2, (0, r31)), (3, (0, (p7_3 + 1)))]) rfl ?_
          exact J7 _ _ _ hS (by omega) (by omega) k31_120_97 (by omega)
        refine Tr.icmp_ne (pc := 23) (tgt := 30) d_X12_onIn_23 rfl (fun c23 => ?_) (fun c23 => ?_)
        · refine Tr.iconst (pc := 30) d_X12_onIn_30 (by decide) ?_
          refine Tr.pick [0, 1, 3] (ls2 := [(0, (2, 120)), (1, (0, a1)), (3, (0, p7_3))]) rfl ?_
          exact J31 _ _ hS (by omega) ((St.kp h19 (by decide) (by decide) (by decide)).trans k7_120_97) ((St.kp h19 (by decide) (by decide) (by decide)).trans er9) ((St.ka h19 (by decide) (by decide) (by decide)).trans qs19)
        · refine Tr.iconst (pc := 26) d_X12_onIn_26 (by decide) ?_
          refine Tr.goto (pc := 27) (tgt := 31) d_X12_onIn_27 rfl ?_
          refine Tr.pick [0, 1, 3] (ls2 := [(0, (2, 120)), (1, (0, a1)), (3, (0, p7_3))]) rfl ?_
          exact J31 _ _ hS (by omega) ((St.kp h19 (by decide) (by decide) (by decide)).trans k7_120_97) ((St.kp h19 (by decide) (by decide) (by decide)).trans er9) ((St.ka h19 (by decide) (by decide) (by decide)).trans qs19)
  refine Tr.pick [2, 3, 1, 0] (ls2 := [(0, (2, 120)), (1, (0, a1)), (2, (0, 0)), (3, (0, r3))]) rfl ?_
  exact J7 _ _ _ _ hS (by omega) (by omega) er3 (Nat.lt_succ_self _)

def ws_X12_rate_120 : List (Int × Int) := []
def as_X12_rate_120 : List Int := []
def q_X12_rate_120 (a1 : Int) (a2 : Int) (M0 M' : Mem) (r : Option PV) : Prop := St Tru ws_X12_rate_120 as_X12_rate_120 M0 M' ∧ ∃ v : Int, r = some (0, v) ∧ (-2147483648) ≤ v ∧ v ≤ 2147483647 ∧ (a2 ≠ 5 ∨ rd M' 126 0 ≤ a1 ∨ v ≤ 50)
set_option maxRecDepth 100000 in
set_option maxHeartbeats 4000000 in
theorem sp_X12_rate_120 {l : Launch} {K : EC} {M0 : Mem} (hI : In Tru M0) (en_120_12 : rd M0 120 12 = 0) (a1 : Int) (ha1 : 0 ≤ a1 ∧ a1 ≤ 5) (a2 : Int) (ha2 : 0 ≤ a2 ∧ a2 ≤ 5)  (hF_Bk0 : Bk0 M0) : Tr l K 0 mX12_rate 0 [(0, (2, 120)), (1, (0, a1)), (2, (0, a2))] [] M0 (q_X12_rate_120 a1 a2 M0) := by
  have hS : St Tru ws_X12_rate_120 as_X12_rate_120 M0 M0 := St.rf hI
  obtain ⟨g126_0, eg126_0⟩ : ∃ v, rd M0 126 0 = v := ⟨_, rfl⟩
  have bg126_0 : 0 ≤ g126_0 ∧ g126_0 ≤ 6 := by rw [← eg126_0]; exact ir_126_0 hI.2.1
  refine Tr.aload_n (pc := 0) (i := 0) d_X12_rate_0 rfl rfl ?_
  refine Tr.getf (pc := 1) d_X12_rate_1 f_12_79 (by decide) (by decide) (ty_120 hS.1.1) ?_
  refine Tr.tp 131 (fx_120_22 hS.1.1) ?_
  refine Tr.bipush (pc := 4) d_X12_rate_4 rfl (by decide) ?_
  refine Tr.bipush (pc := 6) d_X12_rate_6 rfl (by decide) ?_
  refine Tr.aload_n (pc := 8) (i := 0) d_X12_rate_8 rfl rfl ?_
  refine Tr.getf (pc := 9) d_X12_rate_9 f_12_48 (by decide) (by decide) (ty_120 hS.1.1) ?_
  refine Tr.tp 0 ((St.kp hS (by decide) (by decide) (by decide)).trans en_120_12) ?_
  refine Tr.imul (pc := 12) d_X12_rate_12 ?_
  refine Tr.tp 0 (by decide) ?_
  refine Tr.iload_n (pc := 13) (i := 1) d_X12_rate_13 rfl rfl ?_
  refine Tr.iadd (pc := 14) d_X12_rate_14 ?_
  refine Tr.tp a1 ((w32_id (by omega)).trans (by omega)) ?_
  refine Tr.imul (pc := 15) d_X12_rate_15 ?_
  refine Tr.tp (6 * a1) ((w32_id (by omega)).trans (by omega)) ?_
  refine Tr.iload_n (pc := 16) (i := 2) d_X12_rate_16 rfl rfl ?_
  refine Tr.iadd (pc := 17) d_X12_rate_17 ?_
  refine Tr.tp (6 * a1 + a2) ((w32_id (by omega)).trans (by omega)) ?_
  refine Tr.iald (pc := 18) d_X12_rate_18 (ty_131 hS.1.1) (by omega) (by omega) ?_
  refine Tr.gen (P := fun v => ((-2147483648) ≤ v ∧ v ≤ 2147483647) ∧ (a2 ≠ 5 ∨ g126_0 ≤ a1 ∨ v ≤ 50)) (by have h9 := (ar_131 hS.1.2.1 ((6 * a1 + a2))); have h8 := Bk0_rt (Bk0.of hF_Bk0 (fun j => (St.ka hS (by decide) (by decide) (by decide))) (fun j => (St.ka hS (by decide) (by decide) (by decide))) (fun j => (St.ka hS (by decide) (by decide) (by decide))) (fun j => (St.ka hS (by decide) (by decide) (by decide))) (fun j => (St.ka hS (by decide) (by decide) (by decide))) (fun j => (St.ka hS (by decide) (by decide) (by decide))) (fun j => (St.ka hS (by decide) (by decide) (by decide))) (fun j => (St.ka hS (by decide) (by decide) (by decide))) (St.kp hS (by decide) (by decide) (by decide)) (St.kp hS (by decide) (by decide) (by decide)) (St.kp hS (by decide) (by decide) (by decide)) (St.kp hS (by decide) (by decide) (by decide))) (p := a1) (k := a2) (i := (6 * a1 + a2)) (by omega) (by omega); have e8 := eg126_0; rw [e8] at h8; exact ⟨h9, h8⟩) (fun r18 er18 br18 => ?_)
  have kr_126_0 : rd M0 126 0 = g126_0 := eg126_0
  exact Tr.iret (pc := 19) d_X12_rate_19 rfl ⟨hS, _, rfl, by omega, by omega, by omega⟩

def ws_X12_sharesOf_120 : List (Int × Int) := [(120, 97), (120, 98), (120, 99)]
def as_X12_sharesOf_120 : List Int := []
def q_X12_sharesOf_120 (M0 M' : Mem) (r : Option PV) : Prop := St Tru ws_X12_sharesOf_120 as_X12_sharesOf_120 M0 M' ∧ ∃ v : Int, r = some (1, v) ∧ (-9223372036854775808) ≤ v ∧ v ≤ 9223372036854775807
set_option maxRecDepth 100000 in
set_option maxHeartbeats 4000000 in
theorem sp_X12_sharesOf_120 {l : Launch} {K : EC} {M0 : Mem} (hI : In Tru M0) (en_120_12 : rd M0 120 12 = 0) (a1 : Int) (ha1 : 0 ≤ a1 ∧ a1 ≤ 5) (a2 : Int) (ha2 : (-2147483648) ≤ a2 ∧ a2 ≤ 2147483647)  (hF_Bk0 : Bk0 M0) : Tr l K 2 mX12_sharesOf 0 [(0, (2, 120)), (1, (0, a1)), (2, (0, a2))] [] M0 (q_X12_sharesOf_120 M0) := by
  have hS : St Tru ws_X12_sharesOf_120 as_X12_sharesOf_120 M0 M0 := St.rf hI
  refine Tr.lconst (pc := 0) (v := 0) d_X12_sharesOf_0 rfl (by decide) ?_
  refine Tr.lstore_n (pc := 1) (i := 3) (ls2 := [(3, (1, 0)), (0, (2, 120)), (1, (0, a1)), (2, (0, a2))]) d_X12_sharesOf_1 rfl (by decide) rfl ?_
  refine Tr.iconst (pc := 2) d_X12_sharesOf_2 (by decide) ?_
  refine Tr.istore (pc := 3) (i := 5) (ls2 := [(5, (0, 1)), (3, (1, 0)), (0, (2, 120)), (1, (0, a1)), (2, (0, a2))]) d_X12_sharesOf_3 (by decide) rfl ?_
  refine Tr.iconst (pc := 5) d_X12_sharesOf_5 (by decide) ?_
  refine Tr.istore (pc := 6) (i := 6) (ls2 := [(6, (0, 0)), (5, (0, 1)), (3, (1, 0)), (0, (2, 120)), (1, (0, a1)), (2, (0, a2))]) d_X12_sharesOf_6 (by decide) rfl ?_
  have J8 : ∀ (n8 : Nat) (M : Mem) (p8_3 p8_5 p8_6 : Int), St Tru ws_X12_sharesOf_120 as_X12_sharesOf_120 M0 M → ((-9223372036854775808) ≤ p8_3 ∧ p8_3 ≤ 9223372036854775807) → (0 ≤ p8_5 ∧ p8_5 ≤ 1) → (0 ≤ p8_6 ∧ p8_6 ≤ 2147483647) → (p8_6 ≤ 2102 ∧ (p8_5 = 0 ∨ p8_6 ≤ 2101)) → (2300 - p8_6).toNat < n8 → Tr l K 2 mX12_sharesOf 8 [(0, (2, 120)), (1, (0, a1)), (2, (0, a2)), (3, (1, p8_3)), (5, (0, p8_5)), (6, (0, p8_6))] [] M (q_X12_sharesOf_120 M0) := by
    intro n8
    induction n8 with
    | zero => intro M p8_3 p8_5 p8_6 hS bp8_3 bp8_5 bp8_6  t8_0 hm8; exact absurd hm8 (Nat.not_lt_zero _)
    | succ n8 J8 =>
      intro M p8_3 p8_5 p8_6 hS bp8_3 bp8_5 bp8_6  t8_0 hm8
      refine Tr.iload (pc := 8) (i := 5) d_X12_sharesOf_8 rfl ?_
      refine Tr.if_eq (pc := 10) (tgt := 117) d_X12_sharesOf_10 rfl (fun c10 => ?_) (fun c10 => ?_)
      · refine Tr.lload_n (pc := 117) (i := 3) d_X12_sharesOf_117 rfl rfl ?_
        exact Tr.lret (pc := 118) d_X12_sharesOf_118 rfl ⟨hS, _, rfl, by omega, by omega⟩
      · refine Tr.aload_n (pc := 13) (i := 0) d_X12_sharesOf_13 rfl rfl ?_
        refine Tr.iload_n (pc := 14) (i := 1) d_X12_sharesOf_14 rfl rfl ?_
        refine Tr.iload (pc := 15) (i := 6) d_X12_sharesOf_15 rfl ?_
        refine Tr.callV (pc := 17) (as := [_, _]) d_X12_sharesOf_17 s_12_644 ok_X12_finds rfl rfl (Nat.le_of_ble_eq_true rfl) (Nat.le_of_ble_eq_true rfl) (by decide) (ty_120 hS.1.1) ?_
        refine Tr.imp (Tr.deep (by decide) (sp_X12_finds_120 hS.1 a1 (by omega) p8_6 (by omega))) ?_
        rintro M17 _ ⟨h17, r17, rfl, lr17, ur17, z17_0⟩
        have hS := St.tr hS h17 (by decide) (by decide)
        refine Tr.sc [(0, r17)] rfl ?_
        refine Tr.istore (pc := 20) (i := 5) (ls2 := [(5, (0, r17)), (0, (2, 120)), (1, (0, a1)), (2, (0, a2)), (3, (1, p8_3)), (6, (0, p8_6))]) d_X12_sharesOf_20 (by decide) rfl ?_
        refine Tr.iload (pc := 22) (i := 5) d_X12_sharesOf_22 rfl ?_
        have J111 : ∀ (M : Mem) (p111_3 : Int), St Tru ws_X12_sharesOf_120 as_X12_sharesOf_120 M0 M → ((-9223372036854775808) ≤ p111_3 ∧ p111_3 ≤ 9223372036854775807) → (p8_6 ≤ 2101 ∧ (r17 = 0 ∨ p8_6 ≤ 2100)) → Tr l K 2 mX12_sharesOf 111 [(0, (2, 120)), (1, (0, a1)), (2, (0, a2)), (3, (1, p111_3)), (5, (0, r17)), (6, (0, p8_6))] [] M (q_X12_sharesOf_120 M0) := by
          intro M p111_3 hS bp111_3  t111_0
          refine Tr.iincV (pc := 111) (n2 := (p8_6 + 1)) (ls2 := [(6, (0, (p8_6 + 1))), (0, (2, 120)), (1, (0, a1)), (2, (0, a2)), (3, (1, p111_3)), (5, (0, r17))]) d_X12_sharesOf_111 rfl (by decide) ((w32_id (by omega)).trans (by omega)) rfl ?_
          refine Tr.goto (pc := 114) (tgt := 8) d_X12_sharesOf_114 rfl ?_
          refine Tr.pick [1, 2, 3, 4, 5, 0] (ls2 := [(0, (2, 120)), (1, (0, a1)), (2, (0, a2)), (3, (1, p111_3)), (5, (0, r17)), (6, (0, (p8_6 + 1)))]) rfl ?_
          exact J8 _ _ _ _ hS (by omega) (by omega) (by omega) (by first | assumption | omega) (by omega)
        refine Tr.if_ne (pc := 24) (tgt := 30) d_X12_sharesOf_24 rfl (fun c24 => ?_) (fun c24 => ?_)
        · refine Tr.aload_n (pc := 30) (i := 0) d_X12_sharesOf_30 rfl rfl ?_
          refine Tr.iload_n (pc := 31) (i := 1) d_X12_sharesOf_31 rfl rfl ?_
          refine Tr.callV (pc := 32) (as := [_]) d_X12_sharesOf_32 s_12_650 ok_X12_linesIn rfl rfl (Nat.le_of_ble_eq_true rfl) (Nat.le_of_ble_eq_true rfl) (by decide) (ty_120 hS.1.1) ?_
          refine Tr.imp (Tr.deep (by decide) (sp_X12_linesIn_120 hS.1 a1 (by omega))) ?_
          rintro M32 _ ⟨h32, r32, rfl, lr32, ur32⟩
          have hS := St.tr hS h32 (by decide) (by decide)
          refine Tr.sc [(1, r32)] rfl ?_
          refine Tr.lstore (pc := 35) (i := 7) (ls2 := [(7, (1, r32)), (5, (0, r17)), (0, (2, 120)), (1, (0, a1)), (2, (0, a2)), (3, (1, p8_3)), (6, (0, p8_6))]) d_X12_sharesOf_35 (by decide) rfl ?_
          refine Tr.lload (pc := 37) (i := 7) d_X12_sharesOf_37 rfl ?_
          refine Tr.iload_n (pc := 39) (i := 2) d_X12_sharesOf_39 rfl rfl ?_
          refine Tr.lshr (pc := 40) d_X12_sharesOf_40 ?_
          refine Tr.gen (P := fun v => ((-9223372036854775808) ≤ v ∧ v ≤ 9223372036854775807) ∧ (r32 ≠ 0 ∨ v = 0)) (lshr_z _ _) (fun r40 er40 br40 => ?_)
          refine Tr.lconst (pc := 41) (v := 1) d_X12_sharesOf_41 rfl (by decide) ?_
          refine Tr.land (pc := 42) d_X12_sharesOf_42 ?_
          refine Tr.gen (P := fun v => v = r40 % 2 ∧ (0 ≤ v ∧ v ≤ 1)) ⟨(f_land_1 _).1, (f_land_1 _).2⟩ (fun r42 er42 br42 => ?_)
          refine Tr.lconst (pc := 43) (v := 0) d_X12_sharesOf_43 rfl (by decide) ?_
          refine Tr.lcmp (pc := 44) d_X12_sharesOf_44 ?_
          refine Tr.gen (P := fun v => (v = 1 ∧ 0 < r42) ∨ (v = 0 ∧ r42 = 0) ∨ (v = -1 ∧ r42 < 0)) (f_lcmp_c _ _) (fun r44 er44 br44 => ?_)
          refine Tr.if_ne (pc := 45) (tgt := 51) d_X12_sharesOf_45 rfl (fun c45 => ?_) (fun c45 => ?_)
          · refine Tr.lload (pc := 51) (i := 7) d_X12_sharesOf_51 rfl ?_
            refine Tr.callS (pc := 53) (as := [_]) d_X12_sharesOf_53 s_12_653 ok_X12_bitsOf rfl rfl (Nat.le_of_ble_eq_true rfl) (Nat.le_of_ble_eq_true rfl) ?_
            refine Tr.imp (Tr.deep (by decide) (sp_X12_bitsOf hS.1 r32 (by omega))) ?_
            rintro M53 _ ⟨h53, r53, rfl, lr53, ur53, wr53⟩
            have hS := St.tr hS h53 (by decide) (by decide)
            refine Tr.sc [(0, r53)] rfl ?_
            refine Tr.istore (pc := 56) (i := 9) (ls2 := [(9, (0, r53)), (7, (1, r32)), (5, (0, r17)), (0, (2, 120)), (1, (0, a1)), (2, (0, a2)), (3, (1, p8_3)), (6, (0, p8_6))]) d_X12_sharesOf_56 (by decide) rfl ?_
            refine Tr.aload_n (pc := 58) (i := 0) d_X12_sharesOf_58 rfl rfl ?_
            refine Tr.iload_n (pc := 59) (i := 1) d_X12_sharesOf_59 rfl rfl ?_
            refine Tr.callV (pc := 60) (as := [_]) d_X12_sharesOf_60 s_12_647 ok_X12_onIn rfl rfl (Nat.le_of_ble_eq_true rfl) (Nat.le_of_ble_eq_true rfl) (by decide) (ty_120 hS.1.1) ?_
            refine Tr.imp (Tr.deep (by decide) (sp_X12_onIn_120 hS.1 a1 (by omega))) ?_
            rintro M60 _ ⟨h60, r60, rfl, lr60, ur60⟩
            have hS := St.tr hS h60 (by decide) (by decide)
            refine Tr.sc [(0, r60)] rfl ?_
            refine Tr.i2l (pc := 63) d_X12_sharesOf_63 ?_
            refine Tr.aload_n (pc := 64) (i := 0) d_X12_sharesOf_64 rfl rfl ?_
            refine Tr.iload_n (pc := 65) (i := 1) d_X12_sharesOf_65 rfl rfl ?_
            refine Tr.iconst (pc := 66) d_X12_sharesOf_66 (by decide) ?_
            refine Tr.callV (pc := 67) (as := [_, _]) d_X12_sharesOf_67 s_12_565 ok_X12_rate rfl rfl (Nat.le_of_ble_eq_true rfl) (Nat.le_of_ble_eq_true rfl) (by decide) (ty_120 hS.1.1) ?_
            refine Tr.imp (Tr.deep (by decide) (sp_X12_rate_120 hS.1 ((St.kp hS (by decide) (by decide) (by decide)).trans en_120_12) a1 (by omega) 3 (by omega) (Bk0.of hF_Bk0 (fun j => (St.ka hS (by decide) (by decide) (by decide))) (fun j => (St.ka hS (by decide) (by decide) (by decide))) (fun j => (St.ka hS (by decide) (by decide) (by decide))) (fun j => (St.ka hS (by decide) (by decide) (by decide))) (fun j => (St.ka hS (by decide) (by decide) (by decide))) (fun j => (St.ka hS (by decide) (by decide) (by decide))) (fun j => (St.ka hS (by decide) (by decide) (by decide))) (fun j => (St.ka hS (by decide) (by decide) (by decide))) (St.kp hS (by decide) (by decide) (by decide)) (St.kp hS (by decide) (by decide) (by decide)) (St.kp hS (by decide) (by decide) (by decide)) (St.kp hS (by decide) (by decide) (by decide))))) ?_
            rintro M67 _ ⟨h67, r67, rfl, lr67, ur67, z67_0⟩
            have hS := St.tr hS h67 (by decide) (by decide)
            obtain ⟨w67_126_0, ew67_126_0⟩ : ∃ v, rd M67 126 0 = v := ⟨_, rfl⟩
            have bw67_126_0 : 0 ≤ w67_126_0 ∧ w67_126_0 ≤ 6 := by rw [← ew67_126_0]; exact ir_126_0 hS.1.2.1
            have ka67_126_0 : rd M67 126 0 = w67_126_0 := ew67_126_0
            refine Tr.sc [(0, r67), (1, r60)] rfl ?_
            refine Tr.i2l (pc := 70) d_X12_sharesOf_70 ?_
            refine Tr.lmul (pc := 71) d_X12_sharesOf_71 ?_
            refine Tr.gen (P := fun v => (-9223372036854775808) ≤ v ∧ v ≤ 9223372036854775807) (w64_b _) (fun r71 er71 br71 => ?_)
            refine Tr.lstore (pc := 72) (i := 10) (ls2 := [(10, (1, r71)), (9, (0, r53)), (7, (1, r32)), (5, (0, r17)), (0, (2, 120)), (1, (0, a1)), (2, (0, a2)), (3, (1, p8_3)), (6, (0, p8_6))]) d_X12_sharesOf_72 (by decide) rfl ?_
            refine Tr.lload_n (pc := 74) (i := 3) d_X12_sharesOf_74 rfl rfl ?_
            refine Tr.lload (pc := 75) (i := 10) d_X12_sharesOf_75 rfl ?_
            refine Tr.iload (pc := 77) (i := 9) d_X12_sharesOf_77 rfl ?_
            refine Tr.i2l (pc := 79) d_X12_sharesOf_79 ?_
            refine Tr.ldiv (pc := 80) d_X12_sharesOf_80 (by omega) ?_
            refine Tr.gen (P := fun v => (-9223372036854775808) ≤ v ∧ v ≤ 9223372036854775807) (w64_b _) (fun r80 er80 br80 => ?_)
            refine Tr.lload (pc := 81) (i := 7) d_X12_sharesOf_81 rfl ?_
            refine Tr.lconst (pc := 83) (v := 1) d_X12_sharesOf_83 rfl (by decide) ?_
            refine Tr.iload_n (pc := 84) (i := 2) d_X12_sharesOf_84 rfl rfl ?_
            refine Tr.lshl (pc := 85) d_X12_sharesOf_85 ?_
            refine Tr.gen (P := fun v => (-9223372036854775808) ≤ v ∧ v ≤ 9223372036854775807) (i64_b _) (fun r85 er85 br85 => ?_)
            refine Tr.lconst (pc := 86) (v := 1) d_X12_sharesOf_86 rfl (by decide) ?_
            refine Tr.lsub (pc := 87) d_X12_sharesOf_87 ?_
            refine Tr.gen (P := fun v => (-9223372036854775808) ≤ v ∧ v ≤ 9223372036854775807) (w64_b _) (fun r87 er87 br87 => ?_)
            refine Tr.land (pc := 88) d_X12_sharesOf_88 ?_
            refine Tr.gen (P := fun v => (-9223372036854775808) ≤ v ∧ v ≤ 9223372036854775807) (i64_b _) (fun r88 er88 br88 => ?_)
            refine Tr.callS (pc := 89) (as := [_]) d_X12_sharesOf_89 s_12_653 ok_X12_bitsOf rfl rfl (Nat.le_of_ble_eq_true rfl) (Nat.le_of_ble_eq_true rfl) ?_
            refine Tr.imp (Tr.deep (by decide) (sp_X12_bitsOf hS.1 r88 (by omega))) ?_
            rintro M89 _ ⟨h89, r89, rfl, lr89, ur89, wr89⟩
            have hS := St.tr hS h89 (by decide) (by decide)
            refine Tr.sc [(0, r89), (1, r80), (1, p8_3)] rfl ?_
            refine Tr.i2l (pc := 92) d_X12_sharesOf_92 ?_
            refine Tr.lload (pc := 93) (i := 10) d_X12_sharesOf_93 rfl ?_
            refine Tr.iload (pc := 95) (i := 9) d_X12_sharesOf_95 rfl ?_
            refine Tr.i2l (pc := 97) d_X12_sharesOf_97 ?_
            refine Tr.lrem (pc := 98) d_X12_sharesOf_98 (by omega) ?_
            refine Tr.gen (P := fun v => (-9223372036854775808) ≤ v ∧ v ≤ 9223372036854775807) (rem64_b _ _ (by omega)) (fun r98 er98 br98 => ?_)
            refine Tr.lcmp (pc := 99) d_X12_sharesOf_99 ?_
            refine Tr.gen (P := fun v => (v = 1 ∧ r98 < r89) ∨ (v = 0 ∧ r89 = r98) ∨ (v = -1 ∧ r89 < r98)) (f_lcmp_c _ _) (fun r99 er99 br99 => ?_)
            have J108 : ∀ (M : Mem) (q108_2 : Int), St Tru ws_X12_sharesOf_120 as_X12_sharesOf_120 M0 M → (0 ≤ q108_2 ∧ q108_2 ≤ 1) → rd M 126 0 = w67_126_0 → Tr l K 2 mX12_sharesOf 108 [(0, (2, 120)), (1, (0, a1)), (2, (0, a2)), (5, (0, r17)), (6, (0, p8_6))] [(1, q108_2), (1, r80), (1, p8_3)] M (q_X12_sharesOf_120 M0) := by
              intro M q108_2 hS bq108_2 k108_126_0
              refine Tr.ladd (pc := 108) d_X12_sharesOf_108 ?_
              refine Tr.gen (P := fun v => (-9223372036854775808) ≤ v ∧ v ≤ 9223372036854775807) (w64_b _) (fun r108 er108 br108 => ?_)
              refine Tr.ladd (pc := 109) d_X12_sharesOf_109 ?_
              refine Tr.gen (P := fun v => (-9223372036854775808) ≤ v ∧ v ≤ 9223372036854775807) (w64_b _) (fun r109 er109 br109 => ?_)
              refine Tr.lstore_n (pc := 110) (i := 3) (ls2 := [(3, (1, r109)), (0, (2, 120)), (1, (0, a1)), (2, (0, a2)), (5, (0, r17)), (6, (0, p8_6))]) d_X12_sharesOf_110 rfl (by decide) rfl ?_
              refine Tr.pick [1, 2, 3, 0, 4, 5] (ls2 := [(0, (2, 120)), (1, (0, a1)), (2, (0, a2)), (3, (1, r109)), (5, (0, r17)), (6, (0, p8_6))]) rfl ?_
              exact J111 _ _ hS (by omega) (by first | assumption | omega)
            refine Tr.if_ge (pc := 100) (tgt := 107) d_X12_sharesOf_100 rfl (fun c100 => ?_) (fun c100 => ?_)
            · refine Tr.lconst (pc := 107) (v := 0) d_X12_sharesOf_107 rfl (by decide) ?_
              refine Tr.pick [4, 5, 6, 3, 8] (ls2 := [(0, (2, 120)), (1, (0, a1)), (2, (0, a2)), (5, (0, r17)), (6, (0, p8_6))]) rfl ?_
              exact J108 _ _ hS (by omega) ((St.kp h89 (by decide) (by decide) (by decide)).trans ew67_126_0)
            · refine Tr.lconst (pc := 103) (v := 1) d_X12_sharesOf_103 rfl (by decide) ?_
              refine Tr.goto (pc := 104) (tgt := 108) d_X12_sharesOf_104 rfl ?_
              refine Tr.pick [4, 5, 6, 3, 8] (ls2 := [(0, (2, 120)), (1, (0, a1)), (2, (0, a2)), (5, (0, r17)), (6, (0, p8_6))]) rfl ?_
              exact J108 _ _ hS (by omega) ((St.kp h89 (by decide) (by decide) (by decide)).trans ew67_126_0)
          · refine Tr.goto (pc := 48) (tgt := 111) d_X12_sharesOf_48 rfl ?_
            refine Tr.pick [2, 3, 4, 5, 1, 6] (ls2 := [(0, (2, 120)), (1, (0, a1)), (2, (0, a2)), (3, (1, p8_3)), (5, (0, r17)), (6, (0, p8_6))]) rfl ?_
            exact J111 _ _ hS (by omega) (by first | assumption | omega)
        · refine Tr.goto (pc := 27) (tgt := 111) d_X12_sharesOf_27 rfl ?_
          refine Tr.pick [1, 2, 3, 4, 0, 5] (ls2 := [(0, (2, 120)), (1, (0, a1)), (2, (0, a2)), (3, (1, p8_3)), (5, (0, r17)), (6, (0, p8_6))]) rfl ?_
          exact J111 _ _ hS (by omega) (by first | assumption | omega)
  refine Tr.pick [3, 4, 5, 2, 1, 0] (ls2 := [(0, (2, 120)), (1, (0, a1)), (2, (0, a2)), (3, (1, 0)), (5, (0, 1)), (6, (0, 0))]) rfl ?_
  exact J8 _ _ _ _ _ hS (by omega) (by omega) (by omega) (by first | assumption | omega) (Nat.lt_succ_self _)

def ws_X12_sleeps_120 : List (Int × Int) := []
def as_X12_sleeps_120 : List Int := []
def q_X12_sleeps_120 (M0 M' : Mem) (r : Option PV) : Prop := St Tru ws_X12_sleeps_120 as_X12_sleeps_120 M0 M' ∧ ∃ v : Int, r = some (0, v) ∧ (-2147483648) ≤ v ∧ v ≤ 2147483647
set_option maxRecDepth 100000 in
set_option maxHeartbeats 4000000 in
theorem sp_X12_sleeps_120 {l : Launch} {K : EC} {M0 : Mem} (hI : In Tru M0) (en_120_12 : rd M0 120 12 = 0) (a1 : Int) (ha1 : 0 ≤ a1 ∧ a1 ≤ 5)  (hF_Bk0 : Bk0 M0) : Tr l K 1 mX12_sleeps 0 [(0, (2, 120)), (1, (0, a1))] [] M0 (q_X12_sleeps_120 M0) := by
  have hS : St Tru ws_X12_sleeps_120 as_X12_sleeps_120 M0 M0 := St.rf hI
  refine Tr.aload_n (pc := 0) (i := 0) d_X12_sleeps_0 rfl rfl ?_
  refine Tr.iload_n (pc := 1) (i := 1) d_X12_sleeps_1 rfl rfl ?_
  refine Tr.iconst (pc := 2) d_X12_sleeps_2 (by decide) ?_
  refine Tr.callV (pc := 3) (as := [_, _]) d_X12_sleeps_3 s_12_565 ok_X12_rate rfl rfl (Nat.le_of_ble_eq_true rfl) (Nat.le_of_ble_eq_true rfl) (by decide) (ty_120 hS.1.1) ?_
  refine Tr.imp (Tr.deep (by decide) (sp_X12_rate_120 hS.1 ((St.kp hS (by decide) (by decide) (by decide)).trans en_120_12) a1 (by omega) 0 (by omega) (Bk0.of hF_Bk0 (fun j => (St.ka hS (by decide) (by decide) (by decide))) (fun j => (St.ka hS (by decide) (by decide) (by decide))) (fun j => (St.ka hS (by decide) (by decide) (by decide))) (fun j => (St.ka hS (by decide) (by decide) (by decide))) (fun j => (St.ka hS (by decide) (by decide) (by decide))) (fun j => (St.ka hS (by decide) (by decide) (by decide))) (fun j => (St.ka hS (by decide) (by decide) (by decide))) (fun j => (St.ka hS (by decide) (by decide) (by decide))) (St.kp hS (by decide) (by decide) (by decide)) (St.kp hS (by decide) (by decide) (by decide)) (St.kp hS (by decide) (by decide) (by decide)) (St.kp hS (by decide) (by decide) (by decide))))) ?_
  rintro M3 _ ⟨h3, r3, rfl, lr3, ur3, z3_0⟩
  have hS := St.tr hS h3 (by decide) (by decide)
  obtain ⟨w3_126_0, ew3_126_0⟩ : ∃ v, rd M3 126 0 = v := ⟨_, rfl⟩
  have bw3_126_0 : 0 ≤ w3_126_0 ∧ w3_126_0 ≤ 6 := by rw [← ew3_126_0]; exact ir_126_0 hS.1.2.1
  have ka3_126_0 : rd M3 126 0 = w3_126_0 := ew3_126_0
  refine Tr.sc [(0, r3)] rfl ?_
  exact Tr.iret (pc := 6) d_X12_sleeps_6 rfl ⟨hS, _, rfl, by omega, by omega⟩

def ws_X12_sips_120 : List (Int × Int) := []
def as_X12_sips_120 : List Int := []
def q_X12_sips_120 (M0 M' : Mem) (r : Option PV) : Prop := St Tru ws_X12_sips_120 as_X12_sips_120 M0 M' ∧ ∃ v : Int, r = some (0, v) ∧ (-2147483648) ≤ v ∧ v ≤ 2147483647
set_option maxRecDepth 100000 in
set_option maxHeartbeats 4000000 in
theorem sp_X12_sips_120 {l : Launch} {K : EC} {M0 : Mem} (hI : In Tru M0) (en_120_12 : rd M0 120 12 = 0) (a1 : Int) (ha1 : 0 ≤ a1 ∧ a1 ≤ 5) (a2 : Int) (ha2 : 0 ≤ a2 ∧ a2 ≤ 3)  (hF_Bk0 : Bk0 M0) : Tr l K 2 mX12_sips 0 [(0, (2, 120)), (1, (0, a1)), (2, (0, a2))] [] M0 (q_X12_sips_120 M0) := by
  have hS : St Tru ws_X12_sips_120 as_X12_sips_120 M0 M0 := St.rf hI
  refine Tr.iload_n (pc := 0) (i := 2) d_X12_sips_0 rfl rfl ?_
  refine Tr.if_ne (pc := 1) (tgt := 12) d_X12_sips_1 rfl (fun c1 => ?_) (fun c1 => ?_)
  · refine Tr.iload_n (pc := 12) (i := 2) d_X12_sips_12 rfl rfl ?_
    refine Tr.iconst (pc := 13) d_X12_sips_13 (by decide) ?_
    refine Tr.icmp_ne (pc := 14) (tgt := 26) d_X12_sips_14 rfl (fun c14 => ?_) (fun c14 => ?_)
    · refine Tr.iload_n (pc := 26) (i := 2) d_X12_sips_26 rfl rfl ?_
      refine Tr.iconst (pc := 27) d_X12_sips_27 (by decide) ?_
      refine Tr.icmp_ne (pc := 28) (tgt := 40) d_X12_sips_28 rfl (fun c28 => ?_) (fun c28 => ?_)
      · refine Tr.aload_n (pc := 40) (i := 0) d_X12_sips_40 rfl rfl ?_
        refine Tr.iload_n (pc := 41) (i := 1) d_X12_sips_41 rfl rfl ?_
        refine Tr.iconst (pc := 42) d_X12_sips_42 (by decide) ?_
        refine Tr.callV (pc := 43) (as := [_, _]) d_X12_sips_43 s_12_565 ok_X12_rate rfl rfl (Nat.le_of_ble_eq_true rfl) (Nat.le_of_ble_eq_true rfl) (by decide) (ty_120 hS.1.1) ?_
        refine Tr.imp (Tr.deep (by decide) (sp_X12_rate_120 hS.1 ((St.kp hS (by decide) (by decide) (by decide)).trans en_120_12) a1 (by omega) 4 (by omega) (Bk0.of hF_Bk0 (fun j => (St.ka hS (by decide) (by decide) (by decide))) (fun j => (St.ka hS (by decide) (by decide) (by decide))) (fun j => (St.ka hS (by decide) (by decide) (by decide))) (fun j => (St.ka hS (by decide) (by decide) (by decide))) (fun j => (St.ka hS (by decide) (by decide) (by decide))) (fun j => (St.ka hS (by decide) (by decide) (by decide))) (fun j => (St.ka hS (by decide) (by decide) (by decide))) (fun j => (St.ka hS (by decide) (by decide) (by decide))) (St.kp hS (by decide) (by decide) (by decide)) (St.kp hS (by decide) (by decide) (by decide)) (St.kp hS (by decide) (by decide) (by decide)) (St.kp hS (by decide) (by decide) (by decide))))) ?_
        rintro M43 _ ⟨h43, r43, rfl, lr43, ur43, z43_0⟩
        have hS := St.tr hS h43 (by decide) (by decide)
        obtain ⟨w43_126_0, ew43_126_0⟩ : ∃ v, rd M43 126 0 = v := ⟨_, rfl⟩
        have bw43_126_0 : 0 ≤ w43_126_0 ∧ w43_126_0 ≤ 6 := by rw [← ew43_126_0]; exact ir_126_0 hS.1.2.1
        have ka43_126_0 : rd M43 126 0 = w43_126_0 := ew43_126_0
        refine Tr.sc [(0, r43)] rfl ?_
        exact Tr.iret (pc := 46) d_X12_sips_46 rfl ⟨hS, _, rfl, by omega, by omega⟩
      · refine Tr.aload_n (pc := 31) (i := 0) d_X12_sips_31 rfl rfl ?_
        refine Tr.iload_n (pc := 32) (i := 1) d_X12_sips_32 rfl rfl ?_
        refine Tr.iconst (pc := 33) d_X12_sips_33 (by decide) ?_
        refine Tr.callV (pc := 34) (as := [_, _]) d_X12_sips_34 s_12_565 ok_X12_rate rfl rfl (Nat.le_of_ble_eq_true rfl) (Nat.le_of_ble_eq_true rfl) (by decide) (ty_120 hS.1.1) ?_
        refine Tr.imp (Tr.deep (by decide) (sp_X12_rate_120 hS.1 ((St.kp hS (by decide) (by decide) (by decide)).trans en_120_12) a1 (by omega) 3 (by omega) (Bk0.of hF_Bk0 (fun j => (St.ka hS (by decide) (by decide) (by decide))) (fun j => (St.ka hS (by decide) (by decide) (by decide))) (fun j => (St.ka hS (by decide) (by decide) (by decide))) (fun j => (St.ka hS (by decide) (by decide) (by decide))) (fun j => (St.ka hS (by decide) (by decide) (by decide))) (fun j => (St.ka hS (by decide) (by decide) (by decide))) (fun j => (St.ka hS (by decide) (by decide) (by decide))) (fun j => (St.ka hS (by decide) (by decide) (by decide))) (St.kp hS (by decide) (by decide) (by decide)) (St.kp hS (by decide) (by decide) (by decide)) (St.kp hS (by decide) (by decide) (by decide)) (St.kp hS (by decide) (by decide) (by decide))))) ?_
        rintro M34 _ ⟨h34, r34, rfl, lr34, ur34, z34_0⟩
        have hS := St.tr hS h34 (by decide) (by decide)
        obtain ⟨w34_126_0, ew34_126_0⟩ : ∃ v, rd M34 126 0 = v := ⟨_, rfl⟩
        have bw34_126_0 : 0 ≤ w34_126_0 ∧ w34_126_0 ≤ 6 := by rw [← ew34_126_0]; exact ir_126_0 hS.1.2.1
        have ka34_126_0 : rd M34 126 0 = w34_126_0 := ew34_126_0
        refine Tr.sc [(0, r34)] rfl ?_
        refine Tr.goto (pc := 37) (tgt := 46) d_X12_sips_37 rfl ?_
        exact Tr.iret (pc := 46) d_X12_sips_46 rfl ⟨hS, _, rfl, by omega, by omega⟩
    · refine Tr.aload_n (pc := 17) (i := 0) d_X12_sips_17 rfl rfl ?_
      refine Tr.iload_n (pc := 18) (i := 1) d_X12_sips_18 rfl rfl ?_
      refine Tr.iconst (pc := 19) d_X12_sips_19 (by decide) ?_
      refine Tr.callV (pc := 20) (as := [_, _]) d_X12_sips_20 s_12_565 ok_X12_rate rfl rfl (Nat.le_of_ble_eq_true rfl) (Nat.le_of_ble_eq_true rfl) (by decide) (ty_120 hS.1.1) ?_
      refine Tr.imp (Tr.deep (by decide) (sp_X12_rate_120 hS.1 ((St.kp hS (by decide) (by decide) (by decide)).trans en_120_12) a1 (by omega) 2 (by omega) (Bk0.of hF_Bk0 (fun j => (St.ka hS (by decide) (by decide) (by decide))) (fun j => (St.ka hS (by decide) (by decide) (by decide))) (fun j => (St.ka hS (by decide) (by decide) (by decide))) (fun j => (St.ka hS (by decide) (by decide) (by decide))) (fun j => (St.ka hS (by decide) (by decide) (by decide))) (fun j => (St.ka hS (by decide) (by decide) (by decide))) (fun j => (St.ka hS (by decide) (by decide) (by decide))) (fun j => (St.ka hS (by decide) (by decide) (by decide))) (St.kp hS (by decide) (by decide) (by decide)) (St.kp hS (by decide) (by decide) (by decide)) (St.kp hS (by decide) (by decide) (by decide)) (St.kp hS (by decide) (by decide) (by decide))))) ?_
      rintro M20 _ ⟨h20, r20, rfl, lr20, ur20, z20_0⟩
      have hS := St.tr hS h20 (by decide) (by decide)
      obtain ⟨w20_126_0, ew20_126_0⟩ : ∃ v, rd M20 126 0 = v := ⟨_, rfl⟩
      have bw20_126_0 : 0 ≤ w20_126_0 ∧ w20_126_0 ≤ 6 := by rw [← ew20_126_0]; exact ir_126_0 hS.1.2.1
      have ka20_126_0 : rd M20 126 0 = w20_126_0 := ew20_126_0
      refine Tr.sc [(0, r20)] rfl ?_
      refine Tr.goto (pc := 23) (tgt := 46) d_X12_sips_23 rfl ?_
      exact Tr.iret (pc := 46) d_X12_sips_46 rfl ⟨hS, _, rfl, by omega, by omega⟩
  · refine Tr.aload_n (pc := 4) (i := 0) d_X12_sips_4 rfl rfl ?_
    refine Tr.iload_n (pc := 5) (i := 1) d_X12_sips_5 rfl rfl ?_
    refine Tr.callV (pc := 6) (as := [_]) d_X12_sips_6 s_12_568 ok_X12_sleeps rfl rfl (Nat.le_of_ble_eq_true rfl) (Nat.le_of_ble_eq_true rfl) (by decide) (ty_120 hS.1.1) ?_
    refine Tr.imp (Tr.deep (by decide) (sp_X12_sleeps_120 hS.1 ((St.kp hS (by decide) (by decide) (by decide)).trans en_120_12) a1 (by omega) (Bk0.of hF_Bk0 (fun j => (St.ka hS (by decide) (by decide) (by decide))) (fun j => (St.ka hS (by decide) (by decide) (by decide))) (fun j => (St.ka hS (by decide) (by decide) (by decide))) (fun j => (St.ka hS (by decide) (by decide) (by decide))) (fun j => (St.ka hS (by decide) (by decide) (by decide))) (fun j => (St.ka hS (by decide) (by decide) (by decide))) (fun j => (St.ka hS (by decide) (by decide) (by decide))) (fun j => (St.ka hS (by decide) (by decide) (by decide))) (St.kp hS (by decide) (by decide) (by decide)) (St.kp hS (by decide) (by decide) (by decide)) (St.kp hS (by decide) (by decide) (by decide)) (St.kp hS (by decide) (by decide) (by decide))))) ?_
    rintro M6 _ ⟨h6, r6, rfl, lr6, ur6⟩
    have hS := St.tr hS h6 (by decide) (by decide)
    refine Tr.sc [(0, r6)] rfl ?_
    refine Tr.goto (pc := 9) (tgt := 46) d_X12_sips_9 rfl ?_
    exact Tr.iret (pc := 46) d_X12_sips_46 rfl ⟨hS, _, rfl, by omega, by omega⟩

def ws_X12_pays_120 : List (Int × Int) := [(120, 97), (120, 98), (120, 99)]
def as_X12_pays_120 : List Int := []
def q_X12_pays_120 (M0 M' : Mem) (r : Option PV) : Prop := St Tru ws_X12_pays_120 as_X12_pays_120 M0 M' ∧ ∃ v : Int, r = some (0, v) ∧ (-2147483648) ≤ v ∧ v ≤ 2147483647
set_option maxRecDepth 100000 in
set_option maxHeartbeats 4000000 in
theorem sp_X12_pays_120 {l : Launch} {K : EC} {M0 : Mem} (hI : In Tru M0) (en_120_12 : rd M0 120 12 = 0) (a1 : Int) (ha1 : (-2147483648) ≤ a1 ∧ a1 ≤ 2147483647) (a2 : Int) (ha2 : (-2147483648) ≤ a2 ∧ a2 ≤ 2147483647)  (hF_Bk0 : Bk0 M0) : Tr l K 3 mX12_pays 0 [(0, (2, 120)), (1, (0, a1)), (2, (0, a2))] [] M0 (q_X12_pays_120 M0) := by
  have hS : St Tru ws_X12_pays_120 as_X12_pays_120 M0 M0 := St.rf hI
  refine Tr.aload_n (pc := 0) (i := 0) d_X12_pays_0 rfl rfl ?_
  refine Tr.getz (pc := 1) d_X12_pays_1 f_12_270 (by decide) (ty_120 hS.1.1) ?_
  refine Tr.gen (P := fun v => 0 ≤ v ∧ v ≤ 1) (ir_120_85 hS.1.2.1) (fun r1 er1 br1 => ?_)
  refine Tr.if_eq (pc := 4) (tgt := 29) d_X12_pays_4 rfl (fun c4 => ?_) (fun c4 => ?_)
  · refine Tr.iconst (pc := 29) d_X12_pays_29 (by decide) ?_
    exact Tr.iret (pc := 30) d_X12_pays_30 rfl ⟨hS, _, rfl, by omega, by omega⟩
  · refine Tr.iload_n (pc := 7) (i := 2) d_X12_pays_7 rfl rfl ?_
    refine Tr.iconst (pc := 8) d_X12_pays_8 (by decide) ?_
    refine Tr.iconst (pc := 9) d_X12_pays_9 (by decide) ?_
    refine Tr.callS (pc := 10) (as := [_, _, _]) d_X12_pays_10 s_12_467 ok_X12_is rfl rfl (Nat.le_of_ble_eq_true rfl) (Nat.le_of_ble_eq_true rfl) ?_
    refine Tr.imp (Tr.deep (by decide) (sp_X12_is hS.1 a2 (by omega) 0 (by omega) 1 (by omega))) ?_
    rintro M10 _ ⟨h10, r10, rfl, lr10, ur10, wr10⟩
    have hS := St.tr hS h10 (by decide) (by decide)
    refine Tr.sc [(0, r10)] rfl ?_
    refine Tr.if_eq (pc := 13) (tgt := 29) d_X12_pays_13 rfl (fun c13 => ?_) (fun c13 => ?_)
    · refine Tr.iconst (pc := 29) d_X12_pays_29 (by decide) ?_
      exact Tr.iret (pc := 30) d_X12_pays_30 rfl ⟨hS, _, rfl, by omega, by omega⟩
    · refine Tr.iload_n (pc := 16) (i := 1) d_X12_pays_16 rfl rfl ?_
      refine Tr.iconst (pc := 17) d_X12_pays_17 (by decide) ?_
      have J31 : ∀ (M : Mem), St Tru ws_X12_pays_120 as_X12_pays_120 M0 M → ((-1) ≤ a1 ∧ a1 ≤ 59) → rd M 120 85 = r1 → Tr l K 3 mX12_pays 31 [(0, (2, 120)), (1, (0, a1)), (2, (0, a2))] [] M (q_X12_pays_120 M0) := by
        intro M  hS z31a1 k31_120_85
        refine Tr.lconst (pc := 31) (v := 0) d_X12_pays_31 rfl (by decide) ?_
        refine Tr.lstore_n (pc := 32) (i := 3) (ls2 := [(3, (1, 0)), (0, (2, 120)), (1, (0, a1)), (2, (0, a2))]) d_X12_pays_32 rfl (by decide) rfl ?_
        refine Tr.iconst (pc := 33) d_X12_pays_33 (by decide) ?_
        refine Tr.istore (pc := 34) (i := 5) (ls2 := [(5, (0, 0)), (3, (1, 0)), (0, (2, 120)), (1, (0, a1)), (2, (0, a2))]) d_X12_pays_34 (by decide) rfl ?_
        have J36 : ∀ (n36 : Nat) (M : Mem) (p36_3 p36_5 : Int), St Tru ws_X12_pays_120 as_X12_pays_120 M0 M → ((-9223372036854775808) ≤ p36_3 ∧ p36_3 ≤ 9223372036854775807) → (0 ≤ p36_5 ∧ p36_5 ≤ 2060) → rd M 120 85 = r1 → (2060 - p36_5).toNat < n36 → Tr l K 3 mX12_pays 36 [(0, (2, 120)), (1, (0, a1)), (2, (0, a2)), (3, (1, p36_3)), (5, (0, p36_5))] [] M (q_X12_pays_120 M0) := by
          intro n36
          induction n36 with
          | zero => intro M p36_3 p36_5 hS bp36_3 bp36_5 k36_120_85 hm36; exact absurd hm36 (Nat.not_lt_zero _)
          | succ n36 J36 =>
            intro M p36_3 p36_5 hS bp36_3 bp36_5 k36_120_85 hm36
            refine Tr.iload (pc := 36) (i := 5) d_X12_pays_36 rfl ?_
            refine Tr.aload_n (pc := 38) (i := 0) d_X12_pays_38 rfl rfl ?_
            refine Tr.getf (pc := 39) d_X12_pays_39 f_12_273 (by decide) (by decide) (ty_120 hS.1.1) ?_
            refine Tr.gen (P := fun v => 0 ≤ v ∧ v ≤ 2060) (ir_120_86 hS.1.2.1) (fun r39 er39 br39 => ?_)
            refine Tr.icmp_ge (pc := 42) (tgt := 185) d_X12_pays_42 rfl (fun c42 => ?_) (fun c42 => ?_)
            · refine Tr.iconst (pc := 185) d_X12_pays_185 (by decide) ?_
              refine Tr.istore (pc := 186) (i := 5) (ls2 := [(5, (0, 0)), (0, (2, 120)), (1, (0, a1)), (2, (0, a2)), (3, (1, p36_3))]) d_X12_pays_186 (by decide) rfl ?_
              have J188 : ∀ (n188 : Nat) (M : Mem) (p188_3 p188_5 : Int), St Tru ws_X12_pays_120 as_X12_pays_120 M0 M → ((-9223372036854775808) ≤ p188_3 ∧ p188_3 ≤ 9223372036854775807) → (0 ≤ p188_5 ∧ p188_5 ≤ 6) → rd M 120 85 = r1 → rd M 120 86 = r39 → (6 - p188_5).toNat < n188 → Tr l K 3 mX12_pays 188 [(0, (2, 120)), (1, (0, a1)), (2, (0, a2)), (3, (1, p188_3)), (5, (0, p188_5))] [] M (q_X12_pays_120 M0) := by
                intro n188
                induction n188 with
                | zero => intro M p188_3 p188_5 hS bp188_3 bp188_5 k188_120_85 k188_120_86 hm188; exact absurd hm188 (Nat.not_lt_zero _)
                | succ n188 J188 =>
                  intro M p188_3 p188_5 hS bp188_3 bp188_5 k188_120_85 k188_120_86 hm188
                  refine Tr.iload (pc := 188) (i := 5) d_X12_pays_188 rfl ?_
                  refine Tr.aload_n (pc := 190) (i := 0) d_X12_pays_190 rfl rfl ?_
                  refine Tr.getf (pc := 191) d_X12_pays_191 f_12_63 (by decide) (by decide) (ty_120 hS.1.1) ?_
                  refine Tr.tp 126 (fx_120_17 hS.1.1) ?_
                  refine Tr.aload_n (pc := 194) (i := 0) d_X12_pays_194 rfl rfl ?_
                  refine Tr.getf (pc := 195) d_X12_pays_195 f_12_48 (by decide) (by decide) (ty_120 hS.1.1) ?_
                  refine Tr.tp 0 ((St.kp hS (by decide) (by decide) (by decide)).trans en_120_12) ?_
                  refine Tr.iald (pc := 198) d_X12_pays_198 (ty_126 hS.1.1) (by omega) (by omega) ?_
                  refine Tr.gen (P := fun v => 0 ≤ v ∧ v ≤ 6) (ir_126_0 hS.1.2.1) (fun r198 er198 br198 => ?_)
                  refine Tr.icmp_ge (pc := 199) (tgt := 228) d_X12_pays_199 rfl (fun c199 => ?_) (fun c199 => ?_)
                  · refine Tr.lload_n (pc := 228) (i := 3) d_X12_pays_228 rfl rfl ?_
                    refine Tr.l2i (pc := 229) d_X12_pays_229 ?_
                    refine Tr.gen (P := fun v => (-2147483648) ≤ v ∧ v ≤ 2147483647) (w32_b _) (fun r229 er229 br229 => ?_)
                    exact Tr.iret (pc := 230) d_X12_pays_230 rfl ⟨hS, _, rfl, by omega, by omega⟩
                  · refine Tr.iload_n (pc := 202) (i := 1) d_X12_pays_202 rfl rfl ?_
                    refine Tr.iconst (pc := 203) d_X12_pays_203 (by decide) ?_
                    refine Tr.icmp_eq (pc := 204) (tgt := 228) d_X12_pays_204 rfl (fun c204 => ?_) (fun c204 => ?_)
                    · refine Tr.lload_n (pc := 228) (i := 3) d_X12_pays_228 rfl rfl ?_
                      refine Tr.l2i (pc := 229) d_X12_pays_229 ?_
                      refine Tr.gen (P := fun v => (-2147483648) ≤ v ∧ v ≤ 2147483647) (w32_b _) (fun r229 er229 br229 => ?_)
                      exact Tr.iret (pc := 230) d_X12_pays_230 rfl ⟨hS, _, rfl, by omega, by omega⟩
                    · refine Tr.iload_n (pc := 207) (i := 2) d_X12_pays_207 rfl rfl ?_
                      refine Tr.iconst (pc := 208) d_X12_pays_208 (by decide) ?_
                      refine Tr.icmp_ne (pc := 209) (tgt := 228) d_X12_pays_209 rfl (fun c209 => ?_) (fun c209 => ?_)
                      · refine Tr.lload_n (pc := 228) (i := 3) d_X12_pays_228 rfl rfl ?_
                        refine Tr.l2i (pc := 229) d_X12_pays_229 ?_
                        refine Tr.gen (P := fun v => (-2147483648) ≤ v ∧ v ≤ 2147483647) (w32_b _) (fun r229 er229 br229 => ?_)
                        exact Tr.iret (pc := 230) d_X12_pays_230 rfl ⟨hS, _, rfl, by omega, by omega⟩
                      · refine Tr.lload_n (pc := 212) (i := 3) d_X12_pays_212 rfl rfl ?_
                        refine Tr.aload_n (pc := 213) (i := 0) d_X12_pays_213 rfl rfl ?_
                        refine Tr.iload (pc := 214) (i := 5) d_X12_pays_214 rfl ?_
                        refine Tr.iload_n (pc := 216) (i := 1) d_X12_pays_216 rfl rfl ?_
                        refine Tr.callV (pc := 217) (as := [_, _]) d_X12_pays_217 s_12_659 ok_X12_sharesOf rfl rfl (Nat.le_of_ble_eq_true rfl) (Nat.le_of_ble_eq_true rfl) (by decide) (ty_120 hS.1.1) ?_
                        refine Tr.imp (Tr.deep (by decide) (sp_X12_sharesOf_120 hS.1 ((St.kp hS (by decide) (by decide) (by decide)).trans en_120_12) p188_5 (by omega) a1 (by omega) (Bk0.of hF_Bk0 (fun j => (St.ka hS (by decide) (by decide) (by decide))) (fun j => (St.ka hS (by decide) (by decide) (by decide))) (fun j => (St.ka hS (by decide) (by decide) (by decide))) (fun j => (St.ka hS (by decide) (by decide) (by decide))) (fun j => (St.ka hS (by decide) (by decide) (by decide))) (fun j => (St.ka hS (by decide) (by decide) (by decide))) (fun j => (St.ka hS (by decide) (by decide) (by decide))) (fun j => (St.ka hS (by decide) (by decide) (by decide))) (St.kp hS (by decide) (by decide) (by decide)) (St.kp hS (by decide) (by decide) (by decide)) (St.kp hS (by decide) (by decide) (by decide)) (St.kp hS (by decide) (by decide) (by decide))))) ?_
                        rintro M217 _ ⟨h217, r217, rfl, lr217, ur217⟩
                        have hS := St.tr hS h217 (by decide) (by decide)
                        refine Tr.sc [(1, r217), (1, p188_3)] rfl ?_
                        refine Tr.ladd (pc := 220) d_X12_pays_220 ?_
                        refine Tr.gen (P := fun v => (-9223372036854775808) ≤ v ∧ v ≤ 9223372036854775807) (w64_b _) (fun r220 er220 br220 => ?_)
                        refine Tr.lstore_n (pc := 221) (i := 3) (ls2 := [(3, (1, r220)), (0, (2, 120)), (1, (0, a1)), (2, (0, a2)), (5, (0, p188_5))]) d_X12_pays_221 rfl (by decide) rfl ?_
                        refine Tr.iincV (pc := 222) (n2 := (p188_5 + 1)) (ls2 := [(5, (0, (p188_5 + 1))), (3, (1, r220)), (0, (2, 120)), (1, (0, a1)), (2, (0, a2))]) d_X12_pays_222 rfl (by decide) ((w32_id (by omega)).trans (by omega)) rfl ?_
                        refine Tr.goto (pc := 225) (tgt := 188) d_X12_pays_225 rfl ?_
                        refine Tr.pick [2, 3, 4, 1, 0] (ls2 := [(0, (2, 120)), (1, (0, a1)), (2, (0, a2)), (3, (1, r220)), (5, (0, (p188_5 + 1)))]) rfl ?_
                        exact J188 _ _ _ hS (by omega) (by omega) ((St.kp h217 (by decide) (by decide) (by decide)).trans k188_120_85) ((St.kp h217 (by decide) (by decide) (by decide)).trans k188_120_86) (by omega)
              refine Tr.pick [1, 2, 3, 4, 0] (ls2 := [(0, (2, 120)), (1, (0, a1)), (2, (0, a2)), (3, (1, p36_3)), (5, (0, 0))]) rfl ?_
              exact J188 _ _ _ _ hS (by omega) (by omega) k36_120_85 er39 (Nat.lt_succ_self _)
            · refine Tr.iload_n (pc := 45) (i := 1) d_X12_pays_45 rfl rfl ?_
              refine Tr.iconst (pc := 46) d_X12_pays_46 (by decide) ?_
              have J74 : ∀ (M : Mem) (p74_3 : Int), St Tru ws_X12_pays_120 as_X12_pays_120 M0 M → ((-9223372036854775808) ≤ p74_3 ∧ p74_3 ≤ 9223372036854775807) → rd M 120 85 = r1 → rd M 120 86 = r39 → Tr l K 3 mX12_pays 74 [(0, (2, 120)), (1, (0, a1)), (2, (0, a2)), (3, (1, p74_3)), (5, (0, p36_5))] [] M (q_X12_pays_120 M0) := by
                intro M p74_3 hS bp74_3 k74_120_85 k74_120_86
                refine Tr.iconst (pc := 74) d_X12_pays_74 (by decide) ?_
                refine Tr.istore (pc := 75) (i := 6) (ls2 := [(6, (0, 0)), (0, (2, 120)), (1, (0, a1)), (2, (0, a2)), (3, (1, p74_3)), (5, (0, p36_5))]) d_X12_pays_75 (by decide) rfl ?_
                have J77 : ∀ (n77 : Nat) (M : Mem) (p77_3 p77_6 : Int), St Tru ws_X12_pays_120 as_X12_pays_120 M0 M → ((-9223372036854775808) ≤ p77_3 ∧ p77_3 ≤ 9223372036854775807) → (0 ≤ p77_6 ∧ p77_6 ≤ 6) → rd M 120 85 = r1 → rd M 120 86 = r39 → (6 - p77_6).toNat < n77 → Tr l K 3 mX12_pays 77 [(0, (2, 120)), (1, (0, a1)), (2, (0, a2)), (3, (1, p77_3)), (5, (0, p36_5)), (6, (0, p77_6))] [] M (q_X12_pays_120 M0) := by
                  intro n77
                  induction n77 with
                  | zero => intro M p77_3 p77_6 hS bp77_3 bp77_6 k77_120_85 k77_120_86 hm77; exact absurd hm77 (Nat.not_lt_zero _)
                  | succ n77 J77 =>
                    intro M p77_3 p77_6 hS bp77_3 bp77_6 k77_120_85 k77_120_86 hm77
                    refine Tr.iload (pc := 77) (i := 6) d_X12_pays_77 rfl ?_
                    refine Tr.aload_n (pc := 79) (i := 0) d_X12_pays_79 rfl rfl ?_
                    refine Tr.getf (pc := 80) d_X12_pays_80 f_12_63 (by decide) (by decide) (ty_120 hS.1.1) ?_
                    refine Tr.tp 126 (fx_120_17 hS.1.1) ?_
                    refine Tr.aload_n (pc := 83) (i := 0) d_X12_pays_83 rfl rfl ?_
                    refine Tr.getf (pc := 84) d_X12_pays_84 f_12_48 (by decide) (by decide) (ty_120 hS.1.1) ?_
                    refine Tr.tp 0 ((St.kp hS (by decide) (by decide) (by decide)).trans en_120_12) ?_
                    refine Tr.iald (pc := 87) d_X12_pays_87 (ty_126 hS.1.1) (by omega) (by omega) ?_
                    refine Tr.gen (P := fun v => 0 ≤ v ∧ v ≤ 6) (ir_126_0 hS.1.2.1) (fun r87 er87 br87 => ?_)
                    refine Tr.icmp_ge (pc := 88) (tgt := 179) d_X12_pays_88 rfl (fun c88 => ?_) (fun c88 => ?_)
                    · refine Tr.iincV (pc := 179) (n2 := (p36_5 + 1)) (ls2 := [(5, (0, (p36_5 + 1))), (0, (2, 120)), (1, (0, a1)), (2, (0, a2)), (3, (1, p77_3)), (6, (0, p77_6))]) d_X12_pays_179 rfl (by decide) ((w32_id (by omega)).trans (by omega)) rfl ?_
                      refine Tr.goto (pc := 182) (tgt := 36) d_X12_pays_182 rfl ?_
                      refine Tr.pick [1, 2, 3, 4, 0] (ls2 := [(0, (2, 120)), (1, (0, a1)), (2, (0, a2)), (3, (1, p77_3)), (5, (0, (p36_5 + 1)))]) rfl ?_
                      exact J36 _ _ _ hS (by omega) (by omega) k77_120_85 (by omega)
                    · refine Tr.aload_n (pc := 91) (i := 0) d_X12_pays_91 rfl rfl ?_
                      refine Tr.iload (pc := 92) (i := 6) d_X12_pays_92 rfl ?_
                      refine Tr.iload (pc := 94) (i := 5) d_X12_pays_94 rfl ?_
                      refine Tr.callV (pc := 96) (as := [_, _]) d_X12_pays_96 s_12_641 ok_X12_stateAt rfl rfl (Nat.le_of_ble_eq_true rfl) (Nat.le_of_ble_eq_true rfl) (by decide) (ty_120 hS.1.1) ?_
                      refine Tr.imp (Tr.deep (by decide) (sp_X12_stateAt_120 hS.1 p77_6 (by omega) p36_5 (by omega))) ?_
                      rintro M96 _ ⟨h96, r96, rfl, lr96, ur96, z96_0⟩
                      have hS := St.tr hS h96 (by decide) (by decide)
                      refine Tr.sc [(0, r96)] rfl ?_
                      have qs96 : rd M 163 (p36_5 + 2100 * p77_6) = r96 := (congrArg (rd M 163) (by omega)).trans z96_0.symm
                      refine Tr.istore (pc := 99) (i := 7) (ls2 := [(7, (0, r96)), (0, (2, 120)), (1, (0, a1)), (2, (0, a2)), (3, (1, p77_3)), (5, (0, p36_5)), (6, (0, p77_6))]) d_X12_pays_99 (by decide) rfl ?_
                      refine Tr.iload_n (pc := 101) (i := 1) d_X12_pays_101 rfl rfl ?_
                      refine Tr.iconst (pc := 102) d_X12_pays_102 (by decide) ?_
                      have J173 : ∀ (M : Mem) (p173_3 : Int), St Tru ws_X12_pays_120 as_X12_pays_120 M0 M → ((-9223372036854775808) ≤ p173_3 ∧ p173_3 ≤ 9223372036854775807) → rd M 120 85 = r1 → rd M 120 86 = r39 → rd M 126 0 = r87 → rd M 163 (p36_5 + 2100 * p77_6) = r96 → Tr l K 3 mX12_pays 173 [(0, (2, 120)), (1, (0, a1)), (2, (0, a2)), (3, (1, p173_3)), (5, (0, p36_5)), (6, (0, p77_6))] [] M (q_X12_pays_120 M0) := by
                        intro M p173_3 hS bp173_3 k173_120_85 k173_120_86 k173_126_0 k173_163_p36_51p77_621000
                        refine Tr.iincV (pc := 173) (n2 := (p77_6 + 1)) (ls2 := [(6, (0, (p77_6 + 1))), (0, (2, 120)), (1, (0, a1)), (2, (0, a2)), (3, (1, p173_3)), (5, (0, p36_5))]) d_X12_pays_173 rfl (by decide) ((w32_id (by omega)).trans (by omega)) rfl ?_
                        refine Tr.goto (pc := 176) (tgt := 77) d_X12_pays_176 rfl ?_
                        refine Tr.pick [1, 2, 3, 4, 5, 0] (ls2 := [(0, (2, 120)), (1, (0, a1)), (2, (0, a2)), (3, (1, p173_3)), (5, (0, p36_5)), (6, (0, (p77_6 + 1)))]) rfl ?_
                        exact J77 _ _ _ hS (by omega) (by omega) k173_120_85 k173_120_86 (by omega)
                      refine Tr.icmp_ne (pc := 103) (tgt := 128) d_X12_pays_103 rfl (fun c103 => ?_) (fun c103 => ?_)
                      · refine Tr.iload (pc := 128) (i := 7) d_X12_pays_128 rfl ?_
                        refine Tr.if_eq (pc := 130) (tgt := 173) d_X12_pays_130 rfl (fun c130 => ?_) (fun c130 => ?_)
                        · refine Tr.pick [1, 2, 3, 4, 5, 6] (ls2 := [(0, (2, 120)), (1, (0, a1)), (2, (0, a2)), (3, (1, p77_3)), (5, (0, p36_5)), (6, (0, p77_6))]) rfl ?_
                          exact J173 _ _ hS (by omega) ((St.kp h96 (by decide) (by decide) (by decide)).trans k77_120_85) ((St.kp h96 (by decide) (by decide) (by decide)).trans k77_120_86) ((St.kp h96 (by decide) (by decide) (by decide)).trans er87) ((St.ka h96 (by decide) (by decide) (by decide)).trans qs96)
                        · refine Tr.iload (pc := 133) (i := 7) d_X12_pays_133 rfl ?_
                          refine Tr.iconst (pc := 135) d_X12_pays_135 (by decide) ?_
                          have J143 : ∀ (M : Mem), St Tru ws_X12_pays_120 as_X12_pays_120 M0 M → rd M 120 85 = r1 → rd M 120 86 = r39 → rd M 126 0 = r87 → rd M 163 (p36_5 + 2100 * p77_6) = r96 → Tr l K 3 mX12_pays 143 [(0, (2, 120)), (1, (0, a1)), (2, (0, a2)), (3, (1, p77_3)), (5, (0, p36_5)), (6, (0, p77_6)), (7, (0, r96))] [] M (q_X12_pays_120 M0) := by
                            intro M  hS  k143_120_85 k143_120_86 k143_126_0 k143_163_p36_51p77_621000
                            refine Tr.aload_n (pc := 143) (i := 0) d_X12_pays_143 rfl rfl ?_
                            refine Tr.getf (pc := 144) d_X12_pays_144 f_12_234 (by decide) (by decide) (ty_120 hS.1.1) ?_
                            refine Tr.tp 164 (fx_120_73 hS.1.1) ?_
                            refine Tr.sipush (pc := 147) d_X12_pays_147 rfl (by decide) ?_
                            refine Tr.iload (pc := 150) (i := 6) d_X12_pays_150 rfl ?_
                            refine Tr.imul (pc := 152) d_X12_pays_152 ?_
                            refine Tr.tp (2100 * p77_6) ((w32_id (by omega)).trans (by omega)) ?_
                            refine Tr.iload (pc := 153) (i := 5) d_X12_pays_153 rfl ?_
                            refine Tr.iadd (pc := 155) d_X12_pays_155 ?_
                            refine Tr.tp (p36_5 + 2100 * p77_6) ((w32_id (by omega)).trans (by omega)) ?_
                            refine Tr.iald (pc := 156) d_X12_pays_156 (ty_164 hS.1.1) (by omega) (by omega) ?_
                            refine Tr.gen (P := fun v => (-1) ≤ v ∧ v ≤ 59) (ar_164 hS.1.2.1 _) (fun r156 er156 br156 => ?_)
                            refine Tr.iload_n (pc := 157) (i := 1) d_X12_pays_157 rfl rfl ?_
                            refine Tr.icmp_ne (pc := 158) (tgt := 173) d_X12_pays_158 rfl (fun c158 => ?_) (fun c158 => ?_)
                            · refine Tr.pick [0, 1, 2, 3, 4, 5] (ls2 := [(0, (2, 120)), (1, (0, a1)), (2, (0, a2)), (3, (1, p77_3)), (5, (0, p36_5)), (6, (0, p77_6))]) rfl ?_
                              exact J173 _ _ hS (by omega) k143_120_85 k143_120_86 k143_126_0 k143_163_p36_51p77_621000
                            · refine Tr.lload_n (pc := 161) (i := 3) d_X12_pays_161 rfl rfl ?_
                              refine Tr.aload_n (pc := 162) (i := 0) d_X12_pays_162 rfl rfl ?_
                              refine Tr.iload (pc := 163) (i := 6) d_X12_pays_163 rfl ?_
                              refine Tr.iload (pc := 165) (i := 7) d_X12_pays_165 rfl ?_
                              refine Tr.callV (pc := 167) (as := [_, _]) d_X12_pays_167 s_12_574 ok_X12_sips rfl rfl (Nat.le_of_ble_eq_true rfl) (Nat.le_of_ble_eq_true rfl) (by decide) (ty_120 hS.1.1) ?_
                              refine Tr.imp (Tr.deep (by decide) (sp_X12_sips_120 hS.1 ((St.kp hS (by decide) (by decide) (by decide)).trans en_120_12) p77_6 (by omega) r96 (by omega) (Bk0.of hF_Bk0 (fun j => (St.ka hS (by decide) (by decide) (by decide))) (fun j => (St.ka hS (by decide) (by decide) (by decide))) (fun j => (St.ka hS (by decide) (by decide) (by decide))) (fun j => (St.ka hS (by decide) (by decide) (by decide))) (fun j => (St.ka hS (by decide) (by decide) (by decide))) (fun j => (St.ka hS (by decide) (by decide) (by decide))) (fun j => (St.ka hS (by decide) (by decide) (by decide))) (fun j => (St.ka hS (by decide) (by decide) (by decide))) (St.kp hS (by decide) (by decide) (by decide)) (St.kp hS (by decide) (by decide) (by decide)) (St.kp hS (by decide) (by decide) (by decide)) (St.kp hS (by decide) (by decide) (by decide))))) ?_
                              rintro M167 _ ⟨h167, r167, rfl, lr167, ur167⟩
                              have hS := St.tr hS h167 (by decide) (by decide)
                              refine Tr.sc [(0, r167), (1, p77_3)] rfl ?_
                              refine Tr.i2l (pc := 170) d_X12_pays_170 ?_
                              refine Tr.ladd (pc := 171) d_X12_pays_171 ?_
                              refine Tr.gen (P := fun v => (-9223372036854775808) ≤ v ∧ v ≤ 9223372036854775807) (w64_b _) (fun r171 er171 br171 => ?_)
                              refine Tr.lstore_n (pc := 172) (i := 3) (ls2 := [(3, (1, r171)), (0, (2, 120)), (1, (0, a1)), (2, (0, a2)), (5, (0, p36_5)), (6, (0, p77_6)), (7, (0, r96))]) d_X12_pays_172 rfl (by decide) rfl ?_
                              refine Tr.pick [1, 2, 3, 0, 4, 5] (ls2 := [(0, (2, 120)), (1, (0, a1)), (2, (0, a2)), (3, (1, r171)), (5, (0, p36_5)), (6, (0, p77_6))]) rfl ?_
                              exact J173 _ _ hS (by omega) ((St.kp h167 (by decide) (by decide) (by decide)).trans k143_120_85) ((St.kp h167 (by decide) (by decide) (by decide)).trans k143_120_86) ((St.kp h167 (by decide) (by decide) (by decide)).trans k143_126_0) ((St.ka h167 (by decide) (by decide) (by decide)).trans k143_163_p36_51p77_621000)
                          refine Tr.icmp_ne (pc := 136) (tgt := 143) d_X12_pays_136 rfl (fun c136 => ?_) (fun c136 => ?_)
                          · refine Tr.pick [1, 2, 3, 4, 5, 6, 0] (ls2 := [(0, (2, 120)), (1, (0, a1)), (2, (0, a2)), (3, (1, p77_3)), (5, (0, p36_5)), (6, (0, p77_6)), (7, (0, r96))]) rfl ?_
                            exact J143 _ hS ((St.kp h96 (by decide) (by decide) (by decide)).trans k77_120_85) ((St.kp h96 (by decide) (by decide) (by decide)).trans k77_120_86) ((St.kp h96 (by decide) (by decide) (by decide)).trans er87) ((St.ka h96 (by decide) (by decide) (by decide)).trans qs96)
                          · refine Tr.iload_n (pc := 139) (i := 2) d_X12_pays_139 rfl rfl ?_
                            refine Tr.if_ne (pc := 140) (tgt := 173) d_X12_pays_140 rfl (fun c140 => ?_) (fun c140 => ?_)
                            · refine Tr.pick [1, 2, 3, 4, 5, 6] (ls2 := [(0, (2, 120)), (1, (0, a1)), (2, (0, a2)), (3, (1, p77_3)), (5, (0, p36_5)), (6, (0, p77_6))]) rfl ?_
                              exact J173 _ _ hS (by omega) ((St.kp h96 (by decide) (by decide) (by decide)).trans k77_120_85) ((St.kp h96 (by decide) (by decide) (by decide)).trans k77_120_86) ((St.kp h96 (by decide) (by decide) (by decide)).trans er87) ((St.ka h96 (by decide) (by decide) (by decide)).trans qs96)
                            · refine Tr.pick [1, 2, 3, 4, 5, 6, 0] (ls2 := [(0, (2, 120)), (1, (0, a1)), (2, (0, a2)), (3, (1, p77_3)), (5, (0, p36_5)), (6, (0, p77_6)), (7, (0, r96))]) rfl ?_
                              exact J143 _ hS ((St.kp h96 (by decide) (by decide) (by decide)).trans k77_120_85) ((St.kp h96 (by decide) (by decide) (by decide)).trans k77_120_86) ((St.kp h96 (by decide) (by decide) (by decide)).trans er87) ((St.ka h96 (by decide) (by decide) (by decide)).trans qs96)
                      · refine Tr.lload_n (pc := 106) (i := 3) d_X12_pays_106 rfl rfl ?_
                        refine Tr.iload (pc := 107) (i := 7) d_X12_pays_107 rfl ?_
                        have J123 : ∀ (M : Mem) (q123_1 : Int), St Tru ws_X12_pays_120 as_X12_pays_120 M0 M → ((-2147483648) ≤ q123_1 ∧ q123_1 ≤ 2147483647) → rd M 120 85 = r1 → rd M 120 86 = r39 → rd M 126 0 = r87 → rd M 163 (p36_5 + 2100 * p77_6) = r96 → Tr l K 3 mX12_pays 123 [(0, (2, 120)), (1, (0, a1)), (2, (0, a2)), (5, (0, p36_5)), (6, (0, p77_6))] [(1, q123_1), (1, p77_3)] M (q_X12_pays_120 M0) := by
                          intro M q123_1 hS bq123_1 k123_120_85 k123_120_86 k123_126_0 k123_163_p36_51p77_621000
                          refine Tr.ladd (pc := 123) d_X12_pays_123 ?_
                          refine Tr.gen (P := fun v => (-9223372036854775808) ≤ v ∧ v ≤ 9223372036854775807) (w64_b _) (fun r123 er123 br123 => ?_)
                          refine Tr.lstore_n (pc := 124) (i := 3) (ls2 := [(3, (1, r123)), (0, (2, 120)), (1, (0, a1)), (2, (0, a2)), (5, (0, p36_5)), (6, (0, p77_6))]) d_X12_pays_124 rfl (by decide) rfl ?_
                          refine Tr.goto (pc := 125) (tgt := 173) d_X12_pays_125 rfl ?_
                          refine Tr.pick [1, 2, 3, 0, 4, 5] (ls2 := [(0, (2, 120)), (1, (0, a1)), (2, (0, a2)), (3, (1, r123)), (5, (0, p36_5)), (6, (0, p77_6))]) rfl ?_
                          exact J173 _ _ hS (by omega) k123_120_85 k123_120_86 k123_126_0 k123_163_p36_51p77_621000
                        refine Tr.if_ne (pc := 109) (tgt := 122) d_X12_pays_109 rfl (fun c109 => ?_) (fun c109 => ?_)
                        · refine Tr.lconst (pc := 122) (v := 0) d_X12_pays_122 rfl (by decide) ?_
                          refine Tr.pick [1, 2, 3, 5, 6] (ls2 := [(0, (2, 120)), (1, (0, a1)), (2, (0, a2)), (5, (0, p36_5)), (6, (0, p77_6))]) rfl ?_
                          exact J123 _ _ hS (by omega) ((St.kp h96 (by decide) (by decide) (by decide)).trans k77_120_85) ((St.kp h96 (by decide) (by decide) (by decide)).trans k77_120_86) ((St.kp h96 (by decide) (by decide) (by decide)).trans er87) ((St.ka h96 (by decide) (by decide) (by decide)).trans qs96)
                        · refine Tr.aload_n (pc := 112) (i := 0) d_X12_pays_112 rfl rfl ?_
                          refine Tr.iload (pc := 113) (i := 6) d_X12_pays_113 rfl ?_
                          refine Tr.callV (pc := 115) (as := [_]) d_X12_pays_115 s_12_568 ok_X12_sleeps rfl rfl (Nat.le_of_ble_eq_true rfl) (Nat.le_of_ble_eq_true rfl) (by decide) (ty_120 hS.1.1) ?_
                          refine Tr.imp (Tr.deep (by decide) (sp_X12_sleeps_120 hS.1 ((St.kp hS (by decide) (by decide) (by decide)).trans en_120_12) p77_6 (by omega) (Bk0.of hF_Bk0 (fun j => (St.ka hS (by decide) (by decide) (by decide))) (fun j => (St.ka hS (by decide) (by decide) (by decide))) (fun j => (St.ka hS (by decide) (by decide) (by decide))) (fun j => (St.ka hS (by decide) (by decide) (by decide))) (fun j => (St.ka hS (by decide) (by decide) (by decide))) (fun j => (St.ka hS (by decide) (by decide) (by decide))) (fun j => (St.ka hS (by decide) (by decide) (by decide))) (fun j => (St.ka hS (by decide) (by decide) (by decide))) (St.kp hS (by decide) (by decide) (by decide)) (St.kp hS (by decide) (by decide) (by decide)) (St.kp hS (by decide) (by decide) (by decide)) (St.kp hS (by decide) (by decide) (by decide))))) ?_
                          rintro M115 _ ⟨h115, r115, rfl, lr115, ur115⟩
                          have hS := St.tr hS h115 (by decide) (by decide)
                          refine Tr.sc [(0, r115), (1, p77_3)] rfl ?_
                          refine Tr.i2l (pc := 118) d_X12_pays_118 ?_
                          refine Tr.goto (pc := 119) (tgt := 123) d_X12_pays_119 rfl ?_
                          refine Tr.pick [1, 2, 3, 5, 6] (ls2 := [(0, (2, 120)), (1, (0, a1)), (2, (0, a2)), (5, (0, p36_5)), (6, (0, p77_6))]) rfl ?_
                          exact J123 _ _ hS (by omega) ((St.kp h115 (by decide) (by decide) (by decide)).trans ((St.kp h96 (by decide) (by decide) (by decide)).trans k77_120_85)) ((St.kp h115 (by decide) (by decide) (by decide)).trans ((St.kp h96 (by decide) (by decide) (by decide)).trans k77_120_86)) ((St.kp h115 (by decide) (by decide) (by decide)).trans ((St.kp h96 (by decide) (by decide) (by decide)).trans er87)) ((St.ka h115 (by decide) (by decide) (by decide)).trans ((St.ka h96 (by decide) (by decide) (by decide)).trans qs96))
                refine Tr.pick [1, 2, 3, 4, 5, 0] (ls2 := [(0, (2, 120)), (1, (0, a1)), (2, (0, a2)), (3, (1, p74_3)), (5, (0, p36_5)), (6, (0, 0))]) rfl ?_
                exact J77 _ _ _ _ hS (by omega) (by omega) k74_120_85 k74_120_86 (Nat.lt_succ_self _)
              refine Tr.icmp_eq (pc := 47) (tgt := 74) d_X12_pays_47 rfl (fun c47 => ?_) (fun c47 => ?_)
              · refine Tr.pick [0, 1, 2, 3, 4] (ls2 := [(0, (2, 120)), (1, (0, a1)), (2, (0, a2)), (3, (1, p36_3)), (5, (0, p36_5))]) rfl ?_
                exact J74 _ _ hS (by omega) k36_120_85 er39
              · refine Tr.aload_n (pc := 50) (i := 0) d_X12_pays_50 rfl rfl ?_
                refine Tr.getf (pc := 51) d_X12_pays_51 f_12_228 (by decide) (by decide) (ty_120 hS.1.1) ?_
                refine Tr.tp 162 (fx_120_71 hS.1.1) ?_
                refine Tr.iload (pc := 54) (i := 5) d_X12_pays_54 rfl ?_
                refine Tr.iald (pc := 56) d_X12_pays_56 (ty_162 hS.1.1) (by omega) (by omega) ?_
                refine Tr.gen (P := fun v => (-1) ≤ v ∧ v ≤ 59) (ar_162 hS.1.2.1 _) (fun r56 er56 br56 => ?_)
                refine Tr.iload_n (pc := 57) (i := 1) d_X12_pays_57 rfl rfl ?_
                refine Tr.icmp_ne (pc := 58) (tgt := 74) d_X12_pays_58 rfl (fun c58 => ?_) (fun c58 => ?_)
                · refine Tr.pick [0, 1, 2, 3, 4] (ls2 := [(0, (2, 120)), (1, (0, a1)), (2, (0, a2)), (3, (1, p36_3)), (5, (0, p36_5))]) rfl ?_
                  exact J74 _ _ hS (by omega) k36_120_85 er39
                · refine Tr.lload_n (pc := 61) (i := 3) d_X12_pays_61 rfl rfl ?_
                  refine Tr.aload_n (pc := 62) (i := 0) d_X12_pays_62 rfl rfl ?_
                  refine Tr.getf (pc := 63) d_X12_pays_63 f_12_51 (by decide) (by decide) (ty_120 hS.1.1) ?_
                  refine Tr.tp 122 (fx_120_13 hS.1.1) ?_
                  refine Tr.aload_n (pc := 66) (i := 0) d_X12_pays_66 rfl rfl ?_
                  refine Tr.getf (pc := 67) d_X12_pays_67 f_12_48 (by decide) (by decide) (ty_120 hS.1.1) ?_
                  refine Tr.tp 0 ((St.kp hS (by decide) (by decide) (by decide)).trans en_120_12) ?_
                  refine Tr.iald (pc := 70) d_X12_pays_70 (ty_122 hS.1.1) (by omega) (by omega) ?_
                  refine Tr.gen (P := fun v => (-2147483648) ≤ v ∧ v ≤ 2147483647) (ir_122_0 hS.1.2.1) (fun r70 er70 br70 => ?_)
                  refine Tr.i2l (pc := 71) d_X12_pays_71 ?_
                  refine Tr.ladd (pc := 72) d_X12_pays_72 ?_
                  refine Tr.gen (P := fun v => (-9223372036854775808) ≤ v ∧ v ≤ 9223372036854775807) (w64_b _) (fun r72 er72 br72 => ?_)
                  refine Tr.lstore_n (pc := 73) (i := 3) (ls2 := [(3, (1, r72)), (0, (2, 120)), (1, (0, a1)), (2, (0, a2)), (5, (0, p36_5))]) d_X12_pays_73 rfl (by decide) rfl ?_
                  refine Tr.pick [1, 2, 3, 0, 4] (ls2 := [(0, (2, 120)), (1, (0, a1)), (2, (0, a2)), (3, (1, r72)), (5, (0, p36_5))]) rfl ?_
                  exact J74 _ _ hS (by omega) k36_120_85 er39
        refine Tr.pick [2, 3, 4, 1, 0] (ls2 := [(0, (2, 120)), (1, (0, a1)), (2, (0, a2)), (3, (1, 0)), (5, (0, 0))]) rfl ?_
        exact J36 _ _ _ _ hS (by omega) (by omega) k31_120_85 (Nat.lt_succ_self _)
      refine Tr.icmp_eq (pc := 18) (tgt := 31) d_X12_pays_18 rfl (fun c18 => ?_) (fun c18 => ?_)
      · refine Tr.pick [0, 1, 2] (ls2 := [(0, (2, 120)), (1, (0, a1)), (2, (0, a2))]) rfl ?_
        exact J31 _ hS (by omega) ((St.kp h10 (by decide) (by decide) (by decide)).trans er1)
      · refine Tr.aload_n (pc := 21) (i := 0) d_X12_pays_21 rfl rfl ?_
        refine Tr.iload_n (pc := 22) (i := 1) d_X12_pays_22 rfl rfl ?_
        refine Tr.callV (pc := 23) (as := [_]) d_X12_pays_23 s_12_656 ok_X12_isLine rfl rfl (Nat.le_of_ble_eq_true rfl) (Nat.le_of_ble_eq_true rfl) (by decide) (ty_120 hS.1.1) ?_
        refine Tr.imp (Tr.deep (by decide) (sp_X12_isLine_120 hS.1 ((St.kp hS (by decide) (by decide) (by decide)).trans en_120_12) a1 (by omega))) ?_
        rintro M23 _ ⟨h23, r23, rfl, lr23, ur23, z23_0⟩
        have hS := St.tr hS h23 (by decide) (by decide)
        obtain ⟨w23_129_0, ew23_129_0⟩ : ∃ v, rd M23 129 0 = v := ⟨_, rfl⟩
        have bw23_129_0 : 0 ≤ w23_129_0 ∧ w23_129_0 ≤ 60 := by rw [← ew23_129_0]; exact ir_129_0 hS.1.2.1
        have ka23_129_0 : rd M23 129 0 = w23_129_0 := ew23_129_0
        refine Tr.sc [(0, r23)] rfl ?_
        refine Tr.if_ne (pc := 26) (tgt := 31) d_X12_pays_26 rfl (fun c26 => ?_) (fun c26 => ?_)
        · refine Tr.pick [0, 1, 2] (ls2 := [(0, (2, 120)), (1, (0, a1)), (2, (0, a2))]) rfl ?_
          exact J31 _ hS (by omega) ((St.kp h23 (by decide) (by decide) (by decide)).trans ((St.kp h10 (by decide) (by decide) (by decide)).trans er1))
        · refine Tr.iconst (pc := 29) d_X12_pays_29 (by decide) ?_
          exact Tr.iret (pc := 30) d_X12_pays_30 rfl ⟨hS, _, rfl, by omega, by omega⟩
end
/-! 36.02 -/
section
def ws_X12_stretches_120 : List (Int × Int) := [(120, 97), (120, 98), (120, 99)]
def as_X12_stretches_120 : List Int := []
def q_X12_stretches_120 (M0 M' : Mem) (r : Option PV) : Prop := St Tru ws_X12_stretches_120 as_X12_stretches_120 M0 M' ∧ ∃ v : Int, r = some (0, v) ∧ (-2147483648) ≤ v ∧ v ≤ 2147483647
set_option maxRecDepth 100000 in
set_option maxHeartbeats 4000000 in
theorem sp_X12_stretches_120 {l : Launch} {K : EC} {M0 : Mem} (hI : In Tru M0) (en_120_12 : rd M0 120 12 = 0) (a1 : Int) (ha1 : (-2147483648) ≤ a1 ∧ a1 ≤ 2147483647)  : Tr l K 2 mX12_stretches 0 [(0, (2, 120)), (1, (0, a1))] [] M0 (q_X12_stretches_120 M0) := by
  have hS : St Tru ws_X12_stretches_120 as_X12_stretches_120 M0 M0 := St.rf hI
  refine Tr.aload_n (pc := 0) (i := 0) d_X12_stretches_0 rfl rfl ?_
  refine Tr.getz (pc := 1) d_X12_stretches_1 f_12_270 (by decide) (ty_120 hS.1.1) ?_
  refine Tr.gen (P := fun v => 0 ≤ v ∧ v ≤ 1) (ir_120_85 hS.1.2.1) (fun r1 er1 br1 => ?_)
  refine Tr.if_eq (pc := 4) (tgt := 15) d_X12_stretches_4 rfl (fun c4 => ?_) (fun c4 => ?_)
  · refine Tr.iconst (pc := 15) d_X12_stretches_15 (by decide) ?_
    exact Tr.iret (pc := 16) d_X12_stretches_16 rfl ⟨hS, _, rfl, by omega, by omega⟩
  · refine Tr.aload_n (pc := 7) (i := 0) d_X12_stretches_7 rfl rfl ?_
    refine Tr.iload_n (pc := 8) (i := 1) d_X12_stretches_8 rfl rfl ?_
    refine Tr.callV (pc := 9) (as := [_]) d_X12_stretches_9 s_12_555 ok_X12_isPart rfl rfl (Nat.le_of_ble_eq_true rfl) (Nat.le_of_ble_eq_true rfl) (by decide) (ty_120 hS.1.1) ?_
    refine Tr.imp (Tr.deep (by decide) (sp_X12_isPart_120 hS.1 ((St.kp hS (by decide) (by decide) (by decide)).trans en_120_12) a1 (by omega))) ?_
    rintro M9 _ ⟨h9, r9, rfl, lr9, ur9, z9_0⟩
    have hS := St.tr hS h9 (by decide) (by decide)
    obtain ⟨w9_126_0, ew9_126_0⟩ : ∃ v, rd M9 126 0 = v := ⟨_, rfl⟩
    have bw9_126_0 : 0 ≤ w9_126_0 ∧ w9_126_0 ≤ 6 := by rw [← ew9_126_0]; exact ir_126_0 hS.1.2.1
    have ka9_126_0 : rd M9 126 0 = w9_126_0 := ew9_126_0
    refine Tr.sc [(0, r9)] rfl ?_
    refine Tr.if_ne (pc := 12) (tgt := 17) d_X12_stretches_12 rfl (fun c12 => ?_) (fun c12 => ?_)
    · refine Tr.aload_n (pc := 17) (i := 0) d_X12_stretches_17 rfl rfl ?_
      refine Tr.iload_n (pc := 18) (i := 1) d_X12_stretches_18 rfl rfl ?_
      refine Tr.iconst (pc := 19) d_X12_stretches_19 (by decide) ?_
      refine Tr.callV (pc := 20) (as := [_, _]) d_X12_stretches_20 s_12_644 ok_X12_finds rfl rfl (Nat.le_of_ble_eq_true rfl) (Nat.le_of_ble_eq_true rfl) (by decide) (ty_120 hS.1.1) ?_
      refine Tr.imp (Tr.deep (by decide) (sp_X12_finds_120 hS.1 a1 (by omega) (-1) (by omega))) ?_
      rintro M20 _ ⟨h20, r20, rfl, lr20, ur20, z20_0⟩
      have hS := St.tr hS h20 (by decide) (by decide)
      refine Tr.sc [(0, r20)] rfl ?_
      refine Tr.istore_n (pc := 23) (i := 2) (ls2 := [(2, (0, r20)), (0, (2, 120)), (1, (0, a1))]) d_X12_stretches_23 rfl (by decide) rfl ?_
      refine Tr.iload_n (pc := 24) (i := 2) d_X12_stretches_24 rfl rfl ?_
      refine Tr.if_eq (pc := 25) (tgt := 32) d_X12_stretches_25 rfl (fun c25 => ?_) (fun c25 => ?_)
      · refine Tr.aload_n (pc := 32) (i := 0) d_X12_stretches_32 rfl rfl ?_
        refine Tr.getf (pc := 33) d_X12_stretches_33 f_12_312 (by decide) (by decide) (ty_120 hS.1.1) ?_
        refine Tr.gen (P := fun v => (-2147483648) ≤ v ∧ v ≤ 2147483647) (ir_120_99 hS.1.2.1) (fun r33 er33 br33 => ?_)
        exact Tr.iret (pc := 36) d_X12_stretches_36 rfl ⟨hS, _, rfl, by omega, by omega⟩
      · refine Tr.iconst (pc := 28) d_X12_stretches_28 (by decide) ?_
        refine Tr.goto (pc := 29) (tgt := 36) d_X12_stretches_29 rfl ?_
        exact Tr.iret (pc := 36) d_X12_stretches_36 rfl ⟨hS, _, rfl, by omega, by omega⟩
    · refine Tr.iconst (pc := 15) d_X12_stretches_15 (by decide) ?_
      exact Tr.iret (pc := 16) d_X12_stretches_16 rfl ⟨hS, _, rfl, by omega, by omega⟩

def ws_X12_stretch_120 : List (Int × Int) := [(120, 97), (120, 98), (120, 99)]
def as_X12_stretch_120 : List Int := []
def q_X12_stretch_120 (M0 M' : Mem) (r : Option PV) : Prop := St Tru ws_X12_stretch_120 as_X12_stretch_120 M0 M' ∧ ∃ v : Int, r = some (0, v) ∧ (-2147483648) ≤ v ∧ v ≤ 2147483647
set_option maxRecDepth 100000 in
set_option maxHeartbeats 4000000 in
theorem sp_X12_stretch_120 {l : Launch} {K : EC} {M0 : Mem} (hI : In Tru M0) (en_120_12 : rd M0 120 12 = 0) (a1 : Int) (ha1 : (-2147483648) ≤ a1 ∧ a1 ≤ 2147483647) (a2 : Int) (ha2 : (-2147483648) ≤ a2 ∧ a2 ≤ 2147483647) (a3 : Int) (ha3 : (-2147483648) ≤ a3 ∧ a3 ≤ 2147483647)  : Tr l K 2 mX12_stretch 0 [(0, (2, 120)), (1, (0, a1)), (2, (0, a2)), (3, (0, a3))] [] M0 (q_X12_stretch_120 M0) := by
  have hS : St Tru ws_X12_stretch_120 as_X12_stretch_120 M0 M0 := St.rf hI
  refine Tr.aload_n (pc := 0) (i := 0) d_X12_stretch_0 rfl rfl ?_
  refine Tr.getz (pc := 1) d_X12_stretch_1 f_12_270 (by decide) (ty_120 hS.1.1) ?_
  refine Tr.gen (P := fun v => 0 ≤ v ∧ v ≤ 1) (ir_120_85 hS.1.2.1) (fun r1 er1 br1 => ?_)
  refine Tr.if_eq (pc := 4) (tgt := 37) d_X12_stretch_4 rfl (fun c4 => ?_) (fun c4 => ?_)
  · refine Tr.iconst (pc := 37) d_X12_stretch_37 (by decide) ?_
    exact Tr.iret (pc := 38) d_X12_stretch_38 rfl ⟨hS, _, rfl, by omega, by omega⟩
  · refine Tr.aload_n (pc := 7) (i := 0) d_X12_stretch_7 rfl rfl ?_
    refine Tr.iload_n (pc := 8) (i := 1) d_X12_stretch_8 rfl rfl ?_
    refine Tr.callV (pc := 9) (as := [_]) d_X12_stretch_9 s_12_555 ok_X12_isPart rfl rfl (Nat.le_of_ble_eq_true rfl) (Nat.le_of_ble_eq_true rfl) (by decide) (ty_120 hS.1.1) ?_
    refine Tr.imp (Tr.deep (by decide) (sp_X12_isPart_120 hS.1 ((St.kp hS (by decide) (by decide) (by decide)).trans en_120_12) a1 (by omega))) ?_
    rintro M9 _ ⟨h9, r9, rfl, lr9, ur9, z9_0⟩
    have hS := St.tr hS h9 (by decide) (by decide)
    obtain ⟨w9_126_0, ew9_126_0⟩ : ∃ v, rd M9 126 0 = v := ⟨_, rfl⟩
    have bw9_126_0 : 0 ≤ w9_126_0 ∧ w9_126_0 ≤ 6 := by rw [← ew9_126_0]; exact ir_126_0 hS.1.2.1
    have ka9_126_0 : rd M9 126 0 = w9_126_0 := ew9_126_0
    refine Tr.sc [(0, r9)] rfl ?_
    refine Tr.if_eq (pc := 12) (tgt := 37) d_X12_stretch_12 rfl (fun c12 => ?_) (fun c12 => ?_)
    · refine Tr.iconst (pc := 37) d_X12_stretch_37 (by decide) ?_
      exact Tr.iret (pc := 38) d_X12_stretch_38 rfl ⟨hS, _, rfl, by omega, by omega⟩
    · refine Tr.iload_n (pc := 15) (i := 2) d_X12_stretch_15 rfl rfl ?_
      refine Tr.if_lt (pc := 16) (tgt := 37) d_X12_stretch_16 rfl (fun c16 => ?_) (fun c16 => ?_)
      · refine Tr.iconst (pc := 37) d_X12_stretch_37 (by decide) ?_
        exact Tr.iret (pc := 38) d_X12_stretch_38 rfl ⟨hS, _, rfl, by omega, by omega⟩
      · refine Tr.iload_n (pc := 19) (i := 3) d_X12_stretch_19 rfl rfl ?_
        refine Tr.iconst (pc := 20) d_X12_stretch_20 (by decide) ?_
        refine Tr.iconst (pc := 21) d_X12_stretch_21 (by decide) ?_
        refine Tr.callS (pc := 22) (as := [_, _, _]) d_X12_stretch_22 s_12_467 ok_X12_is rfl rfl (Nat.le_of_ble_eq_true rfl) (Nat.le_of_ble_eq_true rfl) ?_
        refine Tr.imp (Tr.deep (by decide) (sp_X12_is hS.1 a3 (by omega) 0 (by omega) 2 (by omega))) ?_
        rintro M22 _ ⟨h22, r22, rfl, lr22, ur22, wr22⟩
        have hS := St.tr hS h22 (by decide) (by decide)
        refine Tr.sc [(0, r22)] rfl ?_
        refine Tr.if_eq (pc := 25) (tgt := 37) d_X12_stretch_25 rfl (fun c25 => ?_) (fun c25 => ?_)
        · refine Tr.iconst (pc := 37) d_X12_stretch_37 (by decide) ?_
          exact Tr.iret (pc := 38) d_X12_stretch_38 rfl ⟨hS, _, rfl, by omega, by omega⟩
        · refine Tr.aload_n (pc := 28) (i := 0) d_X12_stretch_28 rfl rfl ?_
          refine Tr.iload_n (pc := 29) (i := 1) d_X12_stretch_29 rfl rfl ?_
          refine Tr.iload_n (pc := 30) (i := 2) d_X12_stretch_30 rfl rfl ?_
          refine Tr.callV (pc := 31) (as := [_, _]) d_X12_stretch_31 s_12_644 ok_X12_finds rfl rfl (Nat.le_of_ble_eq_true rfl) (Nat.le_of_ble_eq_true rfl) (by decide) (ty_120 hS.1.1) ?_
          refine Tr.imp (Tr.deep (by decide) (sp_X12_finds_120 hS.1 a1 (by omega) a2 (by omega))) ?_
          rintro M31 _ ⟨h31, r31, rfl, lr31, ur31, z31_0⟩
          have hS := St.tr hS h31 (by decide) (by decide)
          refine Tr.sc [(0, r31)] rfl ?_
          refine Tr.if_ne (pc := 34) (tgt := 39) d_X12_stretch_34 rfl (fun c34 => ?_) (fun c34 => ?_)
          · refine Tr.iload_n (pc := 39) (i := 3) d_X12_stretch_39 rfl rfl ?_
            refine Tr.if_ne (pc := 40) (tgt := 50) d_X12_stretch_40 rfl (fun c40 => ?_) (fun c40 => ?_)
            · refine Tr.iload_n (pc := 50) (i := 3) d_X12_stretch_50 rfl rfl ?_
              refine Tr.iconst (pc := 51) d_X12_stretch_51 (by decide) ?_
              refine Tr.icmp_ne (pc := 52) (tgt := 62) d_X12_stretch_52 rfl (fun c52 => ?_) (fun c52 => ?_)
              · refine Tr.aload_n (pc := 62) (i := 0) d_X12_stretch_62 rfl rfl ?_
                refine Tr.iload_n (pc := 63) (i := 1) d_X12_stretch_63 rfl rfl ?_
                refine Tr.callV (pc := 64) (as := [_]) d_X12_stretch_64 s_12_647 ok_X12_onIn rfl rfl (Nat.le_of_ble_eq_true rfl) (Nat.le_of_ble_eq_true rfl) (by decide) (ty_120 hS.1.1) ?_
                refine Tr.imp (Tr.deep (by decide) (sp_X12_onIn_120 hS.1 a1 (by omega))) ?_
                rintro M64 _ ⟨h64, r64, rfl, lr64, ur64⟩
                have hS := St.tr hS h64 (by decide) (by decide)
                refine Tr.sc [(0, r64)] rfl ?_
                exact Tr.iret (pc := 67) d_X12_stretch_67 rfl ⟨hS, _, rfl, by omega, by omega⟩
              · refine Tr.aload_n (pc := 55) (i := 0) d_X12_stretch_55 rfl rfl ?_
                refine Tr.getf (pc := 56) d_X12_stretch_56 f_12_309 (by decide) (by decide) (ty_120 hS.1.1) ?_
                refine Tr.gen (P := fun v => 0 ≤ v ∧ v ≤ 2100) (ir_120_98 hS.1.2.1) (fun r56 er56 br56 => ?_)
                refine Tr.goto (pc := 59) (tgt := 67) d_X12_stretch_59 rfl ?_
                exact Tr.iret (pc := 67) d_X12_stretch_67 rfl ⟨hS, _, rfl, by omega, by omega⟩
            · refine Tr.aload_n (pc := 43) (i := 0) d_X12_stretch_43 rfl rfl ?_
              refine Tr.getf (pc := 44) d_X12_stretch_44 f_12_306 (by decide) (by decide) (ty_120 hS.1.1) ?_
              refine Tr.gen (P := fun v => 0 ≤ v ∧ v ≤ 2100) (ir_120_97 hS.1.2.1) (fun r44 er44 br44 => ?_)
              refine Tr.goto (pc := 47) (tgt := 67) d_X12_stretch_47 rfl ?_
              exact Tr.iret (pc := 67) d_X12_stretch_67 rfl ⟨hS, _, rfl, by omega, by omega⟩
          · refine Tr.iconst (pc := 37) d_X12_stretch_37 (by decide) ?_
            exact Tr.iret (pc := 38) d_X12_stretch_38 rfl ⟨hS, _, rfl, by omega, by omega⟩

def ws_X12_lines_120 : List (Int × Int) := [(120, 97), (120, 98), (120, 99)]
def as_X12_lines_120 : List Int := []
def q_X12_lines_120 (M0 M' : Mem) (r : Option PV) : Prop := St Tru ws_X12_lines_120 as_X12_lines_120 M0 M' ∧ ∃ v : Int, r = some (1, v) ∧ (-9223372036854775808) ≤ v ∧ v ≤ 9223372036854775807
set_option maxRecDepth 100000 in
set_option maxHeartbeats 4000000 in
theorem sp_X12_lines_120 {l : Launch} {K : EC} {M0 : Mem} (hI : In Tru M0) (en_120_12 : rd M0 120 12 = 0) (a1 : Int) (ha1 : (-2147483648) ≤ a1 ∧ a1 ≤ 2147483647) (a2 : Int) (ha2 : (-2147483648) ≤ a2 ∧ a2 ≤ 2147483647)  : Tr l K 2 mX12_lines 0 [(0, (2, 120)), (1, (0, a1)), (2, (0, a2))] [] M0 (q_X12_lines_120 M0) := by
  have hS : St Tru ws_X12_lines_120 as_X12_lines_120 M0 M0 := St.rf hI
  refine Tr.aload_n (pc := 0) (i := 0) d_X12_lines_0 rfl rfl ?_
  refine Tr.getz (pc := 1) d_X12_lines_1 f_12_270 (by decide) (ty_120 hS.1.1) ?_
  refine Tr.gen (P := fun v => 0 ≤ v ∧ v ≤ 1) (ir_120_85 hS.1.2.1) (fun r1 er1 br1 => ?_)
  refine Tr.if_eq (pc := 4) (tgt := 28) d_X12_lines_4 rfl (fun c4 => ?_) (fun c4 => ?_)
  · refine Tr.lconst (pc := 28) (v := 0) d_X12_lines_28 rfl (by decide) ?_
    refine Tr.goto (pc := 29) (tgt := 37) d_X12_lines_29 rfl ?_
    exact Tr.lret (pc := 37) d_X12_lines_37 rfl ⟨hS, _, rfl, by omega, by omega⟩
  · refine Tr.aload_n (pc := 7) (i := 0) d_X12_lines_7 rfl rfl ?_
    refine Tr.iload_n (pc := 8) (i := 1) d_X12_lines_8 rfl rfl ?_
    refine Tr.callV (pc := 9) (as := [_]) d_X12_lines_9 s_12_555 ok_X12_isPart rfl rfl (Nat.le_of_ble_eq_true rfl) (Nat.le_of_ble_eq_true rfl) (by decide) (ty_120 hS.1.1) ?_
    refine Tr.imp (Tr.deep (by decide) (sp_X12_isPart_120 hS.1 ((St.kp hS (by decide) (by decide) (by decide)).trans en_120_12) a1 (by omega))) ?_
    rintro M9 _ ⟨h9, r9, rfl, lr9, ur9, z9_0⟩
    have hS := St.tr hS h9 (by decide) (by decide)
    obtain ⟨w9_126_0, ew9_126_0⟩ : ∃ v, rd M9 126 0 = v := ⟨_, rfl⟩
    have bw9_126_0 : 0 ≤ w9_126_0 ∧ w9_126_0 ≤ 6 := by rw [← ew9_126_0]; exact ir_126_0 hS.1.2.1
    have ka9_126_0 : rd M9 126 0 = w9_126_0 := ew9_126_0
    refine Tr.sc [(0, r9)] rfl ?_
    refine Tr.if_eq (pc := 12) (tgt := 28) d_X12_lines_12 rfl (fun c12 => ?_) (fun c12 => ?_)
    · refine Tr.lconst (pc := 28) (v := 0) d_X12_lines_28 rfl (by decide) ?_
      refine Tr.goto (pc := 29) (tgt := 37) d_X12_lines_29 rfl ?_
      exact Tr.lret (pc := 37) d_X12_lines_37 rfl ⟨hS, _, rfl, by omega, by omega⟩
    · refine Tr.iload_n (pc := 15) (i := 2) d_X12_lines_15 rfl rfl ?_
      refine Tr.if_lt (pc := 16) (tgt := 28) d_X12_lines_16 rfl (fun c16 => ?_) (fun c16 => ?_)
      · refine Tr.lconst (pc := 28) (v := 0) d_X12_lines_28 rfl (by decide) ?_
        refine Tr.goto (pc := 29) (tgt := 37) d_X12_lines_29 rfl ?_
        exact Tr.lret (pc := 37) d_X12_lines_37 rfl ⟨hS, _, rfl, by omega, by omega⟩
      · refine Tr.aload_n (pc := 19) (i := 0) d_X12_lines_19 rfl rfl ?_
        refine Tr.iload_n (pc := 20) (i := 1) d_X12_lines_20 rfl rfl ?_
        refine Tr.iload_n (pc := 21) (i := 2) d_X12_lines_21 rfl rfl ?_
        refine Tr.callV (pc := 22) (as := [_, _]) d_X12_lines_22 s_12_644 ok_X12_finds rfl rfl (Nat.le_of_ble_eq_true rfl) (Nat.le_of_ble_eq_true rfl) (by decide) (ty_120 hS.1.1) ?_
        refine Tr.imp (Tr.deep (by decide) (sp_X12_finds_120 hS.1 a1 (by omega) a2 (by omega))) ?_
        rintro M22 _ ⟨h22, r22, rfl, lr22, ur22, z22_0⟩
        have hS := St.tr hS h22 (by decide) (by decide)
        refine Tr.sc [(0, r22)] rfl ?_
        refine Tr.if_ne (pc := 25) (tgt := 32) d_X12_lines_25 rfl (fun c25 => ?_) (fun c25 => ?_)
        · refine Tr.aload_n (pc := 32) (i := 0) d_X12_lines_32 rfl rfl ?_
          refine Tr.iload_n (pc := 33) (i := 1) d_X12_lines_33 rfl rfl ?_
          refine Tr.callV (pc := 34) (as := [_]) d_X12_lines_34 s_12_650 ok_X12_linesIn rfl rfl (Nat.le_of_ble_eq_true rfl) (Nat.le_of_ble_eq_true rfl) (by decide) (ty_120 hS.1.1) ?_
          refine Tr.imp (Tr.deep (by decide) (sp_X12_linesIn_120 hS.1 a1 (by omega))) ?_
          rintro M34 _ ⟨h34, r34, rfl, lr34, ur34⟩
          have hS := St.tr hS h34 (by decide) (by decide)
          refine Tr.sc [(1, r34)] rfl ?_
          exact Tr.lret (pc := 37) d_X12_lines_37 rfl ⟨hS, _, rfl, by omega, by omega⟩
        · refine Tr.lconst (pc := 28) (v := 0) d_X12_lines_28 rfl (by decide) ?_
          refine Tr.goto (pc := 29) (tgt := 37) d_X12_lines_29 rfl ?_
          exact Tr.lret (pc := 37) d_X12_lines_37 rfl ⟨hS, _, rfl, by omega, by omega⟩

def ws_X12_tails_120 : List (Int × Int) := []
def as_X12_tails_120 : List Int := []
def q_X12_tails_120 (a1 : Int) (M0 M' : Mem) (r : Option PV) : Prop := St Tru ws_X12_tails_120 as_X12_tails_120 M0 M' ∧ ∃ v : Int, r = some (0, v) ∧ (-2147483648) ≤ v ∧ v ≤ 2147483647 ∧ (rd M' 126 0 ≤ a1 ∨ v ≤ 50)
set_option maxRecDepth 100000 in
set_option maxHeartbeats 4000000 in
theorem sp_X12_tails_120 {l : Launch} {K : EC} {M0 : Mem} (hI : In Tru M0) (en_120_12 : rd M0 120 12 = 0) (a1 : Int) (ha1 : 0 ≤ a1 ∧ a1 ≤ 5)  (hF_Bk0 : Bk0 M0) : Tr l K 1 mX12_tails 0 [(0, (2, 120)), (1, (0, a1))] [] M0 (q_X12_tails_120 a1 M0) := by
  have hS : St Tru ws_X12_tails_120 as_X12_tails_120 M0 M0 := St.rf hI
  obtain ⟨g126_0, eg126_0⟩ : ∃ v, rd M0 126 0 = v := ⟨_, rfl⟩
  have bg126_0 : 0 ≤ g126_0 ∧ g126_0 ≤ 6 := by rw [← eg126_0]; exact ir_126_0 hI.2.1
  refine Tr.aload_n (pc := 0) (i := 0) d_X12_tails_0 rfl rfl ?_
  refine Tr.iload_n (pc := 1) (i := 1) d_X12_tails_1 rfl rfl ?_
  refine Tr.iconst (pc := 2) d_X12_tails_2 (by decide) ?_
  refine Tr.callV (pc := 3) (as := [_, _]) d_X12_tails_3 s_12_565 ok_X12_rate rfl rfl (Nat.le_of_ble_eq_true rfl) (Nat.le_of_ble_eq_true rfl) (by decide) (ty_120 hS.1.1) ?_
  refine Tr.imp (Tr.deep (by decide) (sp_X12_rate_120 hS.1 ((St.kp hS (by decide) (by decide) (by decide)).trans en_120_12) a1 (by omega) 5 (by omega) (Bk0.of hF_Bk0 (fun j => (St.ka hS (by decide) (by decide) (by decide))) (fun j => (St.ka hS (by decide) (by decide) (by decide))) (fun j => (St.ka hS (by decide) (by decide) (by decide))) (fun j => (St.ka hS (by decide) (by decide) (by decide))) (fun j => (St.ka hS (by decide) (by decide) (by decide))) (fun j => (St.ka hS (by decide) (by decide) (by decide))) (fun j => (St.ka hS (by decide) (by decide) (by decide))) (fun j => (St.ka hS (by decide) (by decide) (by decide))) (St.kp hS (by decide) (by decide) (by decide)) (St.kp hS (by decide) (by decide) (by decide)) (St.kp hS (by decide) (by decide) (by decide)) (St.kp hS (by decide) (by decide) (by decide))))) ?_
  rintro M3 _ ⟨h3, r3, rfl, lr3, ur3, z3_0⟩
  have hS := St.tr hS h3 (by decide) (by decide)
  have ka3_126_0 : rd M3 126 0 = g126_0 := ((St.kp h3 (by decide) (by decide) (by decide)).trans eg126_0)
  refine Tr.sc [(0, r3)] rfl ?_
  have kr_126_0 : rd M3 126 0 = g126_0 := ((St.kp h3 (by decide) (by decide) (by decide)).trans eg126_0)
  exact Tr.iret (pc := 6) d_X12_tails_6 rfl ⟨hS, _, rfl, by omega, by omega, by omega⟩

def ws_X12_wasted_120 : List (Int × Int) := [(120, 97), (120, 98), (120, 99)]
def as_X12_wasted_120 : List Int := []
def q_X12_wasted_120 (M0 M' : Mem) (r : Option PV) : Prop := St Tru ws_X12_wasted_120 as_X12_wasted_120 M0 M' ∧ ∃ v : Int, r = some (0, v) ∧ (-2147483648) ≤ v ∧ v ≤ 2147483647
set_option maxRecDepth 100000 in
set_option maxHeartbeats 4000000 in
theorem sp_X12_wasted_120 {l : Launch} {K : EC} {M0 : Mem} (hI : In Tru M0) (en_120_12 : rd M0 120 12 = 0) (a1 : Int) (ha1 : (-2147483648) ≤ a1 ∧ a1 ≤ 2147483647)  (hF_Bk0 : Bk0 M0) : Tr l K 2 mX12_wasted 0 [(0, (2, 120)), (1, (0, a1))] [] M0 (q_X12_wasted_120 M0) := by
  have hS : St Tru ws_X12_wasted_120 as_X12_wasted_120 M0 M0 := St.rf hI
  refine Tr.aload_n (pc := 0) (i := 0) d_X12_wasted_0 rfl rfl ?_
  refine Tr.getz (pc := 1) d_X12_wasted_1 f_12_270 (by decide) (ty_120 hS.1.1) ?_
  refine Tr.gen (P := fun v => 0 ≤ v ∧ v ≤ 1) (ir_120_85 hS.1.2.1) (fun r1 er1 br1 => ?_)
  refine Tr.if_eq (pc := 4) (tgt := 15) d_X12_wasted_4 rfl (fun c4 => ?_) (fun c4 => ?_)
  · refine Tr.iconst (pc := 15) d_X12_wasted_15 (by decide) ?_
    exact Tr.iret (pc := 16) d_X12_wasted_16 rfl ⟨hS, _, rfl, by omega, by omega⟩
  · refine Tr.aload_n (pc := 7) (i := 0) d_X12_wasted_7 rfl rfl ?_
    refine Tr.iload_n (pc := 8) (i := 1) d_X12_wasted_8 rfl rfl ?_
    refine Tr.callV (pc := 9) (as := [_]) d_X12_wasted_9 s_12_656 ok_X12_isLine rfl rfl (Nat.le_of_ble_eq_true rfl) (Nat.le_of_ble_eq_true rfl) (by decide) (ty_120 hS.1.1) ?_
    refine Tr.imp (Tr.deep (by decide) (sp_X12_isLine_120 hS.1 ((St.kp hS (by decide) (by decide) (by decide)).trans en_120_12) a1 (by omega))) ?_
    rintro M9 _ ⟨h9, r9, rfl, lr9, ur9, z9_0⟩
    have hS := St.tr hS h9 (by decide) (by decide)
    obtain ⟨w9_129_0, ew9_129_0⟩ : ∃ v, rd M9 129 0 = v := ⟨_, rfl⟩
    have bw9_129_0 : 0 ≤ w9_129_0 ∧ w9_129_0 ≤ 60 := by rw [← ew9_129_0]; exact ir_129_0 hS.1.2.1
    have ka9_129_0 : rd M9 129 0 = w9_129_0 := ew9_129_0
    refine Tr.sc [(0, r9)] rfl ?_
    refine Tr.if_ne (pc := 12) (tgt := 17) d_X12_wasted_12 rfl (fun c12 => ?_) (fun c12 => ?_)
    · refine Tr.iconst (pc := 17) d_X12_wasted_17 (by decide) ?_
      refine Tr.istore_n (pc := 18) (i := 2) (ls2 := [(2, (0, 0)), (0, (2, 120)), (1, (0, a1))]) d_X12_wasted_18 rfl (by decide) rfl ?_
      refine Tr.iconst (pc := 19) d_X12_wasted_19 (by decide) ?_
      refine Tr.istore_n (pc := 20) (i := 3) (ls2 := [(3, (0, 0)), (2, (0, 0)), (0, (2, 120)), (1, (0, a1))]) d_X12_wasted_20 rfl (by decide) rfl ?_
      have J21 : ∀ (n21 : Nat) (M : Mem) (p21_2 p21_3 : Int), St Tru ws_X12_wasted_120 as_X12_wasted_120 M0 M → ((-2147483648) ≤ p21_2 ∧ p21_2 ≤ 2147483647) → (0 ≤ p21_3 ∧ p21_3 ≤ 6) → rd M 120 85 = r1 → rd M 129 0 = w9_129_0 → (6 - p21_3).toNat < n21 → Tr l K 2 mX12_wasted 21 [(0, (2, 120)), (1, (0, a1)), (2, (0, p21_2)), (3, (0, p21_3))] [] M (q_X12_wasted_120 M0) := by
        intro n21
        induction n21 with
        | zero => intro M p21_2 p21_3 hS bp21_2 bp21_3 k21_120_85 k21_129_0 hm21; exact absurd hm21 (Nat.not_lt_zero _)
        | succ n21 J21 =>
          intro M p21_2 p21_3 hS bp21_2 bp21_3 k21_120_85 k21_129_0 hm21
          refine Tr.iload_n (pc := 21) (i := 3) d_X12_wasted_21 rfl rfl ?_
          refine Tr.aload_n (pc := 22) (i := 0) d_X12_wasted_22 rfl rfl ?_
          refine Tr.getf (pc := 23) d_X12_wasted_23 f_12_63 (by decide) (by decide) (ty_120 hS.1.1) ?_
          refine Tr.tp 126 (fx_120_17 hS.1.1) ?_
          refine Tr.aload_n (pc := 26) (i := 0) d_X12_wasted_26 rfl rfl ?_
          refine Tr.getf (pc := 27) d_X12_wasted_27 f_12_48 (by decide) (by decide) (ty_120 hS.1.1) ?_
          refine Tr.tp 0 ((St.kp hS (by decide) (by decide) (by decide)).trans en_120_12) ?_
          refine Tr.iald (pc := 30) d_X12_wasted_30 (ty_126 hS.1.1) (by omega) (by omega) ?_
          refine Tr.gen (P := fun v => 0 ≤ v ∧ v ≤ 6) (ir_126_0 hS.1.2.1) (fun r30 er30 br30 => ?_)
          refine Tr.icmp_ge (pc := 31) (tgt := 236) d_X12_wasted_31 rfl (fun c31 => ?_) (fun c31 => ?_)
          · refine Tr.iload_n (pc := 236) (i := 2) d_X12_wasted_236 rfl rfl ?_
            exact Tr.iret (pc := 237) d_X12_wasted_237 rfl ⟨hS, _, rfl, by omega, by omega⟩
          · refine Tr.iconst (pc := 34) d_X12_wasted_34 (by decide) ?_
            refine Tr.istore (pc := 35) (i := 4) (ls2 := [(4, (0, 1)), (0, (2, 120)), (1, (0, a1)), (2, (0, p21_2)), (3, (0, p21_3))]) d_X12_wasted_35 (by decide) rfl ?_
            refine Tr.iconst (pc := 37) d_X12_wasted_37 (by decide) ?_
            refine Tr.istore (pc := 38) (i := 5) (ls2 := [(5, (0, 0)), (4, (0, 1)), (0, (2, 120)), (1, (0, a1)), (2, (0, p21_2)), (3, (0, p21_3))]) d_X12_wasted_38 (by decide) rfl ?_
            have J40 : ∀ (n40 : Nat) (M : Mem) (p40_2 p40_4 p40_5 : Int), St Tru ws_X12_wasted_120 as_X12_wasted_120 M0 M → ((-2147483648) ≤ p40_2 ∧ p40_2 ≤ 2147483647) → (0 ≤ p40_4 ∧ p40_4 ≤ 1) → (0 ≤ p40_5 ∧ p40_5 ≤ 2147483647) → rd M 120 85 = r1 → rd M 126 0 = r30 → rd M 129 0 = w9_129_0 → (p40_5 ≤ 2102 ∧ (p40_4 = 0 ∨ p40_5 ≤ 2101)) → (2300 - p40_5).toNat < n40 → Tr l K 2 mX12_wasted 40 [(0, (2, 120)), (1, (0, a1)), (2, (0, p40_2)), (3, (0, p21_3)), (4, (0, p40_4)), (5, (0, p40_5))] [] M (q_X12_wasted_120 M0) := by
              intro n40
              induction n40 with
              | zero => intro M p40_2 p40_4 p40_5 hS bp40_2 bp40_4 bp40_5 k40_120_85 k40_126_0 k40_129_0 t40_0 hm40; exact absurd hm40 (Nat.not_lt_zero _)
              | succ n40 J40 =>
                intro M p40_2 p40_4 p40_5 hS bp40_2 bp40_4 bp40_5 k40_120_85 k40_126_0 k40_129_0 t40_0 hm40
                refine Tr.iload (pc := 40) (i := 4) d_X12_wasted_40 rfl ?_
                refine Tr.if_eq (pc := 42) (tgt := 230) d_X12_wasted_42 rfl (fun c42 => ?_) (fun c42 => ?_)
                · refine Tr.iincV (pc := 230) (n2 := (p21_3 + 1)) (ls2 := [(3, (0, (p21_3 + 1))), (0, (2, 120)), (1, (0, a1)), (2, (0, p40_2)), (4, (0, p40_4)), (5, (0, p40_5))]) d_X12_wasted_230 rfl (by decide) ((w32_id (by omega)).trans (by omega)) rfl ?_
                  refine Tr.goto (pc := 233) (tgt := 21) d_X12_wasted_233 rfl ?_
                  refine Tr.pick [1, 2, 3, 0] (ls2 := [(0, (2, 120)), (1, (0, a1)), (2, (0, p40_2)), (3, (0, (p21_3 + 1)))]) rfl ?_
                  exact J21 _ _ _ hS (by omega) (by omega) k40_120_85 k40_129_0 (by omega)
                · refine Tr.aload_n (pc := 45) (i := 0) d_X12_wasted_45 rfl rfl ?_
                  refine Tr.iload_n (pc := 46) (i := 3) d_X12_wasted_46 rfl rfl ?_
                  refine Tr.iload (pc := 47) (i := 5) d_X12_wasted_47 rfl ?_
                  refine Tr.callV (pc := 49) (as := [_, _]) d_X12_wasted_49 s_12_644 ok_X12_finds rfl rfl (Nat.le_of_ble_eq_true rfl) (Nat.le_of_ble_eq_true rfl) (by decide) (ty_120 hS.1.1) ?_
                  refine Tr.imp (Tr.deep (by decide) (sp_X12_finds_120 hS.1 p21_3 (by omega) p40_5 (by omega))) ?_
                  rintro M49 _ ⟨h49, r49, rfl, lr49, ur49, z49_0⟩
                  have hS := St.tr hS h49 (by decide) (by decide)
                  refine Tr.sc [(0, r49)] rfl ?_
                  refine Tr.istore (pc := 52) (i := 4) (ls2 := [(4, (0, r49)), (0, (2, 120)), (1, (0, a1)), (2, (0, p40_2)), (3, (0, p21_3)), (5, (0, p40_5))]) d_X12_wasted_52 (by decide) rfl ?_
                  refine Tr.iload (pc := 54) (i := 4) d_X12_wasted_54 rfl ?_
                  have J224 : ∀ (M : Mem) (p224_2 : Int), St Tru ws_X12_wasted_120 as_X12_wasted_120 M0 M → ((-2147483648) ≤ p224_2 ∧ p224_2 ≤ 2147483647) → rd M 120 85 = r1 → rd M 126 0 = r30 → rd M 129 0 = w9_129_0 → (p40_5 ≤ 2101 ∧ (r49 = 0 ∨ p40_5 ≤ 2100)) → Tr l K 2 mX12_wasted 224 [(0, (2, 120)), (1, (0, a1)), (2, (0, p224_2)), (3, (0, p21_3)), (4, (0, r49)), (5, (0, p40_5))] [] M (q_X12_wasted_120 M0) := by
                    intro M p224_2 hS bp224_2 k224_120_85 k224_126_0 k224_129_0 t224_0
                    refine Tr.iincV (pc := 224) (n2 := (p40_5 + 1)) (ls2 := [(5, (0, (p40_5 + 1))), (0, (2, 120)), (1, (0, a1)), (2, (0, p224_2)), (3, (0, p21_3)), (4, (0, r49))]) d_X12_wasted_224 rfl (by decide) ((w32_id (by omega)).trans (by omega)) rfl ?_
                    refine Tr.goto (pc := 227) (tgt := 40) d_X12_wasted_227 rfl ?_
                    refine Tr.pick [1, 2, 3, 4, 5, 0] (ls2 := [(0, (2, 120)), (1, (0, a1)), (2, (0, p224_2)), (3, (0, p21_3)), (4, (0, r49)), (5, (0, (p40_5 + 1)))]) rfl ?_
                    exact J40 _ _ _ _ hS (by omega) (by omega) (by omega) k224_120_85 k224_126_0 k224_129_0 (by first | assumption | omega) (by omega)
                  refine Tr.if_eq (pc := 56) (tgt := 224) d_X12_wasted_56 rfl (fun c56 => ?_) (fun c56 => ?_)
                  · refine Tr.pick [1, 2, 3, 4, 0, 5] (ls2 := [(0, (2, 120)), (1, (0, a1)), (2, (0, p40_2)), (3, (0, p21_3)), (4, (0, r49)), (5, (0, p40_5))]) rfl ?_
                    exact J224 _ _ hS (by omega) ((St.kp h49 (by decide) (by decide) (by decide)).trans k40_120_85) ((St.kp h49 (by decide) (by decide) (by decide)).trans k40_126_0) ((St.kp h49 (by decide) (by decide) (by decide)).trans k40_129_0) (by first | assumption | omega)
                  · refine Tr.aload_n (pc := 59) (i := 0) d_X12_wasted_59 rfl rfl ?_
                    refine Tr.getf (pc := 60) d_X12_wasted_60 f_12_309 (by decide) (by decide) (ty_120 hS.1.1) ?_
                    refine Tr.gen (P := fun v => 0 ≤ v ∧ v ≤ 2100) (ir_120_98 hS.1.2.1) (fun r60 er60 br60 => ?_)
                    refine Tr.aload_n (pc := 63) (i := 0) d_X12_wasted_63 rfl rfl ?_
                    refine Tr.getf (pc := 64) d_X12_wasted_64 f_12_273 (by decide) (by decide) (ty_120 hS.1.1) ?_
                    refine Tr.gen (P := fun v => 0 ≤ v ∧ v ≤ 2060) (ir_120_86 hS.1.2.1) (fun r64 er64 br64 => ?_)
                    have J82 : ∀ (M : Mem), St Tru ws_X12_wasted_120 as_X12_wasted_120 M0 M → rd M 120 85 = r1 → rd M 120 86 = r64 → rd M 120 98 = r60 → rd M 126 0 = r30 → rd M 129 0 = w9_129_0 → Tr l K 2 mX12_wasted 82 [(0, (2, 120)), (1, (0, a1)), (2, (0, p40_2)), (3, (0, p21_3)), (4, (0, r49)), (5, (0, p40_5))] [] M (q_X12_wasted_120 M0) := by
                      intro M  hS  k82_120_85 k82_120_86 k82_120_98 k82_126_0 k82_129_0
                      refine Tr.iconst (pc := 82) d_X12_wasted_82 (by decide) ?_
                      refine Tr.istore (pc := 83) (i := 6) (ls2 := [(6, (0, (-1))), (0, (2, 120)), (1, (0, a1)), (2, (0, p40_2)), (3, (0, p21_3)), (4, (0, r49)), (5, (0, p40_5))]) d_X12_wasted_83 (by decide) rfl ?_
                      refine Tr.iconst (pc := 85) d_X12_wasted_85 (by decide) ?_
                      refine Tr.istore (pc := 86) (i := 7) (ls2 := [(7, (0, 0)), (6, (0, (-1))), (0, (2, 120)), (1, (0, a1)), (2, (0, p40_2)), (3, (0, p21_3)), (4, (0, r49)), (5, (0, p40_5))]) d_X12_wasted_86 (by decide) rfl ?_
                      have J88 : ∀ (n88 : Nat) (M : Mem) (p88_6 p88_7 : Int), St Tru ws_X12_wasted_120 as_X12_wasted_120 M0 M → ((-1) ≤ p88_6 ∧ p88_6 ≤ 59) → (0 ≤ p88_7 ∧ p88_7 ≤ 2100) → rd M 120 85 = r1 → rd M 120 86 = r64 → rd M 120 98 = r60 → rd M 126 0 = r30 → rd M 129 0 = w9_129_0 → (2100 - p88_7).toNat < n88 → Tr l K 2 mX12_wasted 88 [(0, (2, 120)), (1, (0, a1)), (2, (0, p40_2)), (3, (0, p21_3)), (4, (0, r49)), (5, (0, p40_5)), (6, (0, p88_6)), (7, (0, p88_7))] [] M (q_X12_wasted_120 M0) := by
                        intro n88
                        induction n88 with
                        | zero => intro M p88_6 p88_7 hS bp88_6 bp88_7 k88_120_85 k88_120_86 k88_120_98 k88_126_0 k88_129_0 hm88; exact absurd hm88 (Nat.not_lt_zero _)
                        | succ n88 J88 =>
                          intro M p88_6 p88_7 hS bp88_6 bp88_7 k88_120_85 k88_120_86 k88_120_98 k88_126_0 k88_129_0 hm88
                          refine Tr.iload (pc := 88) (i := 7) d_X12_wasted_88 rfl ?_
                          refine Tr.aload_n (pc := 90) (i := 0) d_X12_wasted_90 rfl rfl ?_
                          refine Tr.getf (pc := 91) d_X12_wasted_91 f_12_300 (by decide) (by decide) (ty_120 hS.1.1) ?_
                          refine Tr.gen (P := fun v => 0 ≤ v ∧ v ≤ 2100) (ir_120_95 hS.1.2.1) (fun r91 er91 br91 => ?_)
                          refine Tr.icmp_ge (pc := 94) (tgt := 153) d_X12_wasted_94 rfl (fun c94 => ?_) (fun c94 => ?_)
                          · refine Tr.iload (pc := 153) (i := 6) d_X12_wasted_153 rfl ?_
                            refine Tr.iload_n (pc := 155) (i := 1) d_X12_wasted_155 rfl rfl ?_
                            refine Tr.icmp_eq (pc := 156) (tgt := 162) d_X12_wasted_156 rfl (fun c156 => ?_) (fun c156 => ?_)
                            · refine Tr.aload_n (pc := 162) (i := 0) d_X12_wasted_162 rfl rfl ?_
                              refine Tr.getf (pc := 163) d_X12_wasted_163 f_12_309 (by decide) (by decide) (ty_120 hS.1.1) ?_
                              refine Tr.tp r60 k88_120_98 ?_
                              refine Tr.iconst (pc := 166) d_X12_wasted_166 (by decide) ?_
                              refine Tr.isub (pc := 167) d_X12_wasted_167 ?_
                              refine Tr.tp (r60 - 1) ((w32_id (by omega)).trans (by omega)) ?_
                              refine Tr.istore (pc := 168) (i := 7) (ls2 := [(7, (0, (r60 - 1))), (0, (2, 120)), (1, (0, a1)), (2, (0, p40_2)), (3, (0, p21_3)), (4, (0, r49)), (5, (0, p40_5)), (6, (0, p88_6))]) d_X12_wasted_168 (by decide) rfl ?_
                              have J170 : ∀ (n170 : Nat) (M : Mem) (p170_2 p170_7 : Int), St Tru ws_X12_wasted_120 as_X12_wasted_120 M0 M → ((-2147483648) ≤ p170_2 ∧ p170_2 ≤ 2147483647) → ((-1) ≤ p170_7 ∧ p170_7 ≤ 2099) → rd M 120 85 = r1 → rd M 120 86 = r64 → rd M 120 95 = r91 → rd M 120 98 = r60 → rd M 126 0 = r30 → rd M 129 0 = w9_129_0 → (p170_7 - (-1)).toNat < n170 → Tr l K 2 mX12_wasted 170 [(0, (2, 120)), (1, (0, a1)), (2, (0, p170_2)), (3, (0, p21_3)), (4, (0, r49)), (5, (0, p40_5)), (7, (0, p170_7))] [] M (q_X12_wasted_120 M0) := by
                                intro n170
                                induction n170 with
                                | zero => intro M p170_2 p170_7 hS bp170_2 bp170_7 k170_120_85 k170_120_86 k170_120_95 k170_120_98 k170_126_0 k170_129_0 hm170; exact absurd hm170 (Nat.not_lt_zero _)
                                | succ n170 J170 =>
                                  intro M p170_2 p170_7 hS bp170_2 bp170_7 k170_120_85 k170_120_86 k170_120_95 k170_120_98 k170_126_0 k170_129_0 hm170
                                  refine Tr.iload (pc := 170) (i := 7) d_X12_wasted_170 rfl ?_
                                  refine Tr.aload_n (pc := 172) (i := 0) d_X12_wasted_172 rfl rfl ?_
                                  refine Tr.getf (pc := 173) d_X12_wasted_173 f_12_306 (by decide) (by decide) (ty_120 hS.1.1) ?_
                                  refine Tr.gen (P := fun v => 0 ≤ v ∧ v ≤ 2100) (ir_120_97 hS.1.2.1) (fun r173 er173 br173 => ?_)
                                  refine Tr.icmp_lt (pc := 176) (tgt := 224) d_X12_wasted_176 rfl (fun c176 => ?_) (fun c176 => ?_)
                                  · refine Tr.pick [0, 1, 2, 3, 4, 5] (ls2 := [(0, (2, 120)), (1, (0, a1)), (2, (0, p170_2)), (3, (0, p21_3)), (4, (0, r49)), (5, (0, p40_5))]) rfl ?_
                                    exact J224 _ _ hS (by omega) k170_120_85 k170_126_0 k170_129_0 (by first | assumption | omega)
                                  · refine Tr.iload (pc := 179) (i := 7) d_X12_wasted_179 rfl ?_
                                    refine Tr.aload_n (pc := 181) (i := 0) d_X12_wasted_181 rfl rfl ?_
                                    refine Tr.getf (pc := 182) d_X12_wasted_182 f_12_309 (by decide) (by decide) (ty_120 hS.1.1) ?_
                                    refine Tr.tp r60 k170_120_98 ?_
                                    refine Tr.aload_n (pc := 185) (i := 0) d_X12_wasted_185 rfl rfl ?_
                                    refine Tr.iload_n (pc := 186) (i := 3) d_X12_wasted_186 rfl rfl ?_
                                    refine Tr.callV (pc := 187) (as := [_]) d_X12_wasted_187 s_12_591 ok_X12_tails rfl rfl (Nat.le_of_ble_eq_true rfl) (Nat.le_of_ble_eq_true rfl) (by decide) (ty_120 hS.1.1) ?_
                                    refine Tr.imp (Tr.deep (by decide) (sp_X12_tails_120 hS.1 ((St.kp hS (by decide) (by decide) (by decide)).trans en_120_12) p21_3 (by omega) (Bk0.of hF_Bk0 (fun j => (St.ka hS (by decide) (by decide) (by decide))) (fun j => (St.ka hS (by decide) (by decide) (by decide))) (fun j => (St.ka hS (by decide) (by decide) (by decide))) (fun j => (St.ka hS (by decide) (by decide) (by decide))) (fun j => (St.ka hS (by decide) (by decide) (by decide))) (fun j => (St.ka hS (by decide) (by decide) (by decide))) (fun j => (St.ka hS (by decide) (by decide) (by decide))) (fun j => (St.ka hS (by decide) (by decide) (by decide))) (St.kp hS (by decide) (by decide) (by decide)) (St.kp hS (by decide) (by decide) (by decide)) (St.kp hS (by decide) (by decide) (by decide)) (St.kp hS (by decide) (by decide) (by decide))))) ?_
                                    rintro M187 _ ⟨h187, r187, rfl, lr187, ur187, z187_0⟩
                                    have hS := St.tr hS h187 (by decide) (by decide)
                                    have ka187_126_0 : rd M187 126 0 = r30 := ((St.kp h187 (by decide) (by decide) (by decide)).trans k170_126_0)
                                    refine Tr.sc [(0, r187), (0, r60), (0, p170_7)] rfl ?_
                                    refine Tr.isub (pc := 190) d_X12_wasted_190 ?_
                                    refine Tr.gen (P := fun v => (-2147483648) ≤ v ∧ v ≤ 2147483647) (w32_b _) (fun r190 er190 br190 => ?_)
                                    refine Tr.icmp_lt (pc := 191) (tgt := 224) d_X12_wasted_191 rfl (fun c191 => ?_) (fun c191 => ?_)
                                    · refine Tr.pick [0, 1, 2, 3, 4, 5] (ls2 := [(0, (2, 120)), (1, (0, a1)), (2, (0, p170_2)), (3, (0, p21_3)), (4, (0, r49)), (5, (0, p40_5))]) rfl ?_
                                      exact J224 _ _ hS (by omega) ((St.kp h187 (by decide) (by decide) (by decide)).trans k170_120_85) ((St.kp h187 (by decide) (by decide) (by decide)).trans k170_126_0) ((St.kp h187 (by decide) (by decide) (by decide)).trans k170_129_0) (by first | assumption | omega)
                                    · refine Tr.iload_n (pc := 194) (i := 2) d_X12_wasted_194 rfl rfl ?_
                                      refine Tr.aload_n (pc := 195) (i := 0) d_X12_wasted_195 rfl rfl ?_
                                      refine Tr.iload_n (pc := 196) (i := 3) d_X12_wasted_196 rfl rfl ?_
                                      refine Tr.iload (pc := 197) (i := 7) d_X12_wasted_197 rfl ?_
                                      refine Tr.callV (pc := 199) (as := [_, _]) d_X12_wasted_199 s_12_641 ok_X12_stateAt rfl rfl (Nat.le_of_ble_eq_true rfl) (Nat.le_of_ble_eq_true rfl) (by decide) (ty_120 hS.1.1) ?_
                                      refine Tr.imp (Tr.deep (by decide) (sp_X12_stateAt_120 hS.1 p21_3 (by omega) p170_7 (by omega))) ?_
                                      rintro M199 _ ⟨h199, r199, rfl, lr199, ur199, z199_0⟩
                                      have hS := St.tr hS h199 (by decide) (by decide)
                                      refine Tr.sc [(0, r199), (0, p170_2)] rfl ?_
                                      have qs199 : rd M187 163 (p170_7 + 2100 * p21_3) = r199 := (congrArg (rd M187 163) (by omega)).trans z199_0.symm
                                      refine Tr.iconst (pc := 202) d_X12_wasted_202 (by decide) ?_
                                      have J216 : ∀ (M : Mem) (q216_1 : Int), St Tru ws_X12_wasted_120 as_X12_wasted_120 M0 M → ((-2147483648) ≤ q216_1 ∧ q216_1 ≤ 2147483647) → rd M 120 85 = r1 → rd M 120 86 = r64 → rd M 120 95 = r91 → rd M 120 97 = r173 → rd M 120 98 = r60 → rd M 126 0 = r30 → rd M 129 0 = w9_129_0 → rd M 163 (p170_7 + 2100 * p21_3) = r199 → Tr l K 2 mX12_wasted 216 [(0, (2, 120)), (1, (0, a1)), (3, (0, p21_3)), (4, (0, r49)), (5, (0, p40_5)), (7, (0, p170_7))] [(0, q216_1), (0, p170_2)] M (q_X12_wasted_120 M0) := by
                                        intro M q216_1 hS bq216_1 k216_120_85 k216_120_86 k216_120_95 k216_120_97 k216_120_98 k216_126_0 k216_129_0 k216_163_p170_71p21_321000
                                        refine Tr.iadd (pc := 216) d_X12_wasted_216 ?_
                                        refine Tr.gen (P := fun v => (-2147483648) ≤ v ∧ v ≤ 2147483647) (w32_b _) (fun r216 er216 br216 => ?_)
                                        refine Tr.istore_n (pc := 217) (i := 2) (ls2 := [(2, (0, r216)), (0, (2, 120)), (1, (0, a1)), (3, (0, p21_3)), (4, (0, r49)), (5, (0, p40_5)), (7, (0, p170_7))]) d_X12_wasted_217 rfl (by decide) rfl ?_
                                        refine Tr.iincV (pc := 218) (n2 := (p170_7 - 1)) (ls2 := [(7, (0, (p170_7 - 1))), (2, (0, r216)), (0, (2, 120)), (1, (0, a1)), (3, (0, p21_3)), (4, (0, r49)), (5, (0, p40_5))]) d_X12_wasted_218 rfl (by decide) ((w32_id (by omega)).trans (by omega)) rfl ?_
                                        refine Tr.goto (pc := 221) (tgt := 170) d_X12_wasted_221 rfl ?_
                                        refine Tr.pick [2, 3, 1, 4, 5, 6, 0] (ls2 := [(0, (2, 120)), (1, (0, a1)), (2, (0, r216)), (3, (0, p21_3)), (4, (0, r49)), (5, (0, p40_5)), (7, (0, (p170_7 - 1)))]) rfl ?_
                                        exact J170 _ _ _ hS (by omega) (by omega) k216_120_85 k216_120_86 k216_120_95 k216_120_98 k216_126_0 k216_129_0 (by omega)
                                      refine Tr.icmp_ne (pc := 203) (tgt := 215) d_X12_wasted_203 rfl (fun c203 => ?_) (fun c203 => ?_)
                                      · refine Tr.iconst (pc := 215) d_X12_wasted_215 (by decide) ?_
                                        refine Tr.pick [0, 1, 3, 4, 5, 6] (ls2 := [(0, (2, 120)), (1, (0, a1)), (3, (0, p21_3)), (4, (0, r49)), (5, (0, p40_5)), (7, (0, p170_7))]) rfl ?_
                                        exact J216 _ _ hS (by omega) ((St.kp h199 (by decide) (by decide) (by decide)).trans ((St.kp h187 (by decide) (by decide) (by decide)).trans k170_120_85)) ((St.kp h199 (by decide) (by decide) (by decide)).trans ((St.kp h187 (by decide) (by decide) (by decide)).trans k170_120_86)) ((St.kp h199 (by decide) (by decide) (by decide)).trans ((St.kp h187 (by decide) (by decide) (by decide)).trans k170_120_95)) ((St.kp h199 (by decide) (by decide) (by decide)).trans ((St.kp h187 (by decide) (by decide) (by decide)).trans er173)) ((St.kp h199 (by decide) (by decide) (by decide)).trans ((St.kp h187 (by decide) (by decide) (by decide)).trans k170_120_98)) ((St.kp h199 (by decide) (by decide) (by decide)).trans ((St.kp h187 (by decide) (by decide) (by decide)).trans k170_126_0)) ((St.kp h199 (by decide) (by decide) (by decide)).trans ((St.kp h187 (by decide) (by decide) (by decide)).trans k170_129_0)) ((St.ka h199 (by decide) (by decide) (by decide)).trans qs199)
                                      · refine Tr.aload_n (pc := 206) (i := 0) d_X12_wasted_206 rfl rfl ?_
                                        refine Tr.iload_n (pc := 207) (i := 3) d_X12_wasted_207 rfl rfl ?_
                                        refine Tr.iconst (pc := 208) d_X12_wasted_208 (by decide) ?_
                                        refine Tr.callV (pc := 209) (as := [_, _]) d_X12_wasted_209 s_12_565 ok_X12_rate rfl rfl (Nat.le_of_ble_eq_true rfl) (Nat.le_of_ble_eq_true rfl) (by decide) (ty_120 hS.1.1) ?_
                                        refine Tr.imp (Tr.deep (by decide) (sp_X12_rate_120 hS.1 ((St.kp hS (by decide) (by decide) (by decide)).trans en_120_12) p21_3 (by omega) 3 (by omega) (Bk0.of hF_Bk0 (fun j => (St.ka hS (by decide) (by decide) (by decide))) (fun j => (St.ka hS (by decide) (by decide) (by decide))) (fun j => (St.ka hS (by decide) (by decide) (by decide))) (fun j => (St.ka hS (by decide) (by decide) (by decide))) (fun j => (St.ka hS (by decide) (by decide) (by decide))) (fun j => (St.ka hS (by decide) (by decide) (by decide))) (fun j => (St.ka hS (by decide) (by decide) (by decide))) (fun j => (St.ka hS (by decide) (by decide) (by decide))) (St.kp hS (by decide) (by decide) (by decide)) (St.kp hS (by decide) (by decide) (by decide)) (St.kp hS (by decide) (by decide) (by decide)) (St.kp hS (by decide) (by decide) (by decide))))) ?_
                                        rintro M209 _ ⟨h209, r209, rfl, lr209, ur209, z209_0⟩
                                        have hS := St.tr hS h209 (by decide) (by decide)
                                        have ka209_126_0 : rd M209 126 0 = r30 := ((St.kp h209 (by decide) (by decide) (by decide)).trans ((St.kp h199 (by decide) (by decide) (by decide)).trans ((St.kp h187 (by decide) (by decide) (by decide)).trans k170_126_0)))
                                        refine Tr.sc [(0, r209), (0, p170_2)] rfl ?_
                                        refine Tr.goto (pc := 212) (tgt := 216) d_X12_wasted_212 rfl ?_
                                        refine Tr.pick [0, 1, 3, 4, 5, 6] (ls2 := [(0, (2, 120)), (1, (0, a1)), (3, (0, p21_3)), (4, (0, r49)), (5, (0, p40_5)), (7, (0, p170_7))]) rfl ?_
                                        exact J216 _ _ hS (by omega) ((St.kp h209 (by decide) (by decide) (by decide)).trans ((St.kp h199 (by decide) (by decide) (by decide)).trans ((St.kp h187 (by decide) (by decide) (by decide)).trans k170_120_85))) ((St.kp h209 (by decide) (by decide) (by decide)).trans ((St.kp h199 (by decide) (by decide) (by decide)).trans ((St.kp h187 (by decide) (by decide) (by decide)).trans k170_120_86))) ((St.kp h209 (by decide) (by decide) (by decide)).trans ((St.kp h199 (by decide) (by decide) (by decide)).trans ((St.kp h187 (by decide) (by decide) (by decide)).trans k170_120_95))) ((St.kp h209 (by decide) (by decide) (by decide)).trans ((St.kp h199 (by decide) (by decide) (by decide)).trans ((St.kp h187 (by decide) (by decide) (by decide)).trans er173))) ((St.kp h209 (by decide) (by decide) (by decide)).trans ((St.kp h199 (by decide) (by decide) (by decide)).trans ((St.kp h187 (by decide) (by decide) (by decide)).trans k170_120_98))) ((St.kp h209 (by decide) (by decide) (by decide)).trans ((St.kp h199 (by decide) (by decide) (by decide)).trans ((St.kp h187 (by decide) (by decide) (by decide)).trans k170_126_0))) ((St.kp h209 (by decide) (by decide) (by decide)).trans ((St.kp h199 (by decide) (by decide) (by decide)).trans ((St.kp h187 (by decide) (by decide) (by decide)).trans k170_129_0))) ((St.ka h209 (by decide) (by decide) (by decide)).trans ((St.ka h199 (by decide) (by decide) (by decide)).trans qs199))
                              refine Tr.pick [1, 2, 3, 4, 5, 6, 0] (ls2 := [(0, (2, 120)), (1, (0, a1)), (2, (0, p40_2)), (3, (0, p21_3)), (4, (0, r49)), (5, (0, p40_5)), (7, (0, (r60 - 1)))]) rfl ?_
                              exact J170 _ _ _ _ hS (by omega) (by omega) k88_120_85 k88_120_86 er91 k88_120_98 k88_126_0 k88_129_0 (Nat.lt_succ_self _)
                            · refine Tr.goto (pc := 159) (tgt := 224) d_X12_wasted_159 rfl ?_
                              refine Tr.pick [0, 1, 2, 3, 4, 5] (ls2 := [(0, (2, 120)), (1, (0, a1)), (2, (0, p40_2)), (3, (0, p21_3)), (4, (0, r49)), (5, (0, p40_5))]) rfl ?_
                              exact J224 _ _ hS (by omega) k88_120_85 k88_126_0 k88_129_0 (by first | assumption | omega)
                          · refine Tr.aload_n (pc := 97) (i := 0) d_X12_wasted_97 rfl rfl ?_
                            refine Tr.getf (pc := 98) d_X12_wasted_98 f_12_243 (by decide) (by decide) (ty_120 hS.1.1) ?_
                            refine Tr.tp 166 (fx_120_76 hS.1.1) ?_
                            refine Tr.iload (pc := 101) (i := 7) d_X12_wasted_101 rfl ?_
                            refine Tr.iald (pc := 103) d_X12_wasted_103 (ty_166 hS.1.1) (by omega) (by omega) ?_
                            refine Tr.gen (P := fun v => 0 ≤ v ∧ v ≤ 5) (ar_166 hS.1.2.1 _) (fun r103 er103 br103 => ?_)
                            refine Tr.iload_n (pc := 104) (i := 3) d_X12_wasted_104 rfl rfl ?_
                            have J147 : ∀ (M : Mem) (p147_6 : Int), St Tru ws_X12_wasted_120 as_X12_wasted_120 M0 M → ((-1) ≤ p147_6 ∧ p147_6 ≤ 59) → rd M 120 85 = r1 → rd M 120 86 = r64 → rd M 120 95 = r91 → rd M 120 98 = r60 → rd M 126 0 = r30 → rd M 129 0 = w9_129_0 → rd M 166 p88_7 = r103 → Tr l K 2 mX12_wasted 147 [(0, (2, 120)), (1, (0, a1)), (2, (0, p40_2)), (3, (0, p21_3)), (4, (0, r49)), (5, (0, p40_5)), (6, (0, p147_6)), (7, (0, p88_7))] [] M (q_X12_wasted_120 M0) := by
                              intro M p147_6 hS bp147_6 k147_120_85 k147_120_86 k147_120_95 k147_120_98 k147_126_0 k147_129_0 k147_166_p88_710
                              refine Tr.iincV (pc := 147) (n2 := (p88_7 + 1)) (ls2 := [(7, (0, (p88_7 + 1))), (0, (2, 120)), (1, (0, a1)), (2, (0, p40_2)), (3, (0, p21_3)), (4, (0, r49)), (5, (0, p40_5)), (6, (0, p147_6))]) d_X12_wasted_147 rfl (by decide) ((w32_id (by omega)).trans (by omega)) rfl ?_
                              refine Tr.goto (pc := 150) (tgt := 88) d_X12_wasted_150 rfl ?_
                              refine Tr.pick [1, 2, 3, 4, 5, 6, 7, 0] (ls2 := [(0, (2, 120)), (1, (0, a1)), (2, (0, p40_2)), (3, (0, p21_3)), (4, (0, r49)), (5, (0, p40_5)), (6, (0, p147_6)), (7, (0, (p88_7 + 1)))]) rfl ?_
                              exact J88 _ _ _ hS (by omega) (by omega) k147_120_85 k147_120_86 k147_120_98 k147_126_0 k147_129_0 (by omega)
                            refine Tr.icmp_ne (pc := 105) (tgt := 147) d_X12_wasted_105 rfl (fun c105 => ?_) (fun c105 => ?_)
                            · refine Tr.pick [0, 1, 2, 3, 4, 5, 6, 7] (ls2 := [(0, (2, 120)), (1, (0, a1)), (2, (0, p40_2)), (3, (0, p21_3)), (4, (0, r49)), (5, (0, p40_5)), (6, (0, p88_6)), (7, (0, p88_7))]) rfl ?_
                              exact J147 _ _ hS (by omega) k88_120_85 k88_120_86 er91 k88_120_98 k88_126_0 k88_129_0 er103
                            · refine Tr.aload_n (pc := 108) (i := 0) d_X12_wasted_108 rfl rfl ?_
                              refine Tr.getf (pc := 109) d_X12_wasted_109 f_12_249 (by decide) (by decide) (ty_120 hS.1.1) ?_
                              refine Tr.tp 168 (fx_120_78 hS.1.1) ?_
                              refine Tr.iload (pc := 112) (i := 7) d_X12_wasted_112 rfl ?_
                              refine Tr.iald (pc := 114) d_X12_wasted_114 (ty_168 hS.1.1) (by omega) (by omega) ?_
                              refine Tr.gen (P := fun v => (-2147483648) ≤ v ∧ v ≤ 2147483647) (ar_168 hS.1.2.1 _) (fun r114 er114 br114 => ?_)
                              refine Tr.aload_n (pc := 115) (i := 0) d_X12_wasted_115 rfl rfl ?_
                              refine Tr.getf (pc := 116) d_X12_wasted_116 f_12_306 (by decide) (by decide) (ty_120 hS.1.1) ?_
                              refine Tr.gen (P := fun v => 0 ≤ v ∧ v ≤ 2100) (ir_120_97 hS.1.2.1) (fun r116 er116 br116 => ?_)
                              refine Tr.iconst (pc := 119) d_X12_wasted_119 (by decide) ?_
                              refine Tr.isub (pc := 120) d_X12_wasted_120 ?_
                              refine Tr.tp (r116 - 1) ((w32_id (by omega)).trans (by omega)) ?_
                              refine Tr.icmp_lt (pc := 121) (tgt := 147) d_X12_wasted_121 rfl (fun c121 => ?_) (fun c121 => ?_)
                              · refine Tr.pick [0, 1, 2, 3, 4, 5, 6, 7] (ls2 := [(0, (2, 120)), (1, (0, a1)), (2, (0, p40_2)), (3, (0, p21_3)), (4, (0, r49)), (5, (0, p40_5)), (6, (0, p88_6)), (7, (0, p88_7))]) rfl ?_
                                exact J147 _ _ hS (by omega) k88_120_85 k88_120_86 er91 k88_120_98 k88_126_0 k88_129_0 er103
                              · refine Tr.aload_n (pc := 124) (i := 0) d_X12_wasted_124 rfl rfl ?_
                                refine Tr.getf (pc := 125) d_X12_wasted_125 f_12_249 (by decide) (by decide) (ty_120 hS.1.1) ?_
                                refine Tr.tp 168 (fx_120_78 hS.1.1) ?_
                                refine Tr.iload (pc := 128) (i := 7) d_X12_wasted_128 rfl ?_
                                refine Tr.iald (pc := 130) d_X12_wasted_130 (ty_168 hS.1.1) (by omega) (by omega) ?_
                                refine Tr.tp r114 er114 ?_
                                refine Tr.aload_n (pc := 131) (i := 0) d_X12_wasted_131 rfl rfl ?_
                                refine Tr.getf (pc := 132) d_X12_wasted_132 f_12_309 (by decide) (by decide) (ty_120 hS.1.1) ?_
                                refine Tr.tp r60 k88_120_98 ?_
                                refine Tr.icmp_ge (pc := 135) (tgt := 147) d_X12_wasted_135 rfl (fun c135 => ?_) (fun c135 => ?_)
                                · refine Tr.pick [0, 1, 2, 3, 4, 5, 6, 7] (ls2 := [(0, (2, 120)), (1, (0, a1)), (2, (0, p40_2)), (3, (0, p21_3)), (4, (0, r49)), (5, (0, p40_5)), (6, (0, p88_6)), (7, (0, p88_7))]) rfl ?_
                                  exact J147 _ _ hS (by omega) k88_120_85 k88_120_86 er91 k88_120_98 k88_126_0 k88_129_0 er103
                                · refine Tr.aload_n (pc := 138) (i := 0) d_X12_wasted_138 rfl rfl ?_
                                  refine Tr.getf (pc := 139) d_X12_wasted_139 f_12_246 (by decide) (by decide) (ty_120 hS.1.1) ?_
                                  refine Tr.tp 167 (fx_120_77 hS.1.1) ?_
                                  refine Tr.iload (pc := 142) (i := 7) d_X12_wasted_142 rfl ?_
                                  refine Tr.iald (pc := 144) d_X12_wasted_144 (ty_167 hS.1.1) (by omega) (by omega) ?_
                                  refine Tr.gen (P := fun v => (-1) ≤ v ∧ v ≤ 59) (ar_167 hS.1.2.1 _) (fun r144 er144 br144 => ?_)
                                  refine Tr.istore (pc := 145) (i := 6) (ls2 := [(6, (0, r144)), (0, (2, 120)), (1, (0, a1)), (2, (0, p40_2)), (3, (0, p21_3)), (4, (0, r49)), (5, (0, p40_5)), (7, (0, p88_7))]) d_X12_wasted_145 (by decide) rfl ?_
                                  refine Tr.pick [1, 2, 3, 4, 5, 6, 0, 7] (ls2 := [(0, (2, 120)), (1, (0, a1)), (2, (0, p40_2)), (3, (0, p21_3)), (4, (0, r49)), (5, (0, p40_5)), (6, (0, r144)), (7, (0, p88_7))]) rfl ?_
                                  exact J147 _ _ hS (by omega) k88_120_85 k88_120_86 er91 k88_120_98 k88_126_0 k88_129_0 er103
                      refine Tr.pick [2, 3, 4, 5, 6, 7, 1, 0] (ls2 := [(0, (2, 120)), (1, (0, a1)), (2, (0, p40_2)), (3, (0, p21_3)), (4, (0, r49)), (5, (0, p40_5)), (6, (0, (-1))), (7, (0, 0))]) rfl ?_
                      exact J88 _ _ _ _ hS (by omega) (by omega) k82_120_85 k82_120_86 k82_120_98 k82_126_0 k82_129_0 (Nat.lt_succ_self _)
                    refine Tr.icmp_ne (pc := 67) (tgt := 82) d_X12_wasted_67 rfl (fun c67 => ?_) (fun c67 => ?_)
                    · refine Tr.pick [1, 2, 3, 4, 0, 5] (ls2 := [(0, (2, 120)), (1, (0, a1)), (2, (0, p40_2)), (3, (0, p21_3)), (4, (0, r49)), (5, (0, p40_5))]) rfl ?_
                      exact J82 _ hS ((St.kp h49 (by decide) (by decide) (by decide)).trans k40_120_85) er64 er60 ((St.kp h49 (by decide) (by decide) (by decide)).trans k40_126_0) ((St.kp h49 (by decide) (by decide) (by decide)).trans k40_129_0)
                    · refine Tr.aload_n (pc := 70) (i := 0) d_X12_wasted_70 rfl rfl ?_
                      refine Tr.getf (pc := 71) d_X12_wasted_71 f_12_297 (by decide) (by decide) (ty_120 hS.1.1) ?_
                      refine Tr.tp 175 (fx_120_94 hS.1.1) ?_
                      refine Tr.iload_n (pc := 74) (i := 3) d_X12_wasted_74 rfl rfl ?_
                      refine Tr.zald (pc := 75) d_X12_wasted_75 (ty_175 hS.1.1) (by omega) (by omega) ?_
                      refine Tr.gen (P := fun v => 0 ≤ v ∧ v ≤ 1) (ar_175 hS.1.2.1 _) (fun r75 er75 br75 => ?_)
                      refine Tr.if_ne (pc := 76) (tgt := 82) d_X12_wasted_76 rfl (fun c76 => ?_) (fun c76 => ?_)
                      · refine Tr.pick [1, 2, 3, 4, 0, 5] (ls2 := [(0, (2, 120)), (1, (0, a1)), (2, (0, p40_2)), (3, (0, p21_3)), (4, (0, r49)), (5, (0, p40_5))]) rfl ?_
                        exact J82 _ hS ((St.kp h49 (by decide) (by decide) (by decide)).trans k40_120_85) er64 er60 ((St.kp h49 (by decide) (by decide) (by decide)).trans k40_126_0) ((St.kp h49 (by decide) (by decide) (by decide)).trans k40_129_0)
                      · refine Tr.goto (pc := 79) (tgt := 224) d_X12_wasted_79 rfl ?_
                        refine Tr.pick [1, 2, 3, 4, 0, 5] (ls2 := [(0, (2, 120)), (1, (0, a1)), (2, (0, p40_2)), (3, (0, p21_3)), (4, (0, r49)), (5, (0, p40_5))]) rfl ?_
                        exact J224 _ _ hS (by omega) ((St.kp h49 (by decide) (by decide) (by decide)).trans k40_120_85) ((St.kp h49 (by decide) (by decide) (by decide)).trans k40_126_0) ((St.kp h49 (by decide) (by decide) (by decide)).trans k40_129_0) (by first | assumption | omega)
            refine Tr.pick [2, 3, 4, 5, 1, 0] (ls2 := [(0, (2, 120)), (1, (0, a1)), (2, (0, p21_2)), (3, (0, p21_3)), (4, (0, 1)), (5, (0, 0))]) rfl ?_
            exact J40 _ _ _ _ _ hS (by omega) (by omega) (by omega) k21_120_85 er30 k21_129_0 (by first | assumption | omega) (Nat.lt_succ_self _)
      refine Tr.pick [2, 3, 1, 0] (ls2 := [(0, (2, 120)), (1, (0, a1)), (2, (0, 0)), (3, (0, 0))]) rfl ?_
      exact J21 _ _ _ _ hS (by omega) (by omega) ((St.kp h9 (by decide) (by decide) (by decide)).trans er1) ew9_129_0 (Nat.lt_succ_self _)
    · refine Tr.iconst (pc := 15) d_X12_wasted_15 (by decide) ?_
      exact Tr.iret (pc := 16) d_X12_wasted_16 rfl ⟨hS, _, rfl, by omega, by omega⟩

def ws_X12_where_120 : List (Int × Int) := []
def as_X12_where_120 : List Int := []
def q_X12_where_120 (M0 M' : Mem) (r : Option PV) : Prop := St Tru ws_X12_where_120 as_X12_where_120 M0 M' ∧ ∃ v : Int, r = some (0, v) ∧ (-2147483648) ≤ v ∧ v ≤ 2147483647
set_option maxRecDepth 100000 in
set_option maxHeartbeats 4000000 in
theorem sp_X12_where_120 {l : Launch} {K : EC} {M0 : Mem} (hI : In Tru M0) (en_120_12 : rd M0 120 12 = 0) (a1 : Int) (ha1 : (-2147483648) ≤ a1 ∧ a1 ≤ 2147483647)  : Tr l K 2 mX12_where 0 [(0, (2, 120)), (1, (0, a1))] [] M0 (q_X12_where_120 M0) := by
  have hS : St Tru ws_X12_where_120 as_X12_where_120 M0 M0 := St.rf hI
  refine Tr.aload_n (pc := 0) (i := 0) d_X12_where_0 rfl rfl ?_
  refine Tr.getz (pc := 1) d_X12_where_1 f_12_327 (by decide) (ty_120 hS.1.1) ?_
  refine Tr.gen (P := fun v => 0 ≤ v ∧ v ≤ 1) (ir_120_104 hS.1.2.1) (fun r1 er1 br1 => ?_)
  refine Tr.if_eq (pc := 4) (tgt := 24) d_X12_where_4 rfl (fun c4 => ?_) (fun c4 => ?_)
  · refine Tr.iconst (pc := 24) d_X12_where_24 (by decide) ?_
    exact Tr.iret (pc := 25) d_X12_where_25 rfl ⟨hS, _, rfl, by omega, by omega⟩
  · refine Tr.aload_n (pc := 7) (i := 0) d_X12_where_7 rfl rfl ?_
    refine Tr.iload_n (pc := 8) (i := 1) d_X12_where_8 rfl rfl ?_
    refine Tr.callV (pc := 9) (as := [_]) d_X12_where_9 s_12_562 ok_X12_isInput rfl rfl (Nat.le_of_ble_eq_true rfl) (Nat.le_of_ble_eq_true rfl) (by decide) (ty_120 hS.1.1) ?_
    refine Tr.imp (Tr.deep (by decide) (sp_X12_isInput_120 hS.1 ((St.kp hS (by decide) (by decide) (by decide)).trans en_120_12) a1 (by omega))) ?_
    rintro M9 _ ⟨h9, r9, rfl, lr9, ur9, z9_0⟩
    have hS := St.tr hS h9 (by decide) (by decide)
    obtain ⟨w9_127_0, ew9_127_0⟩ : ∃ v, rd M9 127 0 = v := ⟨_, rfl⟩
    have bw9_127_0 : 0 ≤ w9_127_0 ∧ w9_127_0 ≤ 3 := by rw [← ew9_127_0]; exact ir_127_0 hS.1.2.1
    have ka9_127_0 : rd M9 127 0 = w9_127_0 := ew9_127_0
    refine Tr.sc [(0, r9)] rfl ?_
    refine Tr.if_eq (pc := 12) (tgt := 24) d_X12_where_12 rfl (fun c12 => ?_) (fun c12 => ?_)
    · refine Tr.iconst (pc := 24) d_X12_where_24 (by decide) ?_
      exact Tr.iret (pc := 25) d_X12_where_25 rfl ⟨hS, _, rfl, by omega, by omega⟩
    · refine Tr.aload_n (pc := 15) (i := 0) d_X12_where_15 rfl rfl ?_
      refine Tr.getf (pc := 16) d_X12_where_16 f_12_330 (by decide) (by decide) (ty_120 hS.1.1) ?_
      refine Tr.tp 179 (fx_120_105 hS.1.1) ?_
      refine Tr.iload_n (pc := 19) (i := 1) d_X12_where_19 rfl rfl ?_
      refine Tr.iald (pc := 20) d_X12_where_20 (ty_179 hS.1.1) (by omega) (by omega) ?_
      refine Tr.gen (P := fun v => (-2147483648) ≤ v ∧ v ≤ 2147483647) (ar_179 hS.1.2.1 _) (fun r20 er20 br20 => ?_)
      refine Tr.goto (pc := 21) (tgt := 25) d_X12_where_21 rfl ?_
      exact Tr.iret (pc := 25) d_X12_where_25 rfl ⟨hS, _, rfl, by omega, by omega⟩

def ws_X12_stateOf_120 : List (Int × Int) := []
def as_X12_stateOf_120 : List Int := []
def q_X12_stateOf_120 (a1 : Int) (M0 M' : Mem) (r : Option PV) : Prop := St Tru ws_X12_stateOf_120 as_X12_stateOf_120 M0 M' ∧ ∃ v : Int, r = some (0, v) ∧ 0 ≤ v ∧ v ≤ 3 ∧ ((rd M' 120 59 = a1 ∧ v = rd M' 120 61) ∨ ((rd M0 156 a1 = 1 ∨ 0 < rd M0 158 a1) ∧ v = 2) ∨ (rd M0 156 a1 = 0 ∧ rd M0 158 a1 ≤ 0 ∧ v = 0))
set_option maxRecDepth 100000 in
set_option maxHeartbeats 4000000 in
theorem sp_X12_stateOf_120 {l : Launch} {K : EC} {M0 : Mem} (hI : In Tru M0)  (a1 : Int) (ha1 : 0 ≤ a1 ∧ a1 ≤ 5)  : Tr l K 0 mX12_stateOf 0 [(0, (2, 120)), (1, (0, a1))] [] M0 (q_X12_stateOf_120 a1 M0) := by
  have hS : St Tru ws_X12_stateOf_120 as_X12_stateOf_120 M0 M0 := St.rf hI
  obtain ⟨g120_59, eg120_59⟩ : ∃ v, rd M0 120 59 = v := ⟨_, rfl⟩
  have bg120_59 : (-1) ≤ g120_59 ∧ g120_59 ≤ 5 := by rw [← eg120_59]; exact ir_120_59 hI.2.1
  obtain ⟨g120_61, eg120_61⟩ : ∃ v, rd M0 120 61 = v := ⟨_, rfl⟩
  have bg120_61 : 0 ≤ g120_61 ∧ g120_61 ≤ 3 := by rw [← eg120_61]; exact ir_120_61 hI.2.1
  refine Tr.iload_n (pc := 0) (i := 1) d_X12_stateOf_0 rfl rfl ?_
  refine Tr.aload_n (pc := 1) (i := 0) d_X12_stateOf_1 rfl rfl ?_
  refine Tr.getf (pc := 2) d_X12_stateOf_2 f_12_192 (by decide) (by decide) (ty_120 hS.1.1) ?_
  refine Tr.tp g120_59 eg120_59 ?_
  refine Tr.icmp_ne (pc := 5) (tgt := 15) d_X12_stateOf_5 rfl (fun c5 => ?_) (fun c5 => ?_)
  · refine Tr.aload_n (pc := 15) (i := 0) d_X12_stateOf_15 rfl rfl ?_
    refine Tr.getf (pc := 16) d_X12_stateOf_16 f_12_177 (by decide) (by decide) (ty_120 hS.1.1) ?_
    refine Tr.tp 156 (fx_120_54 hS.1.1) ?_
    refine Tr.iload_n (pc := 19) (i := 1) d_X12_stateOf_19 rfl rfl ?_
    refine Tr.zald (pc := 20) d_X12_stateOf_20 (ty_156 hS.1.1) (by omega) (by omega) ?_
    refine Tr.gen (P := fun v => 0 ≤ v ∧ v ≤ 1) (ar_156 hS.1.2.1 _) (fun r20 er20 br20 => ?_)
    refine Tr.if_ne (pc := 21) (tgt := 33) d_X12_stateOf_21 rfl (fun c21 => ?_) (fun c21 => ?_)
    · refine Tr.iconst (pc := 33) d_X12_stateOf_33 (by decide) ?_
      refine Tr.goto (pc := 34) (tgt := 38) d_X12_stateOf_34 rfl ?_
      have kr_120_59 : rd M0 120 59 = g120_59 := eg120_59
      have kr_120_61 : rd M0 120 61 = g120_61 := eg120_61
      exact Tr.iret (pc := 38) d_X12_stateOf_38 rfl ⟨hS, _, rfl, by omega, by omega, by omega⟩
    · refine Tr.aload_n (pc := 24) (i := 0) d_X12_stateOf_24 rfl rfl ?_
      refine Tr.getf (pc := 25) d_X12_stateOf_25 f_12_183 (by decide) (by decide) (ty_120 hS.1.1) ?_
      refine Tr.tp 158 (fx_120_56 hS.1.1) ?_
      refine Tr.iload_n (pc := 28) (i := 1) d_X12_stateOf_28 rfl rfl ?_
      refine Tr.iald (pc := 29) d_X12_stateOf_29 (ty_158 hS.1.1) (by omega) (by omega) ?_
      refine Tr.gen (P := fun v => (-2147483648) ≤ v ∧ v ≤ 2147483647) (ar_158 hS.1.2.1 _) (fun r29 er29 br29 => ?_)
      refine Tr.if_le (pc := 30) (tgt := 37) d_X12_stateOf_30 rfl (fun c30 => ?_) (fun c30 => ?_)
      · refine Tr.iconst (pc := 37) d_X12_stateOf_37 (by decide) ?_
        have kr_120_59 : rd M0 120 59 = g120_59 := eg120_59
        have kr_120_61 : rd M0 120 61 = g120_61 := eg120_61
        exact Tr.iret (pc := 38) d_X12_stateOf_38 rfl ⟨hS, _, rfl, by omega, by omega, by omega⟩
      · refine Tr.iconst (pc := 33) d_X12_stateOf_33 (by decide) ?_
        refine Tr.goto (pc := 34) (tgt := 38) d_X12_stateOf_34 rfl ?_
        have kr_120_59 : rd M0 120 59 = g120_59 := eg120_59
        have kr_120_61 : rd M0 120 61 = g120_61 := eg120_61
        exact Tr.iret (pc := 38) d_X12_stateOf_38 rfl ⟨hS, _, rfl, by omega, by omega, by omega⟩
  · refine Tr.aload_n (pc := 8) (i := 0) d_X12_stateOf_8 rfl rfl ?_
    refine Tr.getf (pc := 9) d_X12_stateOf_9 f_12_198 (by decide) (by decide) (ty_120 hS.1.1) ?_
    refine Tr.tp g120_61 eg120_61 ?_
    refine Tr.goto (pc := 12) (tgt := 38) d_X12_stateOf_12 rfl ?_
    have kr_120_59 : rd M0 120 59 = g120_59 := eg120_59
    have kr_120_61 : rd M0 120 61 = g120_61 := eg120_61
    exact Tr.iret (pc := 38) d_X12_stateOf_38 rfl ⟨hS, _, rfl, by omega, by omega, by omega⟩

def ws_X12_tick_120 : List (Int × Int) := [(120, 62), (120, 63), (120, 68)]
def as_X12_tick_120 : List Int := [158, 161, 162, 163, 164, 165]
def q_X12_tick_120 (a1 : Int) (M0 M' : Mem) (r : Option PV) : Prop := St Tb0 ws_X12_tick_120 as_X12_tick_120 M0 M' ∧ ∃ v : Int, r = some (0, v) ∧ 0 ≤ v ∧ v ≤ 1 ∧ ((v = 1 ∧ rd M' 120 62 = rd M0 120 62 + 1 ∧ (a1 = -1 ∨ rd M' 120 62 ≤ 2000)) ∨ (v = 0 ∧ rd M' 120 62 = rd M0 120 62 ∧ 1 ≤ rd M' 120 68)) ∧ (a1 ≠ -1 ∨ rd M' 120 68 = rd M0 120 68) ∧ (rd M' 120 59 = rd M0 120 59)
set_option maxRecDepth 100000 in
set_option maxHeartbeats 4000000 in
theorem sp_X12_tick_120 {l : Launch} {K : EC} {M0 : Mem} (hI : In Tb0 M0) (en_120_12 : rd M0 120 12 = 0) (a1 : Int) (ha1 : 0 ≤ a1 ∧ a1 ≤ 59)  (hq0 : rd M0 120 61 ≠ 2 ∨ rd M0 120 59 = -1) (hq1 : rd M0 120 62 ≤ 2000 ∨ (a1 = -1 ∧ rd M0 120 62 ≤ 2049)) (hF_Bk0 : Bk0 M0) : Tr l K 3 mX12_tick 0 [(0, (2, 120)), (1, (0, a1))] [] M0 (q_X12_tick_120 a1 M0) := by
  have hS : St Tb0 ws_X12_tick_120 as_X12_tick_120 M0 M0 := St.rf hI
  obtain ⟨g120_62, eg120_62⟩ : ∃ v, rd M0 120 62 = v := ⟨_, rfl⟩
  have bg120_62 : 0 ≤ g120_62 ∧ g120_62 ≤ 2060 := by rw [← eg120_62]; exact ir_120_62 hI.2.1
  obtain ⟨g120_68, eg120_68⟩ : ∃ v, rd M0 120 68 = v := ⟨_, rfl⟩
  have bg120_68 : 0 ≤ g120_68 ∧ g120_68 ≤ 2 := by rw [← eg120_68]; exact ir_120_68 hI.2.1
  obtain ⟨g120_59, eg120_59⟩ : ∃ v, rd M0 120 59 = v := ⟨_, rfl⟩
  have bg120_59 : (-1) ≤ g120_59 ∧ g120_59 ≤ 5 := by rw [← eg120_59]; exact ir_120_59 hI.2.1
  obtain ⟨g126_0, eg126_0⟩ : ∃ v, rd M0 126 0 = v := ⟨_, rfl⟩
  have bg126_0 : 0 ≤ g126_0 ∧ g126_0 ≤ 6 := by rw [← eg126_0]; exact ir_126_0 hI.2.1
  obtain ⟨g120_61, eg120_61⟩ : ∃ v, rd M0 120 61 = v := ⟨_, rfl⟩
  have bg120_61 : 0 ≤ g120_61 ∧ g120_61 ≤ 3 := by rw [← eg120_61]; exact ir_120_61 hI.2.1
  refine Tr.iload_n (pc := 0) (i := 1) d_X12_tick_0 rfl rfl ?_
  refine Tr.iconst (pc := 1) d_X12_tick_1 (by decide) ?_
  have J20 : ∀ (M : Mem) (u20_120_68 : Int), St Tb0 ws_X12_tick_120 as_X12_tick_120 M0 M → (0 ≤ u20_120_68 ∧ u20_120_68 ≤ 2) → rd M 120 59 = g120_59 → rd M 120 61 = g120_61 → rd M 120 62 = g120_62 → rd M 120 68 = u20_120_68 → rd M 126 0 = g126_0 → (a1 = -1 ∨ g120_62 ≠ 2000 ∨ 1 ≤ u20_120_68) → (a1 ≠ -1 ∨ u20_120_68 = g120_68) → Tr l K 3 mX12_tick 20 [(0, (2, 120)), (1, (0, a1))] [] M (q_X12_tick_120 a1 M0) := by
    intro M u20_120_68 hS bu20_120_68 k20_120_59 k20_120_61 k20_120_62 k20_120_68 k20_126_0 t20_0 t20_1
    refine Tr.iload_n (pc := 20) (i := 1) d_X12_tick_20 rfl rfl ?_
    refine Tr.iconst (pc := 21) d_X12_tick_21 (by decide) ?_
    refine Tr.icmp_ne (pc := 22) (tgt := 29) d_X12_tick_22 rfl (fun _ => ?_) (fun hc => absurd hc (by omega))
    refine Tr.aload_n (pc := 29) (i := 0) d_X12_tick_29 rfl rfl ?_
    refine Tr.getf (pc := 30) d_X12_tick_30 f_12_51 (by decide) (by decide) (ty_120 hS.1.1) ?_
    refine Tr.tp 122 (fx_120_13 hS.1.1) ?_
    refine Tr.aload_n (pc := 33) (i := 0) d_X12_tick_33 rfl rfl ?_
    refine Tr.getf (pc := 34) d_X12_tick_34 f_12_48 (by decide) (by decide) (ty_120 hS.1.1) ?_
    refine Tr.tp 0 ((St.kp hS (by decide) (by decide) (by decide)).trans en_120_12) ?_
    refine Tr.iald (pc := 37) d_X12_tick_37 (ty_122 hS.1.1) (by omega) (by omega) ?_
    refine Tr.gen (P := fun v => (-2147483648) ≤ v ∧ v ≤ 2147483647) (ir_122_0 hS.1.2.1) (fun r37 er37 br37 => ?_)
    refine Tr.i2l (pc := 38) d_X12_tick_38 ?_
    refine Tr.lstore_n (pc := 39) (i := 2) (ls2 := [(2, (1, r37)), (0, (2, 120)), (1, (0, a1))]) d_X12_tick_39 rfl (by decide) rfl ?_
    refine Tr.iconst (pc := 40) d_X12_tick_40 (by decide) ?_
    refine Tr.istore (pc := 41) (i := 4) (ls2 := [(4, (0, 0)), (2, (1, r37)), (0, (2, 120)), (1, (0, a1))]) d_X12_tick_41 (by decide) rfl ?_
    have J43 : ∀ (n43 : Nat) (M : Mem) (p43_2 p43_4 : Int), St Tb0 ws_X12_tick_120 as_X12_tick_120 M0 M → ((-9223372036854775808) ≤ p43_2 ∧ p43_2 ≤ 9223372036854775807) → (0 ≤ p43_4 ∧ p43_4 ≤ 6) → rd M 120 59 = g120_59 → rd M 120 61 = g120_61 → rd M 120 62 = g120_62 → rd M 120 68 = u20_120_68 → rd M 122 0 = r37 → rd M 126 0 = g126_0 → (6 - p43_4).toNat < n43 → Tr l K 3 mX12_tick 43 [(0, (2, 120)), (1, (0, a1)), (2, (1, p43_2)), (4, (0, p43_4))] [] M (q_X12_tick_120 a1 M0) := by
      intro n43
      induction n43 with
      | zero => intro M p43_2 p43_4 hS bp43_2 bp43_4 k43_120_59 k43_120_61 k43_120_62 k43_120_68 k43_122_0 k43_126_0 hm43; exact absurd hm43 (Nat.not_lt_zero _)
      | succ n43 J43 =>
        intro M p43_2 p43_4 hS bp43_2 bp43_4 k43_120_59 k43_120_61 k43_120_62 k43_120_68 k43_122_0 k43_126_0 hm43
        refine Tr.iload (pc := 43) (i := 4) d_X12_tick_43 rfl ?_
        refine Tr.aload_n (pc := 45) (i := 0) d_X12_tick_45 rfl rfl ?_
        refine Tr.getf (pc := 46) d_X12_tick_46 f_12_63 (by decide) (by decide) (ty_120 hS.1.1) ?_
        refine Tr.tp 126 (fx_120_17 hS.1.1) ?_
        refine Tr.aload_n (pc := 49) (i := 0) d_X12_tick_49 rfl rfl ?_
        refine Tr.getf (pc := 50) d_X12_tick_50 f_12_48 (by decide) (by decide) (ty_120 hS.1.1) ?_
        refine Tr.tp 0 ((St.kp hS (by decide) (by decide) (by decide)).trans en_120_12) ?_
        refine Tr.iald (pc := 53) d_X12_tick_53 (ty_126 hS.1.1) (by omega) (by omega) ?_
        refine Tr.tp g126_0 k43_126_0 ?_
        refine Tr.icmp_ge (pc := 54) (tgt := 79) d_X12_tick_54 rfl (fun c54 => ?_) (fun c54 => ?_)
        · refine Tr.aload_n (pc := 79) (i := 0) d_X12_tick_79 rfl rfl ?_
          refine Tr.getf (pc := 80) d_X12_tick_80 f_12_219 (by decide) (by decide) (ty_120 hS.1.1) ?_
          refine Tr.tp u20_120_68 k43_120_68 ?_
          have J119 : ∀ (M : Mem) (u119_120_68 : Int), St Tb0 ws_X12_tick_120 as_X12_tick_120 M0 M → (0 ≤ u119_120_68 ∧ u119_120_68 ≤ 2) → rd M 120 59 = g120_59 → rd M 120 61 = g120_61 → rd M 120 62 = g120_62 → rd M 120 68 = u119_120_68 → rd M 122 0 = r37 → rd M 126 0 = g126_0 → (a1 = -1 ∨ g120_62 ≠ 2000 ∨ 1 ≤ u119_120_68) → (a1 ≠ -1 ∨ u119_120_68 = g120_68) → Tr l K 3 mX12_tick 119 [(0, (2, 120)), (1, (0, a1)), (2, (1, p43_2))] [] M (q_X12_tick_120 a1 M0) := by
            intro M u119_120_68 hS bu119_120_68 k119_120_59 k119_120_61 k119_120_62 k119_120_68 k119_122_0 k119_126_0 t119_0 t119_1
            refine Tr.aload_n (pc := 119) (i := 0) d_X12_tick_119 rfl rfl ?_
            refine Tr.getf (pc := 120) d_X12_tick_120 f_12_219 (by decide) (by decide) (ty_120 hS.1.1) ?_
            refine Tr.tp u119_120_68 k119_120_68 ?_
            refine Tr.if_le (pc := 123) (tgt := 128) d_X12_tick_123 rfl (fun c123 => ?_) (fun c123 => ?_)
            · refine Tr.iconst (pc := 128) d_X12_tick_128 (by decide) ?_
              refine Tr.istore (pc := 129) (i := 4) (ls2 := [(4, (0, 0)), (0, (2, 120)), (1, (0, a1)), (2, (1, p43_2))]) d_X12_tick_129 (by decide) rfl ?_
              have J131 : ∀ (n131 : Nat) (M : Mem) (p131_4 : Int), St Tb0 ws_X12_tick_120 as_X12_tick_120 M0 M → (0 ≤ p131_4 ∧ p131_4 ≤ 6) → rd M 120 59 = g120_59 → rd M 120 61 = g120_61 → rd M 120 62 = g120_62 → rd M 120 68 = u119_120_68 → rd M 122 0 = r37 → rd M 126 0 = g126_0 → (6 - p131_4).toNat < n131 → Tr l K 3 mX12_tick 131 [(0, (2, 120)), (1, (0, a1)), (2, (1, p43_2)), (4, (0, p131_4))] [] M (q_X12_tick_120 a1 M0) := by
                intro n131
                induction n131 with
                | zero => intro M p131_4 hS bp131_4 k131_120_59 k131_120_61 k131_120_62 k131_120_68 k131_122_0 k131_126_0 hm131; exact absurd hm131 (Nat.not_lt_zero _)
                | succ n131 J131 =>
                  intro M p131_4 hS bp131_4 k131_120_59 k131_120_61 k131_120_62 k131_120_68 k131_122_0 k131_126_0 hm131
                  refine Tr.iload (pc := 131) (i := 4) d_X12_tick_131 rfl ?_
                  refine Tr.aload_n (pc := 133) (i := 0) d_X12_tick_133 rfl rfl ?_
                  refine Tr.getf (pc := 134) d_X12_tick_134 f_12_63 (by decide) (by decide) (ty_120 hS.1.1) ?_
                  refine Tr.tp 126 (fx_120_17 hS.1.1) ?_
                  refine Tr.aload_n (pc := 137) (i := 0) d_X12_tick_137 rfl rfl ?_
                  refine Tr.getf (pc := 138) d_X12_tick_138 f_12_48 (by decide) (by decide) (ty_120 hS.1.1) ?_
                  refine Tr.tp 0 ((St.kp hS (by decide) (by decide) (by decide)).trans en_120_12) ?_
                  refine Tr.iald (pc := 141) d_X12_tick_141 (ty_126 hS.1.1) (by omega) (by omega) ?_
                  refine Tr.tp g126_0 k131_126_0 ?_
                  refine Tr.icmp_ge (pc := 142) (tgt := 297) d_X12_tick_142 rfl (fun c142 => ?_) (fun c142 => ?_)
                  · refine Tr.aload_n (pc := 297) (i := 0) d_X12_tick_297 rfl rfl ?_
                    refine Tr.getz (pc := 298) d_X12_tick_298 f_12_225 (by decide) (ty_120 hS.1.1) ?_
                    refine Tr.gen (P := fun v => 0 ≤ v ∧ v ≤ 1) (ir_120_70 hS.1.2.1) (fun r298 er298 br298 => ?_)
                    have J314 : ∀ (M : Mem), St Tb0 ws_X12_tick_120 as_X12_tick_120 M0 M → rd M 120 59 = g120_59 → rd M 120 61 = g120_61 → rd M 120 62 = g120_62 → rd M 120 68 = u119_120_68 → rd M 120 70 = r298 → rd M 122 0 = r37 → rd M 126 0 = g126_0 → Tr l K 3 mX12_tick 314 [(0, (2, 120)), (2, (1, p43_2))] [] M (q_X12_tick_120 a1 M0) := by
                      intro M  hS  k314_120_59 k314_120_61 k314_120_62 k314_120_68 k314_120_70 k314_122_0 k314_126_0
                      refine Tr.aload_n (pc := 314) (i := 0) d_X12_tick_314 rfl rfl ?_
                      refine Tr.dup (pc := 315) d_X12_tick_315 ne21 ?_
                      refine Tr.getf (pc := 316) d_X12_tick_316 f_12_204 (by decide) (by decide) (ty_120 hS.1.1) ?_
                      refine Tr.gen (P := fun v => (-9223372036854775808) ≤ v ∧ v ≤ 9223372036854775807) (ir_120_63 hS.1.2.1) (fun r316 er316 br316 => ?_)
                      refine Tr.lload_n (pc := 319) (i := 2) d_X12_tick_319 rfl rfl ?_
                      refine Tr.ladd (pc := 320) d_X12_tick_320 ?_
                      refine Tr.gen (P := fun v => (-9223372036854775808) ≤ v ∧ v ≤ 9223372036854775807) (w64_b _) (fun r320 er320 br320 => ?_)
                      refine Tr.putfS (pc := 321) (P := St Tb0 ws_X12_tick_120 as_X12_tick_120 M0) d_X12_tick_321 f_12_204 (by decide) (by decide) (ty_120 hS.1.1) (st_120_63 hS (by decide) (by omega) (Tb0.of hS.1.2.2.2.2 (fun _ => rd_wb _ rfl) (rd_wb _ rfl))) (fun M321 hS w321 => ?_)
                      refine Tr.aload_n (pc := 324) (i := 0) d_X12_tick_324 rfl rfl ?_
                      refine Tr.dup (pc := 325) d_X12_tick_325 ne21 ?_
                      refine Tr.getf (pc := 326) d_X12_tick_326 f_12_201 (by decide) (by decide) (ty_120 hS.1.1) ?_
                      refine Tr.tp g120_62 ((Wr.b w321 rfl).trans k314_120_62) ?_
                      refine Tr.iconst (pc := 329) d_X12_tick_329 (by decide) ?_
                      refine Tr.iadd (pc := 330) d_X12_tick_330 ?_
                      refine Tr.tp (g120_62 + 1) ((w32_id (by omega)).trans (by omega)) ?_
                      refine Tr.putfS (pc := 331) (P := St Tb0 ws_X12_tick_120 as_X12_tick_120 M0) d_X12_tick_331 f_12_201 (by decide) (by decide) (ty_120 hS.1.1) (st_120_62 hS (by decide) (by omega) (Tb0.of hS.1.2.2.2.2 (fun _ => rd_wb _ rfl) (rd_wb _ rfl))) (fun M331 hS w331 => ?_)
                      refine Tr.iconst (pc := 334) d_X12_tick_334 (by decide) ?_
                      have kr_120_59 : rd M331 120 59 = g120_59 := ((Wr.b w331 rfl).trans ((Wr.b w321 rfl).trans k314_120_59))
                      have kr_120_62 : rd M331 120 62 = (g120_62 + 1) := w331.1
                      have kr_120_68 : rd M331 120 68 = u119_120_68 := ((Wr.b w331 rfl).trans ((Wr.b w321 rfl).trans k314_120_68))
                      exact Tr.zret (pc := 335) d_X12_tick_335 rfl (by omega) ⟨hS, _, rfl, by omega, by omega, by omega, by omega, by omega⟩
                    refine Tr.if_eq (pc := 301) (tgt := 314) d_X12_tick_301 rfl (fun c301 => ?_) (fun c301 => ?_)
                    · refine Tr.pick [0, 2] (ls2 := [(0, (2, 120)), (2, (1, p43_2))]) rfl ?_
                      exact J314 _ hS k131_120_59 k131_120_61 k131_120_62 k131_120_68 er298 k131_122_0 k131_126_0
                    · refine Tr.aload_n (pc := 304) (i := 0) d_X12_tick_304 rfl rfl ?_
                      refine Tr.getf (pc := 305) d_X12_tick_305 f_12_228 (by decide) (by decide) (ty_120 hS.1.1) ?_
                      refine Tr.tp 162 (fx_120_71 hS.1.1) ?_
                      refine Tr.aload_n (pc := 308) (i := 0) d_X12_tick_308 rfl rfl ?_
                      refine Tr.getf (pc := 309) d_X12_tick_309 f_12_201 (by decide) (by decide) (ty_120 hS.1.1) ?_
                      refine Tr.tp g120_62 k131_120_62 ?_
                      refine Tr.iload_n (pc := 312) (i := 1) d_X12_tick_312 rfl rfl ?_
                      refine Tr.iastS (pc := 313) (P := St Tb0 ws_X12_tick_120 as_X12_tick_120 M0) d_X12_tick_313 (ty_162 hS.1.1) (by omega) (by omega) (sa_162 hS (by decide) (by omega) (Tb0.of hS.1.2.2.2.2 (fun _ => rd_wb _ rfl) (rd_wb _ rfl))) (fun M313 hS w313 => ?_)
                      refine Tr.pick [0, 2] (ls2 := [(0, (2, 120)), (2, (1, p43_2))]) rfl ?_
                      exact J314 _ hS ((Wr.b w313 rfl).trans k131_120_59) ((Wr.b w313 rfl).trans k131_120_61) ((Wr.b w313 rfl).trans k131_120_62) ((Wr.b w313 rfl).trans k131_120_68) ((Wr.b w313 rfl).trans er298) ((Wr.b w313 rfl).trans k131_122_0) ((Wr.b w313 rfl).trans k131_126_0)
                  · refine Tr.aload_n (pc := 145) (i := 0) d_X12_tick_145 rfl rfl ?_
                    refine Tr.iload (pc := 146) (i := 4) d_X12_tick_146 rfl ?_
                    refine Tr.callV (pc := 148) (as := [_]) d_X12_tick_148 s_12_571 ok_X12_stateOf rfl rfl (Nat.le_of_ble_eq_true rfl) (Nat.le_of_ble_eq_true rfl) (by decide) (ty_120 hS.1.1) ?_
                    refine Tr.imp (Tr.deep (by decide) (sp_X12_stateOf_120 hS.1.wk p131_4 (by omega))) ?_
                    rintro M148 _ ⟨h148, r148, rfl, lr148, ur148, z148_0⟩
                    have h148 := St.rn h148 (Tb0.of hS.1.2.2.2.2 (fun _ => (St.ka h148 (by decide) (by decide) (by decide))) (St.kp h148 (by decide) (by decide) (by decide)))
                    have hS := St.tr hS h148 (by decide) (by decide)
                    have ka148_120_59 : rd M148 120 59 = g120_59 := ((St.kp h148 (by decide) (by decide) (by decide)).trans k131_120_59)
                    have ka148_120_61 : rd M148 120 61 = g120_61 := ((St.kp h148 (by decide) (by decide) (by decide)).trans k131_120_61)
                    refine Tr.sc [(0, r148)] rfl ?_
                    obtain ⟨th156, eth156⟩ : ∃ v, rd M 156 p131_4 = v := ⟨_, rfl⟩
                    have bth156 : 0 ≤ th156 ∧ th156 ≤ 1 := by rw [← eth156, ← show rd M148 156 p131_4 = rd M 156 p131_4 from St.ka h148 (by decide) (by decide) (by decide)]; exact ar_156 hS.1.2.1 _
                    obtain ⟨th158, eth158⟩ : ∃ v, rd M 158 p131_4 = v := ⟨_, rfl⟩
                    have bth158 : (-2147483648) ≤ th158 ∧ th158 ≤ 2147483647 := by rw [← eth158, ← show rd M148 158 p131_4 = rd M 158 p131_4 from St.ka h148 (by decide) (by decide) (by decide)]; exact ar_158 hS.1.2.1 _
                    refine Tr.istore (pc := 151) (i := 5) (ls2 := [(5, (0, r148)), (0, (2, 120)), (1, (0, a1)), (2, (1, p43_2)), (4, (0, p131_4))]) d_X12_tick_151 (by decide) rfl ?_
                    refine Tr.aload_n (pc := 153) (i := 0) d_X12_tick_153 rfl rfl ?_
                    refine Tr.getf (pc := 154) d_X12_tick_154 f_12_222 (by decide) (by decide) (ty_120 hS.1.1) ?_
                    refine Tr.tp 161 (fx_120_69 hS.1.1) ?_
                    refine Tr.iconst (pc := 157) d_X12_tick_157 (by decide) ?_
                    refine Tr.iload (pc := 158) (i := 4) d_X12_tick_158 rfl ?_
                    refine Tr.imul (pc := 160) d_X12_tick_160 ?_
                    refine Tr.tp (4 * p131_4) ((w32_id (by omega)).trans (by omega)) ?_
                    refine Tr.iload (pc := 161) (i := 5) d_X12_tick_161 rfl ?_
                    refine Tr.iadd (pc := 163) d_X12_tick_163 ?_
                    refine Tr.tp (4 * p131_4 + r148) ((w32_id (by omega)).trans (by omega)) ?_
                    refine Tr.dup2 (pc := 164) d_X12_tick_164 ne01 ne21 ?_
                    refine Tr.iald (pc := 165) d_X12_tick_165 (ty_161 hS.1.1) (by omega) (by omega) ?_
                    refine Tr.gen (P := fun v => (-2147483648) ≤ v ∧ v ≤ 2147483647) (ar_161 hS.1.2.1 _) (fun r165 er165 br165 => ?_)
                    refine Tr.iconst (pc := 166) d_X12_tick_166 (by decide) ?_
                    refine Tr.iadd (pc := 167) d_X12_tick_167 ?_
                    refine Tr.gen (P := fun v => (-2147483648) ≤ v ∧ v ≤ 2147483647) (w32_b _) (fun r167 er167 br167 => ?_)
                    refine Tr.iastS (pc := 168) (P := St Tb0 ws_X12_tick_120 as_X12_tick_120 M0) d_X12_tick_168 (ty_161 hS.1.1) (by omega) (by omega) (sa_161 hS (by decide) (by omega) (Tb0.of hS.1.2.2.2.2 (fun _ => rd_wb _ rfl) (rd_wb _ rfl))) (fun M168 hS w168 => ?_)
                    refine Tr.aload_n (pc := 169) (i := 0) d_X12_tick_169 rfl rfl ?_
                    refine Tr.getz (pc := 170) d_X12_tick_170 f_12_225 (by decide) (ty_120 hS.1.1) ?_
                    refine Tr.gen (P := fun v => 0 ≤ v ∧ v ≤ 1) (ir_120_70 hS.1.2.1) (fun r170 er170 br170 => ?_)
                    have J264 : ∀ (M : Mem), St Tb0 ws_X12_tick_120 as_X12_tick_120 M0 M → rd M 120 59 = g120_59 → rd M 120 61 = g120_61 → rd M 120 62 = g120_62 → rd M 120 68 = u119_120_68 → rd M 120 70 = r170 → rd M 122 0 = r37 → rd M 126 0 = g126_0 → rd M 156 p131_4 = th156 → rd M 158 p131_4 = th158 → rd M 161 (4 * p131_4 + r148) = r167 → Tr l K 3 mX12_tick 264 [(0, (2, 120)), (1, (0, a1)), (2, (1, p43_2)), (4, (0, p131_4)), (5, (0, r148))] [] M (q_X12_tick_120 a1 M0) := by
                      intro M  hS  k264_120_59 k264_120_61 k264_120_62 k264_120_68 k264_120_70 k264_122_0 k264_126_0 k264_156_p131_410 k264_158_p131_410 k264_161_p131_44r14810
                      refine Tr.iload (pc := 264) (i := 5) d_X12_tick_264 rfl ?_
                      refine Tr.iconst (pc := 266) d_X12_tick_266 (by decide) ?_
                      have J291 : ∀ (M : Mem), St Tb0 ws_X12_tick_120 as_X12_tick_120 M0 M → rd M 120 59 = g120_59 → rd M 120 61 = g120_61 → rd M 120 62 = g120_62 → rd M 120 68 = u119_120_68 → rd M 120 70 = r170 → rd M 122 0 = r37 → rd M 126 0 = g126_0 → rd M 156 p131_4 = th156 → rd M 161 (4 * p131_4 + r148) = r167 → Tr l K 3 mX12_tick 291 [(0, (2, 120)), (1, (0, a1)), (2, (1, p43_2)), (4, (0, p131_4))] [] M (q_X12_tick_120 a1 M0) := by
                        intro M  hS  k291_120_59 k291_120_61 k291_120_62 k291_120_68 k291_120_70 k291_122_0 k291_126_0 k291_156_p131_410 k291_161_p131_44r14810
                        refine Tr.iincV (pc := 291) (n2 := (p131_4 + 1)) (ls2 := [(4, (0, (p131_4 + 1))), (0, (2, 120)), (1, (0, a1)), (2, (1, p43_2))]) d_X12_tick_291 rfl (by decide) ((w32_id (by omega)).trans (by omega)) rfl ?_
                        refine Tr.goto (pc := 294) (tgt := 131) d_X12_tick_294 rfl ?_
                        refine Tr.pick [1, 2, 3, 0] (ls2 := [(0, (2, 120)), (1, (0, a1)), (2, (1, p43_2)), (4, (0, (p131_4 + 1)))]) rfl ?_
                        exact J131 _ _ hS (by omega) k291_120_59 k291_120_61 k291_120_62 k291_120_68 k291_122_0 k291_126_0 (by omega)
                      refine Tr.icmp_ne (pc := 267) (tgt := 291) d_X12_tick_267 rfl (fun c267 => ?_) (fun c267 => ?_)
                      · refine Tr.pick [0, 1, 2, 3] (ls2 := [(0, (2, 120)), (1, (0, a1)), (2, (1, p43_2)), (4, (0, p131_4))]) rfl ?_
                        exact J291 _ hS k264_120_59 k264_120_61 k264_120_62 k264_120_68 k264_120_70 k264_122_0 k264_126_0 k264_156_p131_410 k264_161_p131_44r14810
                      · refine Tr.aload_n (pc := 270) (i := 0) d_X12_tick_270 rfl rfl ?_
                        refine Tr.getf (pc := 271) d_X12_tick_271 f_12_177 (by decide) (by decide) (ty_120 hS.1.1) ?_
                        refine Tr.tp 156 (fx_120_54 hS.1.1) ?_
                        refine Tr.iload (pc := 274) (i := 4) d_X12_tick_274 rfl ?_
                        refine Tr.zald (pc := 276) d_X12_tick_276 (ty_156 hS.1.1) (by omega) (by omega) ?_
                        refine Tr.tp th156 k264_156_p131_410 ?_
                        refine Tr.if_ne (pc := 277) (tgt := 291) d_X12_tick_277 rfl (fun c277 => ?_) (fun c277 => ?_)
                        · refine Tr.pick [0, 1, 2, 3] (ls2 := [(0, (2, 120)), (1, (0, a1)), (2, (1, p43_2)), (4, (0, p131_4))]) rfl ?_
                          exact J291 _ hS k264_120_59 k264_120_61 k264_120_62 k264_120_68 k264_120_70 k264_122_0 k264_126_0 k264_156_p131_410 k264_161_p131_44r14810
                        · refine Tr.aload_n (pc := 280) (i := 0) d_X12_tick_280 rfl rfl ?_
                          refine Tr.getf (pc := 281) d_X12_tick_281 f_12_183 (by decide) (by decide) (ty_120 hS.1.1) ?_
                          refine Tr.tp 158 (fx_120_56 hS.1.1) ?_
                          refine Tr.iload (pc := 284) (i := 4) d_X12_tick_284 rfl ?_
                          refine Tr.dup2 (pc := 286) d_X12_tick_286 ne01 ne21 ?_
                          refine Tr.iald (pc := 287) d_X12_tick_287 (ty_158 hS.1.1) (by omega) (by omega) ?_
                          refine Tr.tp th158 k264_158_p131_410 ?_
                          refine Tr.iconst (pc := 288) d_X12_tick_288 (by decide) ?_
                          refine Tr.isub (pc := 289) d_X12_tick_289 ?_
                          refine Tr.tp (th158 - 1) ((w32_id (by omega)).trans (by omega)) ?_
                          refine Tr.iastS (pc := 290) (P := St Tb0 ws_X12_tick_120 as_X12_tick_120 M0) d_X12_tick_290 (ty_158 hS.1.1) (by omega) (by omega) (sa_158 hS (by decide) (by omega) (Tb0_wr hS.1.2.2.2.2 (fun i0 i1 => by have h8 := hS.1.2.2.2.2 _ i0 i1; omega))) (fun M290 hS w290 => ?_)
                          refine Tr.pick [0, 1, 2, 3] (ls2 := [(0, (2, 120)), (1, (0, a1)), (2, (1, p43_2)), (4, (0, p131_4))]) rfl ?_
                          exact J291 _ hS ((Wr.b w290 rfl).trans k264_120_59) ((Wr.b w290 rfl).trans k264_120_61) ((Wr.b w290 rfl).trans k264_120_62) ((Wr.b w290 rfl).trans k264_120_68) ((Wr.b w290 rfl).trans k264_120_70) ((Wr.b w290 rfl).trans k264_122_0) ((Wr.b w290 rfl).trans k264_126_0) ((Wr.b w290 rfl).trans k264_156_p131_410) ((Wr.b w290 rfl).trans k264_161_p131_44r14810)
                    refine Tr.if_eq (pc := 173) (tgt := 264) d_X12_tick_173 rfl (fun c173 => ?_) (fun c173 => ?_)
                    · refine Tr.pick [1, 2, 3, 4, 0] (ls2 := [(0, (2, 120)), (1, (0, a1)), (2, (1, p43_2)), (4, (0, p131_4)), (5, (0, r148))]) rfl ?_
                      exact J264 _ hS ((Wr.b w168 rfl).trans ((St.kp h148 (by decide) (by decide) (by decide)).trans k131_120_59)) ((Wr.b w168 rfl).trans ((St.kp h148 (by decide) (by decide) (by decide)).trans k131_120_61)) ((Wr.b w168 rfl).trans ((St.kp h148 (by decide) (by decide) (by decide)).trans k131_120_62)) ((Wr.b w168 rfl).trans ((St.kp h148 (by decide) (by decide) (by decide)).trans k131_120_68)) er170 ((Wr.b w168 rfl).trans ((St.kp h148 (by decide) (by decide) (by decide)).trans k131_122_0)) ((Wr.b w168 rfl).trans ((St.kp h148 (by decide) (by decide) (by decide)).trans k131_126_0)) ((Wr.b w168 rfl).trans ((St.ka h148 (by decide) (by decide) (by decide)).trans eth156)) ((Wr.b w168 rfl).trans ((St.ka h148 (by decide) (by decide) (by decide)).trans eth158)) w168.1
                    · refine Tr.aload_n (pc := 176) (i := 0) d_X12_tick_176 rfl rfl ?_
                      refine Tr.getf (pc := 177) d_X12_tick_177 f_12_231 (by decide) (by decide) (ty_120 hS.1.1) ?_
                      refine Tr.tp 163 (fx_120_72 hS.1.1) ?_
                      refine Tr.sipush (pc := 180) d_X12_tick_180 rfl (by decide) ?_
                      refine Tr.iload (pc := 183) (i := 4) d_X12_tick_183 rfl ?_
                      refine Tr.imul (pc := 185) d_X12_tick_185 ?_
                      refine Tr.tp (2100 * p131_4) ((w32_id (by omega)).trans (by omega)) ?_
                      refine Tr.aload_n (pc := 186) (i := 0) d_X12_tick_186 rfl rfl ?_
                      refine Tr.getf (pc := 187) d_X12_tick_187 f_12_201 (by decide) (by decide) (ty_120 hS.1.1) ?_
                      refine Tr.tp g120_62 ((Wr.b w168 rfl).trans ((St.kp h148 (by decide) (by decide) (by decide)).trans k131_120_62)) ?_
                      refine Tr.iadd (pc := 190) d_X12_tick_190 ?_
                      refine Tr.tp (g120_62 + 2100 * p131_4) ((w32_id (by omega)).trans (by omega)) ?_
                      refine Tr.iload (pc := 191) (i := 5) d_X12_tick_191 rfl ?_
                      refine Tr.iastS (pc := 193) (P := St Tb0 ws_X12_tick_120 as_X12_tick_120 M0) d_X12_tick_193 (ty_163 hS.1.1) (by omega) (by omega) (sa_163 hS (by decide) (by omega) (Tb0.of hS.1.2.2.2.2 (fun _ => rd_wb _ rfl) (rd_wb _ rfl))) (fun M193 hS w193 => ?_)
                      refine Tr.aload_n (pc := 194) (i := 0) d_X12_tick_194 rfl rfl ?_
                      refine Tr.getf (pc := 195) d_X12_tick_195 f_12_234 (by decide) (by decide) (ty_120 hS.1.1) ?_
                      refine Tr.tp 164 (fx_120_73 hS.1.1) ?_
                      refine Tr.sipush (pc := 198) d_X12_tick_198 rfl (by decide) ?_
                      refine Tr.iload (pc := 201) (i := 4) d_X12_tick_201 rfl ?_
                      refine Tr.imul (pc := 203) d_X12_tick_203 ?_
                      refine Tr.tp (2100 * p131_4) ((w32_id (by omega)).trans (by omega)) ?_
                      refine Tr.aload_n (pc := 204) (i := 0) d_X12_tick_204 rfl rfl ?_
                      refine Tr.getf (pc := 205) d_X12_tick_205 f_12_201 (by decide) (by decide) (ty_120 hS.1.1) ?_
                      refine Tr.tp g120_62 ((Wr.b w193 rfl).trans ((Wr.b w168 rfl).trans ((St.kp h148 (by decide) (by decide) (by decide)).trans k131_120_62))) ?_
                      refine Tr.iadd (pc := 208) d_X12_tick_208 ?_
                      refine Tr.tp (g120_62 + 2100 * p131_4) ((w32_id (by omega)).trans (by omega)) ?_
                      refine Tr.iload (pc := 209) (i := 5) d_X12_tick_209 rfl ?_
                      refine Tr.iconst (pc := 211) d_X12_tick_211 (by decide) ?_
                      have J226 : ∀ (M : Mem) (q226_2 : Int), St Tb0 ws_X12_tick_120 as_X12_tick_120 M0 M → ((-1) ≤ q226_2 ∧ q226_2 ≤ 59) → rd M 120 59 = g120_59 → rd M 120 61 = g120_61 → rd M 120 62 = g120_62 → rd M 120 68 = u119_120_68 → rd M 120 70 = r170 → rd M 122 0 = r37 → rd M 126 0 = g126_0 → rd M 156 p131_4 = th156 → rd M 158 p131_4 = th158 → rd M 161 (4 * p131_4 + r148) = r167 → rd M 163 (g120_62 + 2100 * p131_4) = r148 → Tr l K 3 mX12_tick 226 [(0, (2, 120)), (1, (0, a1)), (2, (1, p43_2)), (4, (0, p131_4)), (5, (0, r148))] [(0, q226_2), (0, (g120_62 + 2100 * p131_4)), (2, 164)] M (q_X12_tick_120 a1 M0) := by
                        intro M q226_2 hS bq226_2 k226_120_59 k226_120_61 k226_120_62 k226_120_68 k226_120_70 k226_122_0 k226_126_0 k226_156_p131_410 k226_158_p131_410 k226_161_p131_44r14810 k226_163_g120_621p131_421000
                        refine Tr.iastS (pc := 226) (P := St Tb0 ws_X12_tick_120 as_X12_tick_120 M0) d_X12_tick_226 (ty_164 hS.1.1) (by omega) (by omega) (sa_164 hS (by decide) (by omega) (Tb0.of hS.1.2.2.2.2 (fun _ => rd_wb _ rfl) (rd_wb _ rfl))) (fun M226 hS w226 => ?_)
                        refine Tr.aload_n (pc := 227) (i := 0) d_X12_tick_227 rfl rfl ?_
                        refine Tr.getf (pc := 228) d_X12_tick_228 f_12_237 (by decide) (by decide) (ty_120 hS.1.1) ?_
                        refine Tr.tp 165 (fx_120_74 hS.1.1) ?_
                        refine Tr.sipush (pc := 231) d_X12_tick_231 rfl (by decide) ?_
                        refine Tr.iload (pc := 234) (i := 4) d_X12_tick_234 rfl ?_
                        refine Tr.imul (pc := 236) d_X12_tick_236 ?_
                        refine Tr.tp (2100 * p131_4) ((w32_id (by omega)).trans (by omega)) ?_
                        refine Tr.aload_n (pc := 237) (i := 0) d_X12_tick_237 rfl rfl ?_
                        refine Tr.getf (pc := 238) d_X12_tick_238 f_12_201 (by decide) (by decide) (ty_120 hS.1.1) ?_
                        refine Tr.tp g120_62 ((Wr.b w226 rfl).trans k226_120_62) ?_
                        refine Tr.iadd (pc := 241) d_X12_tick_241 ?_
                        refine Tr.tp (g120_62 + 2100 * p131_4) ((w32_id (by omega)).trans (by omega)) ?_
                        refine Tr.aload_n (pc := 242) (i := 0) d_X12_tick_242 rfl rfl ?_
                        refine Tr.getf (pc := 243) d_X12_tick_243 f_12_177 (by decide) (by decide) (ty_120 hS.1.1) ?_
                        refine Tr.tp 156 (fx_120_54 hS.1.1) ?_
                        refine Tr.iload (pc := 246) (i := 4) d_X12_tick_246 rfl ?_
                        refine Tr.zald (pc := 248) d_X12_tick_248 (ty_156 hS.1.1) (by omega) (by omega) ?_
                        refine Tr.tp th156 ((Wr.b w226 rfl).trans k226_156_p131_410) ?_
                        have J263 : ∀ (M : Mem) (q263_2 : Int), St Tb0 ws_X12_tick_120 as_X12_tick_120 M0 M → ((-1) ≤ q263_2 ∧ q263_2 ≤ 59) → rd M 120 59 = g120_59 → rd M 120 61 = g120_61 → rd M 120 62 = g120_62 → rd M 120 68 = u119_120_68 → rd M 120 70 = r170 → rd M 122 0 = r37 → rd M 126 0 = g126_0 → rd M 156 p131_4 = th156 → rd M 158 p131_4 = th158 → rd M 161 (4 * p131_4 + r148) = r167 → rd M 163 (g120_62 + 2100 * p131_4) = r148 → rd M 164 (g120_62 + 2100 * p131_4) = q226_2 → Tr l K 3 mX12_tick 263 [(0, (2, 120)), (1, (0, a1)), (2, (1, p43_2)), (4, (0, p131_4)), (5, (0, r148))] [(0, q263_2), (0, (g120_62 + 2100 * p131_4)), (2, 165)] M (q_X12_tick_120 a1 M0) := by
                          intro M q263_2 hS bq263_2 k263_120_59 k263_120_61 k263_120_62 k263_120_68 k263_120_70 k263_122_0 k263_126_0 k263_156_p131_410 k263_158_p131_410 k263_161_p131_44r14810 k263_163_g120_621p131_421000 k263_164_g120_621p131_421000
                          refine Tr.iastS (pc := 263) (P := St Tb0 ws_X12_tick_120 as_X12_tick_120 M0) d_X12_tick_263 (ty_165 hS.1.1) (by omega) (by omega) (sa_165 hS (by decide) (by omega) (Tb0.of hS.1.2.2.2.2 (fun _ => rd_wb _ rfl) (rd_wb _ rfl))) (fun M263 hS w263 => ?_)
                          refine Tr.pick [0, 1, 2, 3, 4] (ls2 := [(0, (2, 120)), (1, (0, a1)), (2, (1, p43_2)), (4, (0, p131_4)), (5, (0, r148))]) rfl ?_
                          exact J264 _ hS ((Wr.b w263 rfl).trans k263_120_59) ((Wr.b w263 rfl).trans k263_120_61) ((Wr.b w263 rfl).trans k263_120_62) ((Wr.b w263 rfl).trans k263_120_68) ((Wr.b w263 rfl).trans k263_120_70) ((Wr.b w263 rfl).trans k263_122_0) ((Wr.b w263 rfl).trans k263_126_0) ((Wr.b w263 rfl).trans k263_156_p131_410) ((Wr.b w263 rfl).trans k263_158_p131_410) ((Wr.b w263 rfl).trans k263_161_p131_44r14810)
                        refine Tr.if_eq (pc := 249) (tgt := 262) d_X12_tick_249 rfl (fun c249 => ?_) (fun c249 => ?_)
                        · refine Tr.iconst (pc := 262) d_X12_tick_262 (by decide) ?_
                          refine Tr.pick [0, 1, 2, 3, 4] (ls2 := [(0, (2, 120)), (1, (0, a1)), (2, (1, p43_2)), (4, (0, p131_4)), (5, (0, r148))]) rfl ?_
                          exact J263 _ _ hS (by omega) ((Wr.b w226 rfl).trans k226_120_59) ((Wr.b w226 rfl).trans k226_120_61) ((Wr.b w226 rfl).trans k226_120_62) ((Wr.b w226 rfl).trans k226_120_68) ((Wr.b w226 rfl).trans k226_120_70) ((Wr.b w226 rfl).trans k226_122_0) ((Wr.b w226 rfl).trans k226_126_0) ((Wr.b w226 rfl).trans k226_156_p131_410) ((Wr.b w226 rfl).trans k226_158_p131_410) ((Wr.b w226 rfl).trans k226_161_p131_44r14810) ((Wr.b w226 rfl).trans k226_163_g120_621p131_421000) w226.1
                        · refine Tr.aload_n (pc := 252) (i := 0) d_X12_tick_252 rfl rfl ?_
                          refine Tr.getf (pc := 253) d_X12_tick_253 f_12_180 (by decide) (by decide) (ty_120 hS.1.1) ?_
                          refine Tr.tp 157 (fx_120_55 hS.1.1) ?_
                          refine Tr.iload (pc := 256) (i := 4) d_X12_tick_256 rfl ?_
                          refine Tr.iald (pc := 258) d_X12_tick_258 (ty_157 hS.1.1) (by omega) (by omega) ?_
                          refine Tr.gen (P := fun v => (-1) ≤ v ∧ v ≤ 59) (ar_157 hS.1.2.1 _) (fun r258 er258 br258 => ?_)
                          refine Tr.goto (pc := 259) (tgt := 263) d_X12_tick_259 rfl ?_
                          refine Tr.pick [0, 1, 2, 3, 4] (ls2 := [(0, (2, 120)), (1, (0, a1)), (2, (1, p43_2)), (4, (0, p131_4)), (5, (0, r148))]) rfl ?_
                          exact J263 _ _ hS (by omega) ((Wr.b w226 rfl).trans k226_120_59) ((Wr.b w226 rfl).trans k226_120_61) ((Wr.b w226 rfl).trans k226_120_62) ((Wr.b w226 rfl).trans k226_120_68) ((Wr.b w226 rfl).trans k226_120_70) ((Wr.b w226 rfl).trans k226_122_0) ((Wr.b w226 rfl).trans k226_126_0) ((Wr.b w226 rfl).trans k226_156_p131_410) ((Wr.b w226 rfl).trans k226_158_p131_410) ((Wr.b w226 rfl).trans k226_161_p131_44r14810) ((Wr.b w226 rfl).trans k226_163_g120_621p131_421000) w226.1
                      refine Tr.icmp_ne (pc := 212) (tgt := 225) d_X12_tick_212 rfl (fun c212 => ?_) (fun c212 => ?_)
                      · refine Tr.iload_n (pc := 225) (i := 1) d_X12_tick_225 rfl rfl ?_
                        refine Tr.pick [1, 2, 3, 4, 0] (ls2 := [(0, (2, 120)), (1, (0, a1)), (2, (1, p43_2)), (4, (0, p131_4)), (5, (0, r148))]) rfl ?_
                        exact J226 _ _ hS (by omega) ((Wr.b w193 rfl).trans ((Wr.b w168 rfl).trans ((St.kp h148 (by decide) (by decide) (by decide)).trans k131_120_59))) ((Wr.b w193 rfl).trans ((Wr.b w168 rfl).trans ((St.kp h148 (by decide) (by decide) (by decide)).trans k131_120_61))) ((Wr.b w193 rfl).trans ((Wr.b w168 rfl).trans ((St.kp h148 (by decide) (by decide) (by decide)).trans k131_120_62))) ((Wr.b w193 rfl).trans ((Wr.b w168 rfl).trans ((St.kp h148 (by decide) (by decide) (by decide)).trans k131_120_68))) ((Wr.b w193 rfl).trans er170) ((Wr.b w193 rfl).trans ((Wr.b w168 rfl).trans ((St.kp h148 (by decide) (by decide) (by decide)).trans k131_122_0))) ((Wr.b w193 rfl).trans ((Wr.b w168 rfl).trans ((St.kp h148 (by decide) (by decide) (by decide)).trans k131_126_0))) ((Wr.b w193 rfl).trans ((Wr.b w168 rfl).trans ((St.ka h148 (by decide) (by decide) (by decide)).trans eth156))) ((Wr.b w193 rfl).trans ((Wr.b w168 rfl).trans ((St.ka h148 (by decide) (by decide) (by decide)).trans eth158))) ((Wr.b w193 rfl).trans w168.1) w193.1
                      · refine Tr.aload_n (pc := 215) (i := 0) d_X12_tick_215 rfl rfl ?_
                        refine Tr.getf (pc := 216) d_X12_tick_216 f_12_186 (by decide) (by decide) (ty_120 hS.1.1) ?_
                        refine Tr.tp 159 (fx_120_57 hS.1.1) ?_
                        refine Tr.iload (pc := 219) (i := 4) d_X12_tick_219 rfl ?_
                        refine Tr.iald (pc := 221) d_X12_tick_221 (ty_159 hS.1.1) (by omega) (by omega) ?_
                        refine Tr.gen (P := fun v => (-1) ≤ v ∧ v ≤ 59) (ar_159 hS.1.2.1 _) (fun r221 er221 br221 => ?_)
                        refine Tr.goto (pc := 222) (tgt := 226) d_X12_tick_222 rfl ?_
                        refine Tr.pick [1, 2, 3, 4, 0] (ls2 := [(0, (2, 120)), (1, (0, a1)), (2, (1, p43_2)), (4, (0, p131_4)), (5, (0, r148))]) rfl ?_
                        exact J226 _ _ hS (by omega) ((Wr.b w193 rfl).trans ((Wr.b w168 rfl).trans ((St.kp h148 (by decide) (by decide) (by decide)).trans k131_120_59))) ((Wr.b w193 rfl).trans ((Wr.b w168 rfl).trans ((St.kp h148 (by decide) (by decide) (by decide)).trans k131_120_61))) ((Wr.b w193 rfl).trans ((Wr.b w168 rfl).trans ((St.kp h148 (by decide) (by decide) (by decide)).trans k131_120_62))) ((Wr.b w193 rfl).trans ((Wr.b w168 rfl).trans ((St.kp h148 (by decide) (by decide) (by decide)).trans k131_120_68))) ((Wr.b w193 rfl).trans er170) ((Wr.b w193 rfl).trans ((Wr.b w168 rfl).trans ((St.kp h148 (by decide) (by decide) (by decide)).trans k131_122_0))) ((Wr.b w193 rfl).trans ((Wr.b w168 rfl).trans ((St.kp h148 (by decide) (by decide) (by decide)).trans k131_126_0))) ((Wr.b w193 rfl).trans ((Wr.b w168 rfl).trans ((St.ka h148 (by decide) (by decide) (by decide)).trans eth156))) ((Wr.b w193 rfl).trans ((Wr.b w168 rfl).trans ((St.ka h148 (by decide) (by decide) (by decide)).trans eth158))) ((Wr.b w193 rfl).trans w168.1) w193.1
              refine Tr.pick [1, 2, 3, 0] (ls2 := [(0, (2, 120)), (1, (0, a1)), (2, (1, p43_2)), (4, (0, 0))]) rfl ?_
              exact J131 _ _ _ hS (by omega) k119_120_59 k119_120_61 k119_120_62 k119_120_68 k119_122_0 k119_126_0 (Nat.lt_succ_self _)
            · refine Tr.iconst (pc := 126) d_X12_tick_126 (by decide) ?_
              have kr_120_59 : rd M 120 59 = g120_59 := k119_120_59
              have kr_120_62 : rd M 120 62 = g120_62 := k119_120_62
              have kr_120_68 : rd M 120 68 = u119_120_68 := k119_120_68
              exact Tr.zret (pc := 127) d_X12_tick_127 rfl (by omega) ⟨hS, _, rfl, by omega, by omega, by omega, by omega, by omega⟩
          refine Tr.if_ne (pc := 83) (tgt := 119) d_X12_tick_83 rfl (fun c83 => ?_) (fun c83 => ?_)
          · refine Tr.pick [0, 1, 2] (ls2 := [(0, (2, 120)), (1, (0, a1)), (2, (1, p43_2))]) rfl ?_
            exact J119 _ _ hS (by omega) k43_120_59 k43_120_61 k43_120_62 k43_120_68 k43_122_0 k43_126_0 (by first | assumption | omega) (by first | assumption | omega)
          · refine Tr.iload_n (pc := 86) (i := 1) d_X12_tick_86 rfl rfl ?_
            refine Tr.iconst (pc := 87) d_X12_tick_87 (by decide) ?_
            refine Tr.icmp_eq (pc := 88) (tgt := 119) d_X12_tick_88 rfl (fun hc => absurd hc (by omega)) (fun _ => ?_)
            refine Tr.aload_n (pc := 91) (i := 0) d_X12_tick_91 rfl rfl ?_
            refine Tr.getf (pc := 92) d_X12_tick_92 f_12_207 (by decide) (by decide) (ty_120 hS.1.1) ?_
            refine Tr.gen (P := fun v => (-9223372036854775808) ≤ v ∧ v ≤ 9223372036854775807) (ir_120_64 hS.1.2.1) (fun r92 er92 br92 => ?_)
            refine Tr.lconst (pc := 95) (v := 0) d_X12_tick_95 rfl (by decide) ?_
            refine Tr.lcmp (pc := 96) d_X12_tick_96 ?_
            refine Tr.gen (P := fun v => (v = 1 ∧ 0 < r92) ∨ (v = 0 ∧ r92 = 0) ∨ (v = -1 ∧ r92 < 0)) (f_lcmp_c _ _) (fun r96 er96 br96 => ?_)
            refine Tr.if_lt (pc := 97) (tgt := 119) d_X12_tick_97 rfl (fun c97 => ?_) (fun c97 => ?_)
            · refine Tr.pick [0, 1, 2] (ls2 := [(0, (2, 120)), (1, (0, a1)), (2, (1, p43_2))]) rfl ?_
              exact J119 _ _ hS (by omega) k43_120_59 k43_120_61 k43_120_62 k43_120_68 k43_122_0 k43_126_0 (by first | assumption | omega) (by first | assumption | omega)
            · refine Tr.lload_n (pc := 100) (i := 2) d_X12_tick_100 rfl rfl ?_
              refine Tr.aload_n (pc := 101) (i := 0) d_X12_tick_101 rfl rfl ?_
              refine Tr.getf (pc := 102) d_X12_tick_102 f_12_207 (by decide) (by decide) (ty_120 hS.1.1) ?_
              refine Tr.tp r92 er92 ?_
              refine Tr.aload_n (pc := 105) (i := 0) d_X12_tick_105 rfl rfl ?_
              refine Tr.getf (pc := 106) d_X12_tick_106 f_12_204 (by decide) (by decide) (ty_120 hS.1.1) ?_
              refine Tr.gen (P := fun v => (-9223372036854775808) ≤ v ∧ v ≤ 9223372036854775807) (ir_120_63 hS.1.2.1) (fun r106 er106 br106 => ?_)
              refine Tr.lsub (pc := 109) d_X12_tick_109 ?_
              refine Tr.gen (P := fun v => (-9223372036854775808) ≤ v ∧ v ≤ 9223372036854775807) (w64_b _) (fun r109 er109 br109 => ?_)
              refine Tr.lcmp (pc := 110) d_X12_tick_110 ?_
              refine Tr.gen (P := fun v => (v = 1 ∧ r109 < p43_2) ∨ (v = 0 ∧ p43_2 = r109) ∨ (v = -1 ∧ p43_2 < r109)) (f_lcmp_c _ _) (fun r110 er110 br110 => ?_)
              refine Tr.if_le (pc := 111) (tgt := 119) d_X12_tick_111 rfl (fun c111 => ?_) (fun c111 => ?_)
              · refine Tr.pick [0, 1, 2] (ls2 := [(0, (2, 120)), (1, (0, a1)), (2, (1, p43_2))]) rfl ?_
                exact J119 _ _ hS (by omega) k43_120_59 k43_120_61 k43_120_62 k43_120_68 k43_122_0 k43_126_0 (by first | assumption | omega) (by first | assumption | omega)
              · refine Tr.aload_n (pc := 114) (i := 0) d_X12_tick_114 rfl rfl ?_
                refine Tr.iconst (pc := 115) d_X12_tick_115 (by decide) ?_
                refine Tr.putfS (pc := 116) (P := St Tb0 ws_X12_tick_120 as_X12_tick_120 M0) d_X12_tick_116 f_12_219 (by decide) (by decide) (ty_120 hS.1.1) (st_120_68 hS (by decide) (by omega) (Tb0.of hS.1.2.2.2.2 (fun _ => rd_wb _ rfl) (rd_wb _ rfl))) (fun M116 hS w116 => ?_)
                refine Tr.pick [0, 1, 2] (ls2 := [(0, (2, 120)), (1, (0, a1)), (2, (1, p43_2))]) rfl ?_
                exact J119 _ _ hS (by omega) ((Wr.b w116 rfl).trans k43_120_59) ((Wr.b w116 rfl).trans k43_120_61) ((Wr.b w116 rfl).trans k43_120_62) w116.1 ((Wr.b w116 rfl).trans k43_122_0) ((Wr.b w116 rfl).trans k43_126_0) (by first | assumption | omega) (by first | assumption | omega)
        · refine Tr.lload_n (pc := 57) (i := 2) d_X12_tick_57 rfl rfl ?_
          refine Tr.aload_n (pc := 58) (i := 0) d_X12_tick_58 rfl rfl ?_
          refine Tr.iload (pc := 59) (i := 4) d_X12_tick_59 rfl ?_
          refine Tr.aload_n (pc := 61) (i := 0) d_X12_tick_61 rfl rfl ?_
          refine Tr.iload (pc := 62) (i := 4) d_X12_tick_62 rfl ?_
          refine Tr.callV (pc := 64) (as := [_]) d_X12_tick_64 s_12_571 ok_X12_stateOf rfl rfl (Nat.le_of_ble_eq_true rfl) (Nat.le_of_ble_eq_true rfl) (by decide) (ty_120 hS.1.1) ?_
          refine Tr.imp (Tr.deep (by decide) (sp_X12_stateOf_120 hS.1.wk p43_4 (by omega))) ?_
          rintro M64 _ ⟨h64, r64, rfl, lr64, ur64, z64_0⟩
          have h64 := St.rn h64 (Tb0.of hS.1.2.2.2.2 (fun _ => (St.ka h64 (by decide) (by decide) (by decide))) (St.kp h64 (by decide) (by decide) (by decide)))
          have hS := St.tr hS h64 (by decide) (by decide)
          have ka64_120_59 : rd M64 120 59 = g120_59 := ((St.kp h64 (by decide) (by decide) (by decide)).trans k43_120_59)
          have ka64_120_61 : rd M64 120 61 = g120_61 := ((St.kp h64 (by decide) (by decide) (by decide)).trans k43_120_61)
          refine Tr.sc [(0, r64), (0, p43_4), (2, 120), (1, p43_2)] rfl ?_
          refine Tr.callV (pc := 67) (as := [_, _]) d_X12_tick_67 s_12_574 ok_X12_sips rfl rfl (Nat.le_of_ble_eq_true rfl) (Nat.le_of_ble_eq_true rfl) (by decide) (ty_120 hS.1.1) ?_
          refine Tr.imp (Tr.deep (by decide) (sp_X12_sips_120 hS.1.wk ((St.kp hS (by decide) (by decide) (by decide)).trans en_120_12) p43_4 (by omega) r64 (by omega) (Bk0.of hF_Bk0 (fun j => (St.ka hS (by decide) (by decide) (by decide))) (fun j => (St.ka hS (by decide) (by decide) (by decide))) (fun j => (St.ka hS (by decide) (by decide) (by decide))) (fun j => (St.ka hS (by decide) (by decide) (by decide))) (fun j => (St.ka hS (by decide) (by decide) (by decide))) (fun j => (St.ka hS (by decide) (by decide) (by decide))) (fun j => (St.ka hS (by decide) (by decide) (by decide))) (fun j => (St.ka hS (by decide) (by decide) (by decide))) (St.kp hS (by decide) (by decide) (by decide)) (St.kp hS (by decide) (by decide) (by decide)) (St.kp hS (by decide) (by decide) (by decide)) (St.kp hS (by decide) (by decide) (by decide))))) ?_
          rintro M67 _ ⟨h67, r67, rfl, lr67, ur67⟩
          have h67 := St.rn h67 (Tb0.of hS.1.2.2.2.2 (fun _ => (St.ka h67 (by decide) (by decide) (by decide))) (St.kp h67 (by decide) (by decide) (by decide)))
          have hS := St.tr hS h67 (by decide) (by decide)
          refine Tr.sc [(0, r67), (1, p43_2)] rfl ?_
          refine Tr.i2l (pc := 70) d_X12_tick_70 ?_
          refine Tr.ladd (pc := 71) d_X12_tick_71 ?_
          refine Tr.gen (P := fun v => (-9223372036854775808) ≤ v ∧ v ≤ 9223372036854775807) (w64_b _) (fun r71 er71 br71 => ?_)
          refine Tr.lstore_n (pc := 72) (i := 2) (ls2 := [(2, (1, r71)), (0, (2, 120)), (1, (0, a1)), (4, (0, p43_4))]) d_X12_tick_72 rfl (by decide) rfl ?_
          refine Tr.iincV (pc := 73) (n2 := (p43_4 + 1)) (ls2 := [(4, (0, (p43_4 + 1))), (2, (1, r71)), (0, (2, 120)), (1, (0, a1))]) d_X12_tick_73 rfl (by decide) ((w32_id (by omega)).trans (by omega)) rfl ?_
          refine Tr.goto (pc := 76) (tgt := 43) d_X12_tick_76 rfl ?_
          refine Tr.pick [2, 3, 1, 0] (ls2 := [(0, (2, 120)), (1, (0, a1)), (2, (1, r71)), (4, (0, (p43_4 + 1)))]) rfl ?_
          exact J43 _ _ _ hS (by omega) (by omega) ((St.kp h67 (by decide) (by decide) (by decide)).trans ((St.kp h64 (by decide) (by decide) (by decide)).trans k43_120_59)) ((St.kp h67 (by decide) (by decide) (by decide)).trans ((St.kp h64 (by decide) (by decide) (by decide)).trans k43_120_61)) ((St.kp h67 (by decide) (by decide) (by decide)).trans ((St.kp h64 (by decide) (by decide) (by decide)).trans k43_120_62)) ((St.kp h67 (by decide) (by decide) (by decide)).trans ((St.kp h64 (by decide) (by decide) (by decide)).trans k43_120_68)) ((St.kp h67 (by decide) (by decide) (by decide)).trans ((St.kp h64 (by decide) (by decide) (by decide)).trans k43_122_0)) ((St.kp h67 (by decide) (by decide) (by decide)).trans ((St.kp h64 (by decide) (by decide) (by decide)).trans k43_126_0)) (by omega)
    refine Tr.pick [2, 3, 1, 0] (ls2 := [(0, (2, 120)), (1, (0, a1)), (2, (1, r37)), (4, (0, 0))]) rfl ?_
    exact J43 _ _ _ _ hS (by omega) (by omega) k20_120_59 k20_120_61 k20_120_62 k20_120_68 er37 k20_126_0 (Nat.lt_succ_self _)
  refine Tr.icmp_eq (pc := 2) (tgt := 20) d_X12_tick_2 rfl (fun hc => absurd hc (by omega)) (fun _ => ?_)
  refine Tr.aload_n (pc := 5) (i := 0) d_X12_tick_5 rfl rfl ?_
  refine Tr.getf (pc := 6) d_X12_tick_6 f_12_201 (by decide) (by decide) (ty_120 hS.1.1) ?_
  refine Tr.tp g120_62 eg120_62 ?_
  refine Tr.sipush (pc := 9) d_X12_tick_9 rfl (by decide) ?_
  refine Tr.icmp_ne (pc := 12) (tgt := 20) d_X12_tick_12 rfl (fun c12 => ?_) (fun c12 => ?_)
  · refine Tr.pick [0, 1] (ls2 := [(0, (2, 120)), (1, (0, a1))]) rfl ?_
    exact J20 _ _ hS (by omega) eg120_59 eg120_61 eg120_62 eg120_68 eg126_0 (by first | assumption | omega) (by first | assumption | omega)
  · refine Tr.aload_n (pc := 15) (i := 0) d_X12_tick_15 rfl rfl ?_
    refine Tr.iconst (pc := 16) d_X12_tick_16 (by decide) ?_
    refine Tr.putfS (pc := 17) (P := St Tb0 ws_X12_tick_120 as_X12_tick_120 M0) d_X12_tick_17 f_12_219 (by decide) (by decide) (ty_120 hS.1.1) (st_120_68 hS (by decide) (by omega) (Tb0.of hS.1.2.2.2.2 (fun _ => rd_wb _ rfl) (rd_wb _ rfl))) (fun M17 hS w17 => ?_)
    refine Tr.pick [0, 1] (ls2 := [(0, (2, 120)), (1, (0, a1))]) rfl ?_
    exact J20 _ _ hS (by omega) ((Wr.b w17 rfl).trans eg120_59) ((Wr.b w17 rfl).trans eg120_61) ((Wr.b w17 rfl).trans eg120_62) w17.1 ((Wr.b w17 rfl).trans eg126_0) (by first | assumption | omega) (by first | assumption | omega)
end
/-! 36.03 -/
section
def ws_X12_tick_120_w1 : List (Int × Int) := [(120, 62), (120, 63)]
def as_X12_tick_120_w1 : List Int := [158, 161, 162, 163, 164, 165]
def q_X12_tick_120_w1 (a1 : Int) (M0 M' : Mem) (r : Option PV) : Prop := St Tb0 ws_X12_tick_120_w1 as_X12_tick_120_w1 M0 M' ∧ ∃ v : Int, r = some (0, v) ∧ 0 ≤ v ∧ v ≤ 1 ∧ ((v = 1 ∧ rd M' 120 62 = rd M0 120 62 + 1 ∧ (a1 = -1 ∨ rd M' 120 62 ≤ 2000)) ∨ (v = 0 ∧ rd M' 120 62 = rd M0 120 62 ∧ 1 ≤ rd M' 120 68)) ∧ (a1 ≠ -1 ∨ rd M' 120 68 = rd M0 120 68) ∧ (rd M' 120 59 = rd M0 120 59) ∧ (v = 1 → ∀ B : Int, 1 ≤ B → (∀ p : Int, 0 ≤ p → p < rd M0 126 0 → rd M0 156 p = 0 → rd M0 158 p ≤ B) → ∀ p : Int, 0 ≤ p → p < rd M' 126 0 → rd M' 156 p = 0 → rd M' 158 p ≤ B - 1)
set_option maxRecDepth 100000 in
set_option maxHeartbeats 4000000 in
theorem sp_X12_tick_120_w1 {l : Launch} {K : EC} {M0 : Mem} (hI : In Tb0 M0) (en_120_12 : rd M0 120 12 = 0) (a1 : Int) (ha1 : (-1) ≤ a1 ∧ a1 ≤ (-1))  (hq0 : rd M0 120 61 ≠ 2 ∨ rd M0 120 59 = -1) (hq1 : rd M0 120 62 ≤ 2000 ∨ (a1 = -1 ∧ rd M0 120 62 ≤ 2049)) (hq2 : rd M0 120 59 = -1) (hF_Bk0 : Bk0 M0) : Tr l K 3 mX12_tick 0 [(0, (2, 120)), (1, (0, a1))] [] M0 (q_X12_tick_120_w1 a1 M0) := by
  have hS : St Tb0 ws_X12_tick_120_w1 as_X12_tick_120_w1 M0 M0 := St.rf hI
  obtain ⟨g120_62, eg120_62⟩ : ∃ v, rd M0 120 62 = v := ⟨_, rfl⟩
  have bg120_62 : 0 ≤ g120_62 ∧ g120_62 ≤ 2060 := by rw [← eg120_62]; exact ir_120_62 hI.2.1
  obtain ⟨g120_68, eg120_68⟩ : ∃ v, rd M0 120 68 = v := ⟨_, rfl⟩
  have bg120_68 : 0 ≤ g120_68 ∧ g120_68 ≤ 2 := by rw [← eg120_68]; exact ir_120_68 hI.2.1
  obtain ⟨g120_59, eg120_59⟩ : ∃ v, rd M0 120 59 = v := ⟨_, rfl⟩
  have bg120_59 : (-1) ≤ g120_59 ∧ g120_59 ≤ 5 := by rw [← eg120_59]; exact ir_120_59 hI.2.1
  obtain ⟨g126_0, eg126_0⟩ : ∃ v, rd M0 126 0 = v := ⟨_, rfl⟩
  have bg126_0 : 0 ≤ g126_0 ∧ g126_0 ≤ 6 := by rw [← eg126_0]; exact ir_126_0 hI.2.1
  obtain ⟨g120_61, eg120_61⟩ : ∃ v, rd M0 120 61 = v := ⟨_, rfl⟩
  have bg120_61 : 0 ≤ g120_61 ∧ g120_61 ≤ 3 := by rw [← eg120_61]; exact ir_120_61 hI.2.1
  refine Tr.iload_n (pc := 0) (i := 1) d_X12_tick_0 rfl rfl ?_
  refine Tr.tp (-1) (by omega) ?_
  refine Tr.iconst (pc := 1) d_X12_tick_1 (by decide) ?_
  refine Tr.icmp_eq (pc := 2) (tgt := 20) d_X12_tick_2 rfl (fun _ => ?_) (fun hc => absurd (by omega) hc)
  refine Tr.iload_n (pc := 20) (i := 1) d_X12_tick_20 rfl rfl ?_
  refine Tr.tp (-1) (by omega) ?_
  refine Tr.iconst (pc := 21) d_X12_tick_21 (by decide) ?_
  refine Tr.icmp_ne (pc := 22) (tgt := 29) d_X12_tick_22 rfl (fun hc => absurd (by omega) hc) (fun _ => ?_)
  refine Tr.lconst (pc := 25) (v := 0) d_X12_tick_25 rfl (by decide) ?_
  refine Tr.goto (pc := 26) (tgt := 39) d_X12_tick_26 rfl ?_
  refine Tr.lstore_n (pc := 39) (i := 2) (ls2 := [(2, (1, 0)), (0, (2, 120)), (1, (0, a1))]) d_X12_tick_39 rfl (by decide) rfl ?_
  refine Tr.iconst (pc := 40) d_X12_tick_40 (by decide) ?_
  refine Tr.istore (pc := 41) (i := 4) (ls2 := [(4, (0, 0)), (2, (1, 0)), (0, (2, 120)), (1, (0, a1))]) d_X12_tick_41 (by decide) rfl ?_
  have J43 : ∀ (n43 : Nat) (M : Mem) (p43_2 p43_4 : Int), St Tb0 ws_X12_tick_120_w1 as_X12_tick_120_w1 M0 M → ((-9223372036854775808) ≤ p43_2 ∧ p43_2 ≤ 9223372036854775807) → (0 ≤ p43_4 ∧ p43_4 ≤ 6) → rd M 120 59 = g120_59 → rd M 120 61 = g120_61 → rd M 120 62 = g120_62 → rd M 120 68 = g120_68 → rd M 126 0 = g126_0 → (∀ p : Int, rd M 158 p = rd M0 158 p) → (6 - p43_4).toNat < n43 → Tr l K 3 mX12_tick 43 [(0, (2, 120)), (1, (0, a1)), (2, (1, p43_2)), (4, (0, p43_4))] [] M (q_X12_tick_120_w1 a1 M0) := by
    intro n43
    induction n43 with
    | zero => intro M p43_2 p43_4 hS bp43_2 bp43_4 k43_120_59 k43_120_61 k43_120_62 k43_120_68 k43_126_0 tp43_0 hm43; exact absurd hm43 (Nat.not_lt_zero _)
    | succ n43 J43 =>
      intro M p43_2 p43_4 hS bp43_2 bp43_4 k43_120_59 k43_120_61 k43_120_62 k43_120_68 k43_126_0 tp43_0 hm43
      refine Tr.iload (pc := 43) (i := 4) d_X12_tick_43 rfl ?_
      refine Tr.aload_n (pc := 45) (i := 0) d_X12_tick_45 rfl rfl ?_
      refine Tr.getf (pc := 46) d_X12_tick_46 f_12_63 (by decide) (by decide) (ty_120 hS.1.1) ?_
      refine Tr.tp 126 (fx_120_17 hS.1.1) ?_
      refine Tr.aload_n (pc := 49) (i := 0) d_X12_tick_49 rfl rfl ?_
      refine Tr.getf (pc := 50) d_X12_tick_50 f_12_48 (by decide) (by decide) (ty_120 hS.1.1) ?_
      refine Tr.tp 0 ((St.kp hS (by decide) (by decide) (by decide)).trans en_120_12) ?_
      refine Tr.iald (pc := 53) d_X12_tick_53 (ty_126 hS.1.1) (by omega) (by omega) ?_
      refine Tr.tp g126_0 k43_126_0 ?_
      refine Tr.icmp_ge (pc := 54) (tgt := 79) d_X12_tick_54 rfl (fun c54 => ?_) (fun c54 => ?_)
      · refine Tr.aload_n (pc := 79) (i := 0) d_X12_tick_79 rfl rfl ?_
        refine Tr.getf (pc := 80) d_X12_tick_80 f_12_219 (by decide) (by decide) (ty_120 hS.1.1) ?_
        refine Tr.tp g120_68 k43_120_68 ?_
        have J119 : ∀ (M : Mem), St Tb0 ws_X12_tick_120_w1 as_X12_tick_120_w1 M0 M → rd M 120 59 = g120_59 → rd M 120 61 = g120_61 → rd M 120 62 = g120_62 → rd M 120 68 = g120_68 → rd M 126 0 = g126_0 → (a1 = -1 ∨ g120_62 ≠ 2000 ∨ 1 ≤ g120_68) → (a1 ≠ -1 ∨ g120_68 = g120_68) → (∀ p : Int, rd M 158 p = rd M0 158 p) → Tr l K 3 mX12_tick 119 [(0, (2, 120)), (1, (0, a1)), (2, (1, p43_2))] [] M (q_X12_tick_120_w1 a1 M0) := by
          intro M  hS  k119_120_59 k119_120_61 k119_120_62 k119_120_68 k119_126_0 t119_0 t119_1 tp119_0
          refine Tr.aload_n (pc := 119) (i := 0) d_X12_tick_119 rfl rfl ?_
          refine Tr.getf (pc := 120) d_X12_tick_120 f_12_219 (by decide) (by decide) (ty_120 hS.1.1) ?_
          refine Tr.tp g120_68 k119_120_68 ?_
          refine Tr.if_le (pc := 123) (tgt := 128) d_X12_tick_123 rfl (fun c123 => ?_) (fun c123 => ?_)
          · refine Tr.iconst (pc := 128) d_X12_tick_128 (by decide) ?_
            refine Tr.istore (pc := 129) (i := 4) (ls2 := [(4, (0, 0)), (0, (2, 120)), (1, (0, a1)), (2, (1, p43_2))]) d_X12_tick_129 (by decide) rfl ?_
            have J131 : ∀ (n131 : Nat) (M : Mem) (p131_4 : Int), St Tb0 ws_X12_tick_120_w1 as_X12_tick_120_w1 M0 M → (0 ≤ p131_4 ∧ p131_4 ≤ 6) → rd M 120 59 = g120_59 → rd M 120 61 = g120_61 → rd M 120 62 = g120_62 → rd M 120 68 = g120_68 → rd M 126 0 = g126_0 → (DT M0 M p131_4) → (6 - p131_4).toNat < n131 → Tr l K 3 mX12_tick 131 [(0, (2, 120)), (1, (0, a1)), (2, (1, p43_2)), (4, (0, p131_4))] [] M (q_X12_tick_120_w1 a1 M0) := by
              intro n131
              induction n131 with
              | zero => intro M p131_4 hS bp131_4 k131_120_59 k131_120_61 k131_120_62 k131_120_68 k131_126_0 tp131_0 hm131; exact absurd hm131 (Nat.not_lt_zero _)
              | succ n131 J131 =>
                intro M p131_4 hS bp131_4 k131_120_59 k131_120_61 k131_120_62 k131_120_68 k131_126_0 tp131_0 hm131
                refine Tr.iload (pc := 131) (i := 4) d_X12_tick_131 rfl ?_
                refine Tr.aload_n (pc := 133) (i := 0) d_X12_tick_133 rfl rfl ?_
                refine Tr.getf (pc := 134) d_X12_tick_134 f_12_63 (by decide) (by decide) (ty_120 hS.1.1) ?_
                refine Tr.tp 126 (fx_120_17 hS.1.1) ?_
                refine Tr.aload_n (pc := 137) (i := 0) d_X12_tick_137 rfl rfl ?_
                refine Tr.getf (pc := 138) d_X12_tick_138 f_12_48 (by decide) (by decide) (ty_120 hS.1.1) ?_
                refine Tr.tp 0 ((St.kp hS (by decide) (by decide) (by decide)).trans en_120_12) ?_
                refine Tr.iald (pc := 141) d_X12_tick_141 (ty_126 hS.1.1) (by omega) (by omega) ?_
                refine Tr.tp g126_0 k131_126_0 ?_
                refine Tr.icmp_ge (pc := 142) (tgt := 297) d_X12_tick_142 rfl (fun c142 => ?_) (fun c142 => ?_)
                · refine Tr.aload_n (pc := 297) (i := 0) d_X12_tick_297 rfl rfl ?_
                  refine Tr.getz (pc := 298) d_X12_tick_298 f_12_225 (by decide) (ty_120 hS.1.1) ?_
                  refine Tr.gen (P := fun v => 0 ≤ v ∧ v ≤ 1) (ir_120_70 hS.1.2.1) (fun r298 er298 br298 => ?_)
                  have J314 : ∀ (M : Mem), St Tb0 ws_X12_tick_120_w1 as_X12_tick_120_w1 M0 M → rd M 120 59 = g120_59 → rd M 120 61 = g120_61 → rd M 120 62 = g120_62 → rd M 120 68 = g120_68 → rd M 120 70 = r298 → rd M 126 0 = g126_0 → (DE 0 M0 M) → Tr l K 3 mX12_tick 314 [(0, (2, 120)), (2, (1, p43_2))] [] M (q_X12_tick_120_w1 a1 M0) := by
                    intro M  hS  k314_120_59 k314_120_61 k314_120_62 k314_120_68 k314_120_70 k314_126_0 tp314_0
                    refine Tr.aload_n (pc := 314) (i := 0) d_X12_tick_314 rfl rfl ?_
                    refine Tr.dup (pc := 315) d_X12_tick_315 ne21 ?_
                    refine Tr.getf (pc := 316) d_X12_tick_316 f_12_204 (by decide) (by decide) (ty_120 hS.1.1) ?_
                    refine Tr.gen (P := fun v => (-9223372036854775808) ≤ v ∧ v ≤ 9223372036854775807) (ir_120_63 hS.1.2.1) (fun r316 er316 br316 => ?_)
                    refine Tr.lload_n (pc := 319) (i := 2) d_X12_tick_319 rfl rfl ?_
                    refine Tr.ladd (pc := 320) d_X12_tick_320 ?_
                    refine Tr.gen (P := fun v => (-9223372036854775808) ≤ v ∧ v ≤ 9223372036854775807) (w64_b _) (fun r320 er320 br320 => ?_)
                    refine Tr.putfS (pc := 321) (P := St Tb0 ws_X12_tick_120_w1 as_X12_tick_120_w1 M0) d_X12_tick_321 f_12_204 (by decide) (by decide) (ty_120 hS.1.1) (st_120_63 hS (by decide) (by omega) (Tb0.of hS.1.2.2.2.2 (fun _ => rd_wb _ rfl) (rd_wb _ rfl))) (fun M321 hS w321 => ?_)
                    refine Tr.aload_n (pc := 324) (i := 0) d_X12_tick_324 rfl rfl ?_
                    refine Tr.dup (pc := 325) d_X12_tick_325 ne21 ?_
                    refine Tr.getf (pc := 326) d_X12_tick_326 f_12_201 (by decide) (by decide) (ty_120 hS.1.1) ?_
                    refine Tr.tp g120_62 ((Wr.b w321 rfl).trans k314_120_62) ?_
                    refine Tr.iconst (pc := 329) d_X12_tick_329 (by decide) ?_
                    refine Tr.iadd (pc := 330) d_X12_tick_330 ?_
                    refine Tr.tp (g120_62 + 1) ((w32_id (by omega)).trans (by omega)) ?_
                    refine Tr.putfS (pc := 331) (P := St Tb0 ws_X12_tick_120_w1 as_X12_tick_120_w1 M0) d_X12_tick_331 f_12_201 (by decide) (by decide) (ty_120 hS.1.1) (st_120_62 hS (by decide) (by omega) (Tb0.of hS.1.2.2.2.2 (fun _ => rd_wb _ rfl) (rd_wb _ rfl))) (fun M331 hS w331 => ?_)
                    refine Tr.iconst (pc := 334) d_X12_tick_334 (by decide) ?_
                    have kr_120_59 : rd M331 120 59 = g120_59 := ((Wr.b w331 rfl).trans ((Wr.b w321 rfl).trans k314_120_59))
                    have kr_120_62 : rd M331 120 62 = (g120_62 + 1) := w331.1
                    have kr_120_68 : rd M331 120 68 = g120_68 := ((Wr.b w331 rfl).trans ((Wr.b w321 rfl).trans k314_120_68))
                    exact Tr.zret (pc := 335) d_X12_tick_335 rfl (by omega) ⟨hS, _, rfl, by omega, by omega, by omega, by omega, by omega, (fun _ B B1 hB => dt_end (DE.fr tp314_0 (fun p => ((Wr.b w331 rfl).trans ((Wr.b w321 rfl).trans rfl)))) (St.kp hS (by decide) (by decide) (by decide)) (fun p => St.ka hS (by decide) (by decide) (by decide)) B1 hB)⟩
                  refine Tr.if_eq (pc := 301) (tgt := 314) d_X12_tick_301 rfl (fun c301 => ?_) (fun c301 => ?_)
                  · refine Tr.pick [0, 2] (ls2 := [(0, (2, 120)), (2, (1, p43_2))]) rfl ?_
                    exact J314 _ hS k131_120_59 k131_120_61 k131_120_62 k131_120_68 er298 k131_126_0 ⟨p131_4, by omega, DT.fr tp131_0 (fun p => rfl)⟩
                  · refine Tr.aload_n (pc := 304) (i := 0) d_X12_tick_304 rfl rfl ?_
                    refine Tr.getf (pc := 305) d_X12_tick_305 f_12_228 (by decide) (by decide) (ty_120 hS.1.1) ?_
                    refine Tr.tp 162 (fx_120_71 hS.1.1) ?_
                    refine Tr.aload_n (pc := 308) (i := 0) d_X12_tick_308 rfl rfl ?_
                    refine Tr.getf (pc := 309) d_X12_tick_309 f_12_201 (by decide) (by decide) (ty_120 hS.1.1) ?_
                    refine Tr.tp g120_62 k131_120_62 ?_
                    refine Tr.iload_n (pc := 312) (i := 1) d_X12_tick_312 rfl rfl ?_
                    refine Tr.tp (-1) (by omega) ?_
                    refine Tr.iastS (pc := 313) (P := St Tb0 ws_X12_tick_120_w1 as_X12_tick_120_w1 M0) d_X12_tick_313 (ty_162 hS.1.1) (by omega) (by omega) (sa_162 hS (by decide) (by omega) (Tb0.of hS.1.2.2.2.2 (fun _ => rd_wb _ rfl) (rd_wb _ rfl))) (fun M313 hS w313 => ?_)
                    refine Tr.pick [0, 2] (ls2 := [(0, (2, 120)), (2, (1, p43_2))]) rfl ?_
                    exact J314 _ hS ((Wr.b w313 rfl).trans k131_120_59) ((Wr.b w313 rfl).trans k131_120_61) ((Wr.b w313 rfl).trans k131_120_62) ((Wr.b w313 rfl).trans k131_120_68) ((Wr.b w313 rfl).trans er298) ((Wr.b w313 rfl).trans k131_126_0) ⟨p131_4, by omega, DT.fr tp131_0 (fun p => ((Wr.b w313 rfl).trans rfl))⟩
                · refine Tr.aload_n (pc := 145) (i := 0) d_X12_tick_145 rfl rfl ?_
                  refine Tr.iload (pc := 146) (i := 4) d_X12_tick_146 rfl ?_
                  refine Tr.callV (pc := 148) (as := [_]) d_X12_tick_148 s_12_571 ok_X12_stateOf rfl rfl (Nat.le_of_ble_eq_true rfl) (Nat.le_of_ble_eq_true rfl) (by decide) (ty_120 hS.1.1) ?_
                  refine Tr.imp (Tr.deep (by decide) (sp_X12_stateOf_120 hS.1.wk p131_4 (by omega))) ?_
                  rintro M148 _ ⟨h148, r148, rfl, lr148, ur148, z148_0⟩
                  have h148 := St.rn h148 (Tb0.of hS.1.2.2.2.2 (fun _ => (St.ka h148 (by decide) (by decide) (by decide))) (St.kp h148 (by decide) (by decide) (by decide)))
                  have hS := St.tr hS h148 (by decide) (by decide)
                  have ka148_120_59 : rd M148 120 59 = g120_59 := ((St.kp h148 (by decide) (by decide) (by decide)).trans k131_120_59)
                  have ka148_120_61 : rd M148 120 61 = g120_61 := ((St.kp h148 (by decide) (by decide) (by decide)).trans k131_120_61)
                  refine Tr.sc [(0, r148)] rfl ?_
                  obtain ⟨th156, eth156⟩ : ∃ v, rd M 156 p131_4 = v := ⟨_, rfl⟩
                  have bth156 : 0 ≤ th156 ∧ th156 ≤ 1 := by rw [← eth156, ← show rd M148 156 p131_4 = rd M 156 p131_4 from St.ka h148 (by decide) (by decide) (by decide)]; exact ar_156 hS.1.2.1 _
                  obtain ⟨th158, eth158⟩ : ∃ v, rd M 158 p131_4 = v := ⟨_, rfl⟩
                  have bth158 : (-2147483648) ≤ th158 ∧ th158 ≤ 2147483647 := by rw [← eth158, ← show rd M148 158 p131_4 = rd M 158 p131_4 from St.ka h148 (by decide) (by decide) (by decide)]; exact ar_158 hS.1.2.1 _
                  have q156 : rd M 156 p131_4 = rd M0 156 p131_4 := (St.ka h148 (by decide) (by decide) (by decide)).symm.trans (St.ka hS (by decide) (by decide) (by decide))
                  have q158 : rd M 158 p131_4 = rd M0 158 p131_4 := (tp131_0 p131_4 (by omega)).2.1 (by omega)
                  refine Tr.istore (pc := 151) (i := 5) (ls2 := [(5, (0, r148)), (0, (2, 120)), (1, (0, a1)), (2, (1, p43_2)), (4, (0, p131_4))]) d_X12_tick_151 (by decide) rfl ?_
                  refine Tr.aload_n (pc := 153) (i := 0) d_X12_tick_153 rfl rfl ?_
                  refine Tr.getf (pc := 154) d_X12_tick_154 f_12_222 (by decide) (by decide) (ty_120 hS.1.1) ?_
                  refine Tr.tp 161 (fx_120_69 hS.1.1) ?_
                  refine Tr.iconst (pc := 157) d_X12_tick_157 (by decide) ?_
                  refine Tr.iload (pc := 158) (i := 4) d_X12_tick_158 rfl ?_
                  refine Tr.imul (pc := 160) d_X12_tick_160 ?_
                  refine Tr.tp (4 * p131_4) ((w32_id (by omega)).trans (by omega)) ?_
                  refine Tr.iload (pc := 161) (i := 5) d_X12_tick_161 rfl ?_
                  refine Tr.iadd (pc := 163) d_X12_tick_163 ?_
                  refine Tr.tp (4 * p131_4 + r148) ((w32_id (by omega)).trans (by omega)) ?_
                  refine Tr.dup2 (pc := 164) d_X12_tick_164 ne01 ne21 ?_
                  refine Tr.iald (pc := 165) d_X12_tick_165 (ty_161 hS.1.1) (by omega) (by omega) ?_
                  refine Tr.gen (P := fun v => (-2147483648) ≤ v ∧ v ≤ 2147483647) (ar_161 hS.1.2.1 _) (fun r165 er165 br165 => ?_)
                  refine Tr.iconst (pc := 166) d_X12_tick_166 (by decide) ?_
                  refine Tr.iadd (pc := 167) d_X12_tick_167 ?_
                  refine Tr.gen (P := fun v => (-2147483648) ≤ v ∧ v ≤ 2147483647) (w32_b _) (fun r167 er167 br167 => ?_)
                  refine Tr.iastS (pc := 168) (P := St Tb0 ws_X12_tick_120_w1 as_X12_tick_120_w1 M0) d_X12_tick_168 (ty_161 hS.1.1) (by omega) (by omega) (sa_161 hS (by decide) (by omega) (Tb0.of hS.1.2.2.2.2 (fun _ => rd_wb _ rfl) (rd_wb _ rfl))) (fun M168 hS w168 => ?_)
                  refine Tr.aload_n (pc := 169) (i := 0) d_X12_tick_169 rfl rfl ?_
                  refine Tr.getz (pc := 170) d_X12_tick_170 f_12_225 (by decide) (ty_120 hS.1.1) ?_
                  refine Tr.gen (P := fun v => 0 ≤ v ∧ v ≤ 1) (ir_120_70 hS.1.2.1) (fun r170 er170 br170 => ?_)
                  have J264 : ∀ (M : Mem), St Tb0 ws_X12_tick_120_w1 as_X12_tick_120_w1 M0 M → rd M 120 59 = g120_59 → rd M 120 61 = g120_61 → rd M 120 62 = g120_62 → rd M 120 68 = g120_68 → rd M 120 70 = r170 → rd M 126 0 = g126_0 → rd M 156 p131_4 = th156 → rd M 158 p131_4 = th158 → rd M 161 (4 * p131_4 + r148) = r167 → (DT M0 M p131_4) → Tr l K 3 mX12_tick 264 [(0, (2, 120)), (1, (0, a1)), (2, (1, p43_2)), (4, (0, p131_4)), (5, (0, r148))] [] M (q_X12_tick_120_w1 a1 M0) := by
                    intro M  hS  k264_120_59 k264_120_61 k264_120_62 k264_120_68 k264_120_70 k264_126_0 k264_156_p131_410 k264_158_p131_410 k264_161_p131_44r14810 tp264_0
                    refine Tr.iload (pc := 264) (i := 5) d_X12_tick_264 rfl ?_
                    refine Tr.iconst (pc := 266) d_X12_tick_266 (by decide) ?_
                    have J291 : ∀ (M : Mem), St Tb0 ws_X12_tick_120_w1 as_X12_tick_120_w1 M0 M → rd M 120 59 = g120_59 → rd M 120 61 = g120_61 → rd M 120 62 = g120_62 → rd M 120 68 = g120_68 → rd M 120 70 = r170 → rd M 126 0 = g126_0 → rd M 156 p131_4 = th156 → rd M 161 (4 * p131_4 + r148) = r167 → (DT M0 M (p131_4 + 1)) → Tr l K 3 mX12_tick 291 [(0, (2, 120)), (1, (0, a1)), (2, (1, p43_2)), (4, (0, p131_4))] [] M (q_X12_tick_120_w1 a1 M0) := by
                      intro M  hS  k291_120_59 k291_120_61 k291_120_62 k291_120_68 k291_120_70 k291_126_0 k291_156_p131_410 k291_161_p131_44r14810 tp291_0
                      refine Tr.iincV (pc := 291) (n2 := (p131_4 + 1)) (ls2 := [(4, (0, (p131_4 + 1))), (0, (2, 120)), (1, (0, a1)), (2, (1, p43_2))]) d_X12_tick_291 rfl (by decide) ((w32_id (by omega)).trans (by omega)) rfl ?_
                      refine Tr.goto (pc := 294) (tgt := 131) d_X12_tick_294 rfl ?_
                      refine Tr.pick [1, 2, 3, 0] (ls2 := [(0, (2, 120)), (1, (0, a1)), (2, (1, p43_2)), (4, (0, (p131_4 + 1)))]) rfl ?_
                      exact J131 _ _ hS (by omega) k291_120_59 k291_120_61 k291_120_62 k291_120_68 k291_126_0 tp291_0 (by omega)
                    refine Tr.icmp_ne (pc := 267) (tgt := 291) d_X12_tick_267 rfl (fun c267 => ?_) (fun c267 => ?_)
                    · refine Tr.pick [0, 1, 2, 3] (ls2 := [(0, (2, 120)), (1, (0, a1)), (2, (1, p43_2)), (4, (0, p131_4))]) rfl ?_
                      have q9 : rd M 156 p131_4 = rd M0 156 p131_4 := St.ka hS (by decide) (by decide) (by decide)
                      exact J291 _ hS k264_120_59 k264_120_61 k264_120_62 k264_120_68 k264_120_70 k264_126_0 k264_156_p131_410 k264_161_p131_44r14810 (dt_skip tp264_0 (by omega) (fun hh => by omega))
                    · refine Tr.aload_n (pc := 270) (i := 0) d_X12_tick_270 rfl rfl ?_
                      refine Tr.getf (pc := 271) d_X12_tick_271 f_12_177 (by decide) (by decide) (ty_120 hS.1.1) ?_
                      refine Tr.tp 156 (fx_120_54 hS.1.1) ?_
                      refine Tr.iload (pc := 274) (i := 4) d_X12_tick_274 rfl ?_
                      refine Tr.zald (pc := 276) d_X12_tick_276 (ty_156 hS.1.1) (by omega) (by omega) ?_
                      refine Tr.tp th156 k264_156_p131_410 ?_
                      refine Tr.if_ne (pc := 277) (tgt := 291) d_X12_tick_277 rfl (fun c277 => ?_) (fun c277 => ?_)
                      · refine Tr.pick [0, 1, 2, 3] (ls2 := [(0, (2, 120)), (1, (0, a1)), (2, (1, p43_2)), (4, (0, p131_4))]) rfl ?_
                        have q9 : rd M 156 p131_4 = rd M0 156 p131_4 := St.ka hS (by decide) (by decide) (by decide)
                        exact J291 _ hS k264_120_59 k264_120_61 k264_120_62 k264_120_68 k264_120_70 k264_126_0 k264_156_p131_410 k264_161_p131_44r14810 (dt_skip tp264_0 (by omega) (fun hh => by omega))
                      · refine Tr.aload_n (pc := 280) (i := 0) d_X12_tick_280 rfl rfl ?_
                        refine Tr.getf (pc := 281) d_X12_tick_281 f_12_183 (by decide) (by decide) (ty_120 hS.1.1) ?_
                        refine Tr.tp 158 (fx_120_56 hS.1.1) ?_
                        refine Tr.iload (pc := 284) (i := 4) d_X12_tick_284 rfl ?_
                        refine Tr.dup2 (pc := 286) d_X12_tick_286 ne01 ne21 ?_
                        refine Tr.iald (pc := 287) d_X12_tick_287 (ty_158 hS.1.1) (by omega) (by omega) ?_
                        refine Tr.tp th158 k264_158_p131_410 ?_
                        refine Tr.iconst (pc := 288) d_X12_tick_288 (by decide) ?_
                        refine Tr.isub (pc := 289) d_X12_tick_289 ?_
                        refine Tr.tp (th158 - 1) ((w32_id (by omega)).trans (by omega)) ?_
                        refine Tr.iastS (pc := 290) (P := St Tb0 ws_X12_tick_120_w1 as_X12_tick_120_w1 M0) d_X12_tick_290 (ty_158 hS.1.1) (by omega) (by omega) (sa_158 hS (by decide) (by omega) (Tb0_wr hS.1.2.2.2.2 (fun i0 i1 => by have h8 := hS.1.2.2.2.2 _ i0 i1; omega))) (fun M290 hS w290 => ?_)
                        refine Tr.pick [0, 1, 2, 3] (ls2 := [(0, (2, 120)), (1, (0, a1)), (2, (1, p43_2)), (4, (0, p131_4))]) rfl ?_
                        have q9 : rd M290 156 p131_4 = rd M0 156 p131_4 := St.ka hS (by decide) (by decide) (by decide)
                        exact J291 _ hS ((Wr.b w290 rfl).trans k264_120_59) ((Wr.b w290 rfl).trans k264_120_61) ((Wr.b w290 rfl).trans k264_120_62) ((Wr.b w290 rfl).trans k264_120_68) ((Wr.b w290 rfl).trans k264_120_70) ((Wr.b w290 rfl).trans k264_126_0) ((Wr.b w290 rfl).trans k264_156_p131_410) ((Wr.b w290 rfl).trans k264_161_p131_44r14810) (dt_dec tp264_0 (by rw [k264_158_p131_410]; exact w290))
                  refine Tr.if_eq (pc := 173) (tgt := 264) d_X12_tick_173 rfl (fun c173 => ?_) (fun c173 => ?_)
                  · refine Tr.pick [1, 2, 3, 4, 0] (ls2 := [(0, (2, 120)), (1, (0, a1)), (2, (1, p43_2)), (4, (0, p131_4)), (5, (0, r148))]) rfl ?_
                    exact J264 _ hS ((Wr.b w168 rfl).trans ((St.kp h148 (by decide) (by decide) (by decide)).trans k131_120_59)) ((Wr.b w168 rfl).trans ((St.kp h148 (by decide) (by decide) (by decide)).trans k131_120_61)) ((Wr.b w168 rfl).trans ((St.kp h148 (by decide) (by decide) (by decide)).trans k131_120_62)) ((Wr.b w168 rfl).trans ((St.kp h148 (by decide) (by decide) (by decide)).trans k131_120_68)) er170 ((Wr.b w168 rfl).trans ((St.kp h148 (by decide) (by decide) (by decide)).trans k131_126_0)) ((Wr.b w168 rfl).trans ((St.ka h148 (by decide) (by decide) (by decide)).trans eth156)) ((Wr.b w168 rfl).trans ((St.ka h148 (by decide) (by decide) (by decide)).trans eth158)) w168.1 (DT.fr tp131_0 (fun p => ((Wr.b w168 rfl).trans ((St.ka h148 (by decide) (by decide) (by decide)).trans rfl))))
                  · refine Tr.aload_n (pc := 176) (i := 0) d_X12_tick_176 rfl rfl ?_
                    refine Tr.getf (pc := 177) d_X12_tick_177 f_12_231 (by decide) (by decide) (ty_120 hS.1.1) ?_
                    refine Tr.tp 163 (fx_120_72 hS.1.1) ?_
                    refine Tr.sipush (pc := 180) d_X12_tick_180 rfl (by decide) ?_
                    refine Tr.iload (pc := 183) (i := 4) d_X12_tick_183 rfl ?_
                    refine Tr.imul (pc := 185) d_X12_tick_185 ?_
                    refine Tr.tp (2100 * p131_4) ((w32_id (by omega)).trans (by omega)) ?_
                    refine Tr.aload_n (pc := 186) (i := 0) d_X12_tick_186 rfl rfl ?_
                    refine Tr.getf (pc := 187) d_X12_tick_187 f_12_201 (by decide) (by decide) (ty_120 hS.1.1) ?_
                    refine Tr.tp g120_62 ((Wr.b w168 rfl).trans ((St.kp h148 (by decide) (by decide) (by decide)).trans k131_120_62)) ?_
                    refine Tr.iadd (pc := 190) d_X12_tick_190 ?_
                    refine Tr.tp (g120_62 + 2100 * p131_4) ((w32_id (by omega)).trans (by omega)) ?_
                    refine Tr.iload (pc := 191) (i := 5) d_X12_tick_191 rfl ?_
                    refine Tr.iastS (pc := 193) (P := St Tb0 ws_X12_tick_120_w1 as_X12_tick_120_w1 M0) d_X12_tick_193 (ty_163 hS.1.1) (by omega) (by omega) (sa_163 hS (by decide) (by omega) (Tb0.of hS.1.2.2.2.2 (fun _ => rd_wb _ rfl) (rd_wb _ rfl))) (fun M193 hS w193 => ?_)
                    refine Tr.aload_n (pc := 194) (i := 0) d_X12_tick_194 rfl rfl ?_
                    refine Tr.getf (pc := 195) d_X12_tick_195 f_12_234 (by decide) (by decide) (ty_120 hS.1.1) ?_
                    refine Tr.tp 164 (fx_120_73 hS.1.1) ?_
                    refine Tr.sipush (pc := 198) d_X12_tick_198 rfl (by decide) ?_
                    refine Tr.iload (pc := 201) (i := 4) d_X12_tick_201 rfl ?_
                    refine Tr.imul (pc := 203) d_X12_tick_203 ?_
                    refine Tr.tp (2100 * p131_4) ((w32_id (by omega)).trans (by omega)) ?_
                    refine Tr.aload_n (pc := 204) (i := 0) d_X12_tick_204 rfl rfl ?_
                    refine Tr.getf (pc := 205) d_X12_tick_205 f_12_201 (by decide) (by decide) (ty_120 hS.1.1) ?_
                    refine Tr.tp g120_62 ((Wr.b w193 rfl).trans ((Wr.b w168 rfl).trans ((St.kp h148 (by decide) (by decide) (by decide)).trans k131_120_62))) ?_
                    refine Tr.iadd (pc := 208) d_X12_tick_208 ?_
                    refine Tr.tp (g120_62 + 2100 * p131_4) ((w32_id (by omega)).trans (by omega)) ?_
                    refine Tr.iload (pc := 209) (i := 5) d_X12_tick_209 rfl ?_
                    refine Tr.iconst (pc := 211) d_X12_tick_211 (by decide) ?_
                    have J226 : ∀ (M : Mem) (q226_2 : Int), St Tb0 ws_X12_tick_120_w1 as_X12_tick_120_w1 M0 M → ((-1) ≤ q226_2 ∧ q226_2 ≤ 59) → rd M 120 59 = g120_59 → rd M 120 61 = g120_61 → rd M 120 62 = g120_62 → rd M 120 68 = g120_68 → rd M 120 70 = r170 → rd M 126 0 = g126_0 → rd M 156 p131_4 = th156 → rd M 158 p131_4 = th158 → rd M 161 (4 * p131_4 + r148) = r167 → rd M 163 (g120_62 + 2100 * p131_4) = r148 → (DT M0 M p131_4) → Tr l K 3 mX12_tick 226 [(0, (2, 120)), (1, (0, a1)), (2, (1, p43_2)), (4, (0, p131_4)), (5, (0, r148))] [(0, q226_2), (0, (g120_62 + 2100 * p131_4)), (2, 164)] M (q_X12_tick_120_w1 a1 M0) := by
                      intro M q226_2 hS bq226_2 k226_120_59 k226_120_61 k226_120_62 k226_120_68 k226_120_70 k226_126_0 k226_156_p131_410 k226_158_p131_410 k226_161_p131_44r14810 k226_163_g120_621p131_421000 tp226_0
                      refine Tr.iastS (pc := 226) (P := St Tb0 ws_X12_tick_120_w1 as_X12_tick_120_w1 M0) d_X12_tick_226 (ty_164 hS.1.1) (by omega) (by omega) (sa_164 hS (by decide) (by omega) (Tb0.of hS.1.2.2.2.2 (fun _ => rd_wb _ rfl) (rd_wb _ rfl))) (fun M226 hS w226 => ?_)
                      refine Tr.aload_n (pc := 227) (i := 0) d_X12_tick_227 rfl rfl ?_
                      refine Tr.getf (pc := 228) d_X12_tick_228 f_12_237 (by decide) (by decide) (ty_120 hS.1.1) ?_
                      refine Tr.tp 165 (fx_120_74 hS.1.1) ?_
                      refine Tr.sipush (pc := 231) d_X12_tick_231 rfl (by decide) ?_
                      refine Tr.iload (pc := 234) (i := 4) d_X12_tick_234 rfl ?_
                      refine Tr.imul (pc := 236) d_X12_tick_236 ?_
                      refine Tr.tp (2100 * p131_4) ((w32_id (by omega)).trans (by omega)) ?_
                      refine Tr.aload_n (pc := 237) (i := 0) d_X12_tick_237 rfl rfl ?_
                      refine Tr.getf (pc := 238) d_X12_tick_238 f_12_201 (by decide) (by decide) (ty_120 hS.1.1) ?_
                      refine Tr.tp g120_62 ((Wr.b w226 rfl).trans k226_120_62) ?_
                      refine Tr.iadd (pc := 241) d_X12_tick_241 ?_
                      refine Tr.tp (g120_62 + 2100 * p131_4) ((w32_id (by omega)).trans (by omega)) ?_
                      refine Tr.aload_n (pc := 242) (i := 0) d_X12_tick_242 rfl rfl ?_
                      refine Tr.getf (pc := 243) d_X12_tick_243 f_12_177 (by decide) (by decide) (ty_120 hS.1.1) ?_
                      refine Tr.tp 156 (fx_120_54 hS.1.1) ?_
                      refine Tr.iload (pc := 246) (i := 4) d_X12_tick_246 rfl ?_
                      refine Tr.zald (pc := 248) d_X12_tick_248 (ty_156 hS.1.1) (by omega) (by omega) ?_
                      refine Tr.tp th156 ((Wr.b w226 rfl).trans k226_156_p131_410) ?_
                      have J263 : ∀ (M : Mem) (q263_2 : Int), St Tb0 ws_X12_tick_120_w1 as_X12_tick_120_w1 M0 M → ((-1) ≤ q263_2 ∧ q263_2 ≤ 59) → rd M 120 59 = g120_59 → rd M 120 61 = g120_61 → rd M 120 62 = g120_62 → rd M 120 68 = g120_68 → rd M 120 70 = r170 → rd M 126 0 = g126_0 → rd M 156 p131_4 = th156 → rd M 158 p131_4 = th158 → rd M 161 (4 * p131_4 + r148) = r167 → rd M 163 (g120_62 + 2100 * p131_4) = r148 → rd M 164 (g120_62 + 2100 * p131_4) = q226_2 → (DT M0 M p131_4) → Tr l K 3 mX12_tick 263 [(0, (2, 120)), (1, (0, a1)), (2, (1, p43_2)), (4, (0, p131_4)), (5, (0, r148))] [(0, q263_2), (0, (g120_62 + 2100 * p131_4)), (2, 165)] M (q_X12_tick_120_w1 a1 M0) := by
                        intro M q263_2 hS bq263_2 k263_120_59 k263_120_61 k263_120_62 k263_120_68 k263_120_70 k263_126_0 k263_156_p131_410 k263_158_p131_410 k263_161_p131_44r14810 k263_163_g120_621p131_421000 k263_164_g120_621p131_421000 tp263_0
                        refine Tr.iastS (pc := 263) (P := St Tb0 ws_X12_tick_120_w1 as_X12_tick_120_w1 M0) d_X12_tick_263 (ty_165 hS.1.1) (by omega) (by omega) (sa_165 hS (by decide) (by omega) (Tb0.of hS.1.2.2.2.2 (fun _ => rd_wb _ rfl) (rd_wb _ rfl))) (fun M263 hS w263 => ?_)
                        refine Tr.pick [0, 1, 2, 3, 4] (ls2 := [(0, (2, 120)), (1, (0, a1)), (2, (1, p43_2)), (4, (0, p131_4)), (5, (0, r148))]) rfl ?_
                        exact J264 _ hS ((Wr.b w263 rfl).trans k263_120_59) ((Wr.b w263 rfl).trans k263_120_61) ((Wr.b w263 rfl).trans k263_120_62) ((Wr.b w263 rfl).trans k263_120_68) ((Wr.b w263 rfl).trans k263_120_70) ((Wr.b w263 rfl).trans k263_126_0) ((Wr.b w263 rfl).trans k263_156_p131_410) ((Wr.b w263 rfl).trans k263_158_p131_410) ((Wr.b w263 rfl).trans k263_161_p131_44r14810) (DT.fr tp263_0 (fun p => ((Wr.b w263 rfl).trans rfl)))
                      refine Tr.if_eq (pc := 249) (tgt := 262) d_X12_tick_249 rfl (fun c249 => ?_) (fun c249 => ?_)
                      · refine Tr.iconst (pc := 262) d_X12_tick_262 (by decide) ?_
                        refine Tr.pick [0, 1, 2, 3, 4] (ls2 := [(0, (2, 120)), (1, (0, a1)), (2, (1, p43_2)), (4, (0, p131_4)), (5, (0, r148))]) rfl ?_
                        exact J263 _ _ hS (by omega) ((Wr.b w226 rfl).trans k226_120_59) ((Wr.b w226 rfl).trans k226_120_61) ((Wr.b w226 rfl).trans k226_120_62) ((Wr.b w226 rfl).trans k226_120_68) ((Wr.b w226 rfl).trans k226_120_70) ((Wr.b w226 rfl).trans k226_126_0) ((Wr.b w226 rfl).trans k226_156_p131_410) ((Wr.b w226 rfl).trans k226_158_p131_410) ((Wr.b w226 rfl).trans k226_161_p131_44r14810) ((Wr.b w226 rfl).trans k226_163_g120_621p131_421000) w226.1 (DT.fr tp226_0 (fun p => ((Wr.b w226 rfl).trans rfl)))
                      · refine Tr.aload_n (pc := 252) (i := 0) d_X12_tick_252 rfl rfl ?_
                        refine Tr.getf (pc := 253) d_X12_tick_253 f_12_180 (by decide) (by decide) (ty_120 hS.1.1) ?_
                        refine Tr.tp 157 (fx_120_55 hS.1.1) ?_
                        refine Tr.iload (pc := 256) (i := 4) d_X12_tick_256 rfl ?_
                        refine Tr.iald (pc := 258) d_X12_tick_258 (ty_157 hS.1.1) (by omega) (by omega) ?_
                        refine Tr.gen (P := fun v => (-1) ≤ v ∧ v ≤ 59) (ar_157 hS.1.2.1 _) (fun r258 er258 br258 => ?_)
                        refine Tr.goto (pc := 259) (tgt := 263) d_X12_tick_259 rfl ?_
                        refine Tr.pick [0, 1, 2, 3, 4] (ls2 := [(0, (2, 120)), (1, (0, a1)), (2, (1, p43_2)), (4, (0, p131_4)), (5, (0, r148))]) rfl ?_
                        exact J263 _ _ hS (by omega) ((Wr.b w226 rfl).trans k226_120_59) ((Wr.b w226 rfl).trans k226_120_61) ((Wr.b w226 rfl).trans k226_120_62) ((Wr.b w226 rfl).trans k226_120_68) ((Wr.b w226 rfl).trans k226_120_70) ((Wr.b w226 rfl).trans k226_126_0) ((Wr.b w226 rfl).trans k226_156_p131_410) ((Wr.b w226 rfl).trans k226_158_p131_410) ((Wr.b w226 rfl).trans k226_161_p131_44r14810) ((Wr.b w226 rfl).trans k226_163_g120_621p131_421000) w226.1 (DT.fr tp226_0 (fun p => ((Wr.b w226 rfl).trans rfl)))
                    refine Tr.icmp_ne (pc := 212) (tgt := 225) d_X12_tick_212 rfl (fun c212 => ?_) (fun c212 => ?_)
                    · refine Tr.iload_n (pc := 225) (i := 1) d_X12_tick_225 rfl rfl ?_
                      refine Tr.tp (-1) (by omega) ?_
                      refine Tr.pick [1, 2, 3, 4, 0] (ls2 := [(0, (2, 120)), (1, (0, a1)), (2, (1, p43_2)), (4, (0, p131_4)), (5, (0, r148))]) rfl ?_
                      exact J226 _ _ hS (by omega) ((Wr.b w193 rfl).trans ((Wr.b w168 rfl).trans ((St.kp h148 (by decide) (by decide) (by decide)).trans k131_120_59))) ((Wr.b w193 rfl).trans ((Wr.b w168 rfl).trans ((St.kp h148 (by decide) (by decide) (by decide)).trans k131_120_61))) ((Wr.b w193 rfl).trans ((Wr.b w168 rfl).trans ((St.kp h148 (by decide) (by decide) (by decide)).trans k131_120_62))) ((Wr.b w193 rfl).trans ((Wr.b w168 rfl).trans ((St.kp h148 (by decide) (by decide) (by decide)).trans k131_120_68))) ((Wr.b w193 rfl).trans er170) ((Wr.b w193 rfl).trans ((Wr.b w168 rfl).trans ((St.kp h148 (by decide) (by decide) (by decide)).trans k131_126_0))) ((Wr.b w193 rfl).trans ((Wr.b w168 rfl).trans ((St.ka h148 (by decide) (by decide) (by decide)).trans eth156))) ((Wr.b w193 rfl).trans ((Wr.b w168 rfl).trans ((St.ka h148 (by decide) (by decide) (by decide)).trans eth158))) ((Wr.b w193 rfl).trans w168.1) w193.1 (DT.fr tp131_0 (fun p => ((Wr.b w193 rfl).trans ((Wr.b w168 rfl).trans ((St.ka h148 (by decide) (by decide) (by decide)).trans rfl)))))
                    · refine Tr.aload_n (pc := 215) (i := 0) d_X12_tick_215 rfl rfl ?_
                      refine Tr.getf (pc := 216) d_X12_tick_216 f_12_186 (by decide) (by decide) (ty_120 hS.1.1) ?_
                      refine Tr.tp 159 (fx_120_57 hS.1.1) ?_
                      refine Tr.iload (pc := 219) (i := 4) d_X12_tick_219 rfl ?_
                      refine Tr.iald (pc := 221) d_X12_tick_221 (ty_159 hS.1.1) (by omega) (by omega) ?_
                      refine Tr.gen (P := fun v => (-1) ≤ v ∧ v ≤ 59) (ar_159 hS.1.2.1 _) (fun r221 er221 br221 => ?_)
                      refine Tr.goto (pc := 222) (tgt := 226) d_X12_tick_222 rfl ?_
                      refine Tr.pick [1, 2, 3, 4, 0] (ls2 := [(0, (2, 120)), (1, (0, a1)), (2, (1, p43_2)), (4, (0, p131_4)), (5, (0, r148))]) rfl ?_
                      exact J226 _ _ hS (by omega) ((Wr.b w193 rfl).trans ((Wr.b w168 rfl).trans ((St.kp h148 (by decide) (by decide) (by decide)).trans k131_120_59))) ((Wr.b w193 rfl).trans ((Wr.b w168 rfl).trans ((St.kp h148 (by decide) (by decide) (by decide)).trans k131_120_61))) ((Wr.b w193 rfl).trans ((Wr.b w168 rfl).trans ((St.kp h148 (by decide) (by decide) (by decide)).trans k131_120_62))) ((Wr.b w193 rfl).trans ((Wr.b w168 rfl).trans ((St.kp h148 (by decide) (by decide) (by decide)).trans k131_120_68))) ((Wr.b w193 rfl).trans er170) ((Wr.b w193 rfl).trans ((Wr.b w168 rfl).trans ((St.kp h148 (by decide) (by decide) (by decide)).trans k131_126_0))) ((Wr.b w193 rfl).trans ((Wr.b w168 rfl).trans ((St.ka h148 (by decide) (by decide) (by decide)).trans eth156))) ((Wr.b w193 rfl).trans ((Wr.b w168 rfl).trans ((St.ka h148 (by decide) (by decide) (by decide)).trans eth158))) ((Wr.b w193 rfl).trans w168.1) w193.1 (DT.fr tp131_0 (fun p => ((Wr.b w193 rfl).trans ((Wr.b w168 rfl).trans ((St.ka h148 (by decide) (by decide) (by decide)).trans rfl)))))
            refine Tr.pick [1, 2, 3, 0] (ls2 := [(0, (2, 120)), (1, (0, a1)), (2, (1, p43_2)), (4, (0, 0))]) rfl ?_
            exact J131 _ _ _ hS (by omega) k119_120_59 k119_120_61 k119_120_62 k119_120_68 k119_126_0 (fun p p0 => ⟨Int.le_of_eq ((tp119_0 p)), fun _ => (tp119_0 p), fun c => absurd c (by omega)⟩) (Nat.lt_succ_self _)
          · refine Tr.iconst (pc := 126) d_X12_tick_126 (by decide) ?_
            have kr_120_59 : rd M 120 59 = g120_59 := k119_120_59
            have kr_120_62 : rd M 120 62 = g120_62 := k119_120_62
            have kr_120_68 : rd M 120 68 = g120_68 := k119_120_68
            exact Tr.zret (pc := 127) d_X12_tick_127 rfl (by omega) ⟨hS, _, rfl, by omega, by omega, by omega, by omega, by omega, (fun c => absurd c (by omega))⟩
        refine Tr.if_ne (pc := 83) (tgt := 119) d_X12_tick_83 rfl (fun c83 => ?_) (fun c83 => ?_)
        · refine Tr.pick [0, 1, 2] (ls2 := [(0, (2, 120)), (1, (0, a1)), (2, (1, p43_2))]) rfl ?_
          exact J119 _ hS k43_120_59 k43_120_61 k43_120_62 k43_120_68 k43_126_0 (by first | assumption | omega) (by first | assumption | omega) (fun p => (tp43_0 p))
        · refine Tr.iload_n (pc := 86) (i := 1) d_X12_tick_86 rfl rfl ?_
          refine Tr.tp (-1) (by omega) ?_
          refine Tr.iconst (pc := 87) d_X12_tick_87 (by decide) ?_
          refine Tr.icmp_eq (pc := 88) (tgt := 119) d_X12_tick_88 rfl (fun _ => ?_) (fun hc => absurd (by omega) hc)
          refine Tr.pick [0, 1, 2] (ls2 := [(0, (2, 120)), (1, (0, a1)), (2, (1, p43_2))]) rfl ?_
          exact J119 _ hS k43_120_59 k43_120_61 k43_120_62 k43_120_68 k43_126_0 (by first | assumption | omega) (by first | assumption | omega) (fun p => (tp43_0 p))
      · refine Tr.lload_n (pc := 57) (i := 2) d_X12_tick_57 rfl rfl ?_
        refine Tr.aload_n (pc := 58) (i := 0) d_X12_tick_58 rfl rfl ?_
        refine Tr.iload (pc := 59) (i := 4) d_X12_tick_59 rfl ?_
        refine Tr.aload_n (pc := 61) (i := 0) d_X12_tick_61 rfl rfl ?_
        refine Tr.iload (pc := 62) (i := 4) d_X12_tick_62 rfl ?_
        refine Tr.callV (pc := 64) (as := [_]) d_X12_tick_64 s_12_571 ok_X12_stateOf rfl rfl (Nat.le_of_ble_eq_true rfl) (Nat.le_of_ble_eq_true rfl) (by decide) (ty_120 hS.1.1) ?_
        refine Tr.imp (Tr.deep (by decide) (sp_X12_stateOf_120 hS.1.wk p43_4 (by omega))) ?_
        rintro M64 _ ⟨h64, r64, rfl, lr64, ur64, z64_0⟩
        have h64 := St.rn h64 (Tb0.of hS.1.2.2.2.2 (fun _ => (St.ka h64 (by decide) (by decide) (by decide))) (St.kp h64 (by decide) (by decide) (by decide)))
        have hS := St.tr hS h64 (by decide) (by decide)
        have ka64_120_59 : rd M64 120 59 = g120_59 := ((St.kp h64 (by decide) (by decide) (by decide)).trans k43_120_59)
        have ka64_120_61 : rd M64 120 61 = g120_61 := ((St.kp h64 (by decide) (by decide) (by decide)).trans k43_120_61)
        refine Tr.sc [(0, r64), (0, p43_4), (2, 120), (1, p43_2)] rfl ?_
        refine Tr.callV (pc := 67) (as := [_, _]) d_X12_tick_67 s_12_574 ok_X12_sips rfl rfl (Nat.le_of_ble_eq_true rfl) (Nat.le_of_ble_eq_true rfl) (by decide) (ty_120 hS.1.1) ?_
        refine Tr.imp (Tr.deep (by decide) (sp_X12_sips_120 hS.1.wk ((St.kp hS (by decide) (by decide) (by decide)).trans en_120_12) p43_4 (by omega) r64 (by omega) (Bk0.of hF_Bk0 (fun j => (St.ka hS (by decide) (by decide) (by decide))) (fun j => (St.ka hS (by decide) (by decide) (by decide))) (fun j => (St.ka hS (by decide) (by decide) (by decide))) (fun j => (St.ka hS (by decide) (by decide) (by decide))) (fun j => (St.ka hS (by decide) (by decide) (by decide))) (fun j => (St.ka hS (by decide) (by decide) (by decide))) (fun j => (St.ka hS (by decide) (by decide) (by decide))) (fun j => (St.ka hS (by decide) (by decide) (by decide))) (St.kp hS (by decide) (by decide) (by decide)) (St.kp hS (by decide) (by decide) (by decide)) (St.kp hS (by decide) (by decide) (by decide)) (St.kp hS (by decide) (by decide) (by decide))))) ?_
        rintro M67 _ ⟨h67, r67, rfl, lr67, ur67⟩
        have h67 := St.rn h67 (Tb0.of hS.1.2.2.2.2 (fun _ => (St.ka h67 (by decide) (by decide) (by decide))) (St.kp h67 (by decide) (by decide) (by decide)))
        have hS := St.tr hS h67 (by decide) (by decide)
        refine Tr.sc [(0, r67), (1, p43_2)] rfl ?_
        refine Tr.i2l (pc := 70) d_X12_tick_70 ?_
        refine Tr.ladd (pc := 71) d_X12_tick_71 ?_
        refine Tr.gen (P := fun v => (-9223372036854775808) ≤ v ∧ v ≤ 9223372036854775807) (w64_b _) (fun r71 er71 br71 => ?_)
        refine Tr.lstore_n (pc := 72) (i := 2) (ls2 := [(2, (1, r71)), (0, (2, 120)), (1, (0, a1)), (4, (0, p43_4))]) d_X12_tick_72 rfl (by decide) rfl ?_
        refine Tr.iincV (pc := 73) (n2 := (p43_4 + 1)) (ls2 := [(4, (0, (p43_4 + 1))), (2, (1, r71)), (0, (2, 120)), (1, (0, a1))]) d_X12_tick_73 rfl (by decide) ((w32_id (by omega)).trans (by omega)) rfl ?_
        refine Tr.goto (pc := 76) (tgt := 43) d_X12_tick_76 rfl ?_
        refine Tr.pick [2, 3, 1, 0] (ls2 := [(0, (2, 120)), (1, (0, a1)), (2, (1, r71)), (4, (0, (p43_4 + 1)))]) rfl ?_
        exact J43 _ _ _ hS (by omega) (by omega) ((St.kp h67 (by decide) (by decide) (by decide)).trans ((St.kp h64 (by decide) (by decide) (by decide)).trans k43_120_59)) ((St.kp h67 (by decide) (by decide) (by decide)).trans ((St.kp h64 (by decide) (by decide) (by decide)).trans k43_120_61)) ((St.kp h67 (by decide) (by decide) (by decide)).trans ((St.kp h64 (by decide) (by decide) (by decide)).trans k43_120_62)) ((St.kp h67 (by decide) (by decide) (by decide)).trans ((St.kp h64 (by decide) (by decide) (by decide)).trans k43_120_68)) ((St.kp h67 (by decide) (by decide) (by decide)).trans ((St.kp h64 (by decide) (by decide) (by decide)).trans k43_126_0)) (fun p => ((St.ka h67 (by decide) (by decide) (by decide)).trans ((St.ka h64 (by decide) (by decide) (by decide)).trans (tp43_0 p)))) (by omega)
  refine Tr.pick [2, 3, 1, 0] (ls2 := [(0, (2, 120)), (1, (0, a1)), (2, (1, 0)), (4, (0, 0))]) rfl ?_
  exact J43 _ _ _ _ hS (by omega) (by omega) eg120_59 eg120_61 eg120_62 eg120_68 eg126_0 (fun p => rfl) (Nat.lt_succ_self _)

def ws_X12_floor : List (Int × Int) := []
def as_X12_floor : List Int := []
def q_X12_floor (a0 : Int) (a2 : Int) (M0 M' : Mem) (r : Option PV) : Prop := St Tru ws_X12_floor as_X12_floor M0 M' ∧ ∃ v : Int, r = some (1, v) ∧ (-9223372036854775808) ≤ v ∧ v ≤ 9223372036854775807 ∧ (a2 ≠ 1000 ∨ (1000 * v ≤ a0 ∧ a0 < 1000 * v + 1000))
set_option maxRecDepth 100000 in
set_option maxHeartbeats 4000000 in
theorem sp_X12_floor {l : Launch} {K : EC} {M0 : Mem} (hI : In Tru M0)  (a0 : Int) (ha0 : (-9223372036854775808) ≤ a0 ∧ a0 ≤ 9223372036854775807) (a2 : Int) (ha2 : (-9223372036854775808) ≤ a2 ∧ a2 ≤ 9223372036854775807)  : Tr l K 0 mX12_floor 0 [(0, (1, a0)), (2, (1, a2))] [] M0 (q_X12_floor a0 a2 M0) := by
  have hS : St Tru ws_X12_floor as_X12_floor M0 M0 := St.rf hI
  refine Tr.lload_n (pc := 0) (i := 2) d_X12_floor_0 rfl rfl ?_
  refine Tr.lconst (pc := 1) (v := 0) d_X12_floor_1 rfl (by decide) ?_
  refine Tr.lcmp (pc := 2) d_X12_floor_2 ?_
  refine Tr.gen (P := fun v => (v = 1 ∧ 0 < a2) ∨ (v = 0 ∧ a2 = 0) ∨ (v = -1 ∧ a2 < 0)) (f_lcmp_c _ _) (fun r2 er2 br2 => ?_)
  refine Tr.if_ne (pc := 3) (tgt := 8) d_X12_floor_3 rfl (fun c3 => ?_) (fun c3 => ?_)
  · refine Tr.lload_n (pc := 8) (i := 0) d_X12_floor_8 rfl rfl ?_
    refine Tr.lload_n (pc := 9) (i := 2) d_X12_floor_9 rfl rfl ?_
    refine Tr.ldiv (pc := 10) d_X12_floor_10 (by omega) ?_
    refine Tr.gen (P := fun v => ((-9223372036854775808) ≤ v ∧ v ≤ 9223372036854775807) ∧ (a2 ≠ 1000 ∨ ((0 ≤ a0 ∧ v = a0 / 1000) ∨ (a0 < 0 ∧ v = -(-a0 / 1000))))) (floor_q2 (by omega)) (fun r10 er10 br10 => ?_)
    refine Tr.lstore (pc := 11) (i := 4) (ls2 := [(4, (1, r10)), (0, (1, a0)), (2, (1, a2))]) d_X12_floor_11 (by decide) rfl ?_
    refine Tr.lload_n (pc := 13) (i := 0) d_X12_floor_13 rfl rfl ?_
    refine Tr.lload_n (pc := 14) (i := 2) d_X12_floor_14 rfl rfl ?_
    refine Tr.lrem (pc := 15) d_X12_floor_15 (by omega) ?_
    refine Tr.gen (P := fun v => ((-9223372036854775808) ≤ v ∧ v ≤ 9223372036854775807) ∧ (a2 ≠ 1000 ∨ (v = 0 ↔ a0 % 1000 = 0))) (floor_r _ _ (by omega)) (fun r15 er15 br15 => ?_)
    refine Tr.lconst (pc := 16) (v := 0) d_X12_floor_16 rfl (by decide) ?_
    refine Tr.lcmp (pc := 17) d_X12_floor_17 ?_
    refine Tr.gen (P := fun v => (v = 1 ∧ 0 < r15) ∨ (v = 0 ∧ r15 = 0) ∨ (v = -1 ∧ r15 < 0)) (f_lcmp_c _ _) (fun r17 er17 br17 => ?_)
    refine Tr.if_eq (pc := 18) (tgt := 53) d_X12_floor_18 rfl (fun c18 => ?_) (fun c18 => ?_)
    · refine Tr.lload (pc := 53) (i := 4) d_X12_floor_53 rfl ?_
      exact Tr.lret (pc := 55) d_X12_floor_55 rfl ⟨hS, _, rfl, by omega, by omega, by omega⟩
    · refine Tr.lload_n (pc := 21) (i := 0) d_X12_floor_21 rfl rfl ?_
      refine Tr.lconst (pc := 22) (v := 0) d_X12_floor_22 rfl (by decide) ?_
      refine Tr.lcmp (pc := 23) d_X12_floor_23 ?_
      refine Tr.gen (P := fun v => (v = 1 ∧ 0 < a0) ∨ (v = 0 ∧ a0 = 0) ∨ (v = -1 ∧ a0 < 0)) (f_lcmp_c _ _) (fun r23 er23 br23 => ?_)
      have J32 : ∀ (M : Mem) (q32_0 : Int), St Tru ws_X12_floor as_X12_floor M0 M → (0 ≤ q32_0 ∧ q32_0 ≤ 1) → ((q32_0 = 1 ∧ a0 < 0) ∨ (q32_0 = 0 ∧ 0 ≤ a0)) → Tr l K 0 mX12_floor 32 [(2, (1, a2)), (4, (1, r10))] [(0, q32_0)] M (q_X12_floor a0 a2 M0) := by
        intro M q32_0 hS bq32_0  t32_0
        refine Tr.lload_n (pc := 32) (i := 2) d_X12_floor_32 rfl rfl ?_
        refine Tr.lconst (pc := 33) (v := 0) d_X12_floor_33 rfl (by decide) ?_
        refine Tr.lcmp (pc := 34) d_X12_floor_34 ?_
        refine Tr.gen (P := fun v => (v = 1 ∧ 0 < a2) ∨ (v = 0 ∧ a2 = 0) ∨ (v = -1 ∧ a2 < 0)) (f_lcmp_c _ _) (fun r34 er34 br34 => ?_)
        have J43 : ∀ (M : Mem) (q43_1 : Int), St Tru ws_X12_floor as_X12_floor M0 M → (0 ≤ q43_1 ∧ q43_1 ≤ 1) → ((q43_1 = 1 ∧ a2 < 0) ∨ (q43_1 = 0 ∧ 0 ≤ a2)) → Tr l K 0 mX12_floor 43 [(4, (1, r10))] [(0, q43_1), (0, q32_0)] M (q_X12_floor a0 a2 M0) := by
          intro M q43_1 hS bq43_1  t43_0
          refine Tr.icmp_eq (pc := 43) (tgt := 53) d_X12_floor_43 rfl (fun c43 => ?_) (fun c43 => ?_)
          · refine Tr.lload (pc := 53) (i := 4) d_X12_floor_53 rfl ?_
            exact Tr.lret (pc := 55) d_X12_floor_55 rfl ⟨hS, _, rfl, by omega, by omega, by omega⟩
          · refine Tr.lload (pc := 46) (i := 4) d_X12_floor_46 rfl ?_
            refine Tr.lconst (pc := 48) (v := 1) d_X12_floor_48 rfl (by decide) ?_
            refine Tr.lsub (pc := 49) d_X12_floor_49 ?_
            refine Tr.gen (P := fun v => ((-9223372036854775808) ≤ v ∧ v ≤ 9223372036854775807) ∧ (a2 ≠ 1000 ∨ v = r10 - 1)) (sub1_p (by omega)) (fun r49 er49 br49 => ?_)
            refine Tr.goto (pc := 50) (tgt := 55) d_X12_floor_50 rfl ?_
            exact Tr.lret (pc := 55) d_X12_floor_55 rfl ⟨hS, _, rfl, by omega, by omega, by omega⟩
        refine Tr.if_ge (pc := 35) (tgt := 42) d_X12_floor_35 rfl (fun c35 => ?_) (fun c35 => ?_)
        · refine Tr.iconst (pc := 42) d_X12_floor_42 (by decide) ?_
          refine Tr.pick [1] (ls2 := [(4, (1, r10))]) rfl ?_
          exact J43 _ _ hS (by omega) (by first | assumption | omega)
        · refine Tr.iconst (pc := 38) d_X12_floor_38 (by decide) ?_
          refine Tr.goto (pc := 39) (tgt := 43) d_X12_floor_39 rfl ?_
          refine Tr.pick [1] (ls2 := [(4, (1, r10))]) rfl ?_
          exact J43 _ _ hS (by omega) (by first | assumption | omega)
      refine Tr.if_ge (pc := 24) (tgt := 31) d_X12_floor_24 rfl (fun c24 => ?_) (fun c24 => ?_)
      · refine Tr.iconst (pc := 31) d_X12_floor_31 (by decide) ?_
        refine Tr.pick [2, 0] (ls2 := [(2, (1, a2)), (4, (1, r10))]) rfl ?_
        exact J32 _ _ hS (by omega) (by first | assumption | omega)
      · refine Tr.iconst (pc := 27) d_X12_floor_27 (by decide) ?_
        refine Tr.goto (pc := 28) (tgt := 32) d_X12_floor_28 rfl ?_
        refine Tr.pick [2, 0] (ls2 := [(2, (1, a2)), (4, (1, r10))]) rfl ?_
        exact J32 _ _ hS (by omega) (by first | assumption | omega)
  · refine Tr.lconst (pc := 6) (v := 0) d_X12_floor_6 rfl (by decide) ?_
    exact Tr.lret (pc := 7) d_X12_floor_7 rfl ⟨hS, _, rfl, by omega, by omega, by omega⟩

def ws_X12_held : List (Int × Int) := []
def as_X12_held : List Int := []
def q_X12_held (M0 M' : Mem) (r : Option PV) : Prop := St Tru ws_X12_held as_X12_held M0 M' ∧ ∃ v : Int, r = some (1, v) ∧ (-9223372036854775808) ≤ v ∧ v ≤ 9223372036854775807
set_option maxRecDepth 100000 in
set_option maxHeartbeats 4000000 in
theorem sp_X12_held {l : Launch} {K : EC} {M0 : Mem} (hI : In Tru M0)  (a0 : Int) (ha0 : (-9223372036854775808) ≤ a0 ∧ a0 ≤ 9223372036854775807)  : Tr l K 0 mX12_held 0 [(0, (1, a0))] [] M0 (q_X12_held M0) := by
  have hS : St Tru ws_X12_held as_X12_held M0 M0 := St.rf hI
  refine Tr.lload_n (pc := 0) (i := 0) d_X12_held_0 rfl rfl ?_
  refine Tr.ldc2 (pc := 1) d_X12_held_1 kl_12_594 (by decide) ?_
  refine Tr.lcmp (pc := 4) d_X12_held_4 ?_
  refine Tr.gen (P := fun v => (v = 1 ∧ 1000000 < a0) ∨ (v = 0 ∧ a0 = 1000000) ∨ (v = -1 ∧ a0 < 1000000)) (f_lcmp_c _ _) (fun r4 er4 br4 => ?_)
  refine Tr.if_le (pc := 5) (tgt := 14) d_X12_held_5 rfl (fun c5 => ?_) (fun c5 => ?_)
  · refine Tr.lload_n (pc := 14) (i := 0) d_X12_held_14 rfl rfl ?_
    refine Tr.ldc2 (pc := 15) d_X12_held_15 kl_12_596 (by decide) ?_
    refine Tr.lcmp (pc := 18) d_X12_held_18 ?_
    refine Tr.gen (P := fun v => (v = 1 ∧ (-1000000) < a0) ∨ (v = 0 ∧ a0 = (-1000000)) ∨ (v = -1 ∧ a0 < (-1000000))) (f_lcmp_c _ _) (fun r18 er18 br18 => ?_)
    refine Tr.if_ge (pc := 19) (tgt := 28) d_X12_held_19 rfl (fun c19 => ?_) (fun c19 => ?_)
    · refine Tr.lload_n (pc := 28) (i := 0) d_X12_held_28 rfl rfl ?_
      exact Tr.lret (pc := 29) d_X12_held_29 rfl ⟨hS, _, rfl, by omega, by omega⟩
    · refine Tr.ldc2 (pc := 22) d_X12_held_22 kl_12_596 (by decide) ?_
      refine Tr.goto (pc := 25) (tgt := 29) d_X12_held_25 rfl ?_
      exact Tr.lret (pc := 29) d_X12_held_29 rfl ⟨hS, _, rfl, by omega, by omega⟩
  · refine Tr.ldc2 (pc := 8) d_X12_held_8 kl_12_594 (by decide) ?_
    refine Tr.goto (pc := 11) (tgt := 29) d_X12_held_11 rfl ?_
    exact Tr.lret (pc := 29) d_X12_held_29 rfl ⟨hS, _, rfl, by omega, by omega⟩

def ws_X12_joined : List (Int × Int) := []
def as_X12_joined : List Int := []
def q_X12_joined (M0 M' : Mem) (r : Option PV) : Prop := St Tru ws_X12_joined as_X12_joined M0 M' ∧ ∃ v : Int, r = some (1, v) ∧ (-9223372036854775808) ≤ v ∧ v ≤ 9223372036854775807
set_option maxRecDepth 100000 in
set_option maxHeartbeats 4000000 in
theorem sp_X12_joined {l : Launch} {K : EC} {M0 : Mem} (hI : In Tru M0)  (a0 : Int) (ha0 : (-2147483648) ≤ a0 ∧ a0 ≤ 2147483647) (a1 : Int) (ha1 : (-9223372036854775808) ≤ a1 ∧ a1 ≤ 9223372036854775807) (a3 : Int) (ha3 : (-9223372036854775808) ≤ a3 ∧ a3 ≤ 9223372036854775807)  : Tr l K 1 mX12_joined 0 [(0, (0, a0)), (1, (1, a1)), (3, (1, a3))] [] M0 (q_X12_joined M0) := by
  have hS : St Tru ws_X12_joined as_X12_joined M0 M0 := St.rf hI
  refine Tr.iload_n (pc := 0) (i := 0) d_X12_joined_0 rfl rfl ?_
  rcases (show (a0 < 6 ∨ 16 < a0) ∨ a0 = 6 ∨ a0 = 7 ∨ a0 = 8 ∨ a0 = 9 ∨ a0 = 10 ∨ a0 = 11 ∨ a0 = 12 ∨ a0 = 13 ∨ a0 = 14 ∨ a0 = 15 ∨ a0 = 16 by omega) with c1 | c1 | c1 | c1 | c1 | c1 | c1 | c1 | c1 | c1 | c1 | c1
  · refine Tr.tswOut (pc := 1) (tgt := 171) d_X12_joined_1 c1 rfl ?_
    refine Tr.lload_n (pc := 171) (i := 1) d_X12_joined_171 rfl rfl ?_
    refine Tr.lload_n (pc := 172) (i := 3) d_X12_joined_172 rfl rfl ?_
    refine Tr.ladd (pc := 173) d_X12_joined_173 ?_
    refine Tr.gen (P := fun v => (-9223372036854775808) ≤ v ∧ v ≤ 9223372036854775807) (w64_b _) (fun r173 er173 br173 => ?_)
    refine Tr.lconst (pc := 174) (v := 0) d_X12_joined_174 rfl (by decide) ?_
    refine Tr.lcmp (pc := 175) d_X12_joined_175 ?_
    refine Tr.gen (P := fun v => (v = 1 ∧ 0 < r173) ∨ (v = 0 ∧ r173 = 0) ∨ (v = -1 ∧ r173 < 0)) (f_lcmp_c _ _) (fun r175 er175 br175 => ?_)
    refine Tr.if_le (pc := 176) (tgt := 183) d_X12_joined_176 rfl (fun c176 => ?_) (fun c176 => ?_)
    · refine Tr.lconst (pc := 183) (v := 0) d_X12_joined_183 rfl (by decide) ?_
      exact Tr.lret (pc := 184) d_X12_joined_184 rfl ⟨hS, _, rfl, by omega, by omega⟩
    · refine Tr.lconst (pc := 179) (v := 1) d_X12_joined_179 rfl (by decide) ?_
      refine Tr.goto (pc := 180) (tgt := 184) d_X12_joined_180 rfl ?_
      exact Tr.lret (pc := 184) d_X12_joined_184 rfl ⟨hS, _, rfl, by omega, by omega⟩
  · refine Tr.tp 6 c1 ?_
    refine Tr.tswIn (pc := 1) (off := 59) (tgt := 60) d_X12_joined_1 (by decide) (by decide) rfl rfl ?_
    refine Tr.lload_n (pc := 60) (i := 1) d_X12_joined_60 rfl rfl ?_
    refine Tr.lload_n (pc := 61) (i := 3) d_X12_joined_61 rfl rfl ?_
    refine Tr.ladd (pc := 62) d_X12_joined_62 ?_
    refine Tr.gen (P := fun v => (-9223372036854775808) ≤ v ∧ v ≤ 9223372036854775807) (w64_b _) (fun r62 er62 br62 => ?_)
    refine Tr.callS (pc := 63) (as := [_]) d_X12_joined_63 s_12_598 ok_X12_held rfl rfl (Nat.le_of_ble_eq_true rfl) (Nat.le_of_ble_eq_true rfl) ?_
    refine Tr.imp (Tr.deep (by decide) (sp_X12_held hS.1 r62 (by omega))) ?_
    rintro M63 _ ⟨h63, r63, rfl, lr63, ur63⟩
    have hS := St.tr hS h63 (by decide) (by decide)
    refine Tr.sc [(1, r63)] rfl ?_
    exact Tr.lret (pc := 66) d_X12_joined_66 rfl ⟨hS, _, rfl, by omega, by omega⟩
  · refine Tr.tp 7 c1 ?_
    refine Tr.tswIn (pc := 1) (off := 66) (tgt := 67) d_X12_joined_1 (by decide) (by decide) rfl rfl ?_
    refine Tr.lload_n (pc := 67) (i := 1) d_X12_joined_67 rfl rfl ?_
    refine Tr.lload_n (pc := 68) (i := 3) d_X12_joined_68 rfl rfl ?_
    refine Tr.lsub (pc := 69) d_X12_joined_69 ?_
    refine Tr.gen (P := fun v => (-9223372036854775808) ≤ v ∧ v ≤ 9223372036854775807) (w64_b _) (fun r69 er69 br69 => ?_)
    refine Tr.callS (pc := 70) (as := [_]) d_X12_joined_70 s_12_598 ok_X12_held rfl rfl (Nat.le_of_ble_eq_true rfl) (Nat.le_of_ble_eq_true rfl) ?_
    refine Tr.imp (Tr.deep (by decide) (sp_X12_held hS.1 r69 (by omega))) ?_
    rintro M70 _ ⟨h70, r70, rfl, lr70, ur70⟩
    have hS := St.tr hS h70 (by decide) (by decide)
    refine Tr.sc [(1, r70)] rfl ?_
    exact Tr.lret (pc := 73) d_X12_joined_73 rfl ⟨hS, _, rfl, by omega, by omega⟩
  · refine Tr.tp 8 c1 ?_
    refine Tr.tswIn (pc := 1) (off := 73) (tgt := 74) d_X12_joined_1 (by decide) (by decide) rfl rfl ?_
    refine Tr.lload_n (pc := 74) (i := 1) d_X12_joined_74 rfl rfl ?_
    refine Tr.lload_n (pc := 75) (i := 3) d_X12_joined_75 rfl rfl ?_
    refine Tr.lmul (pc := 76) d_X12_joined_76 ?_
    refine Tr.gen (P := fun v => (-9223372036854775808) ≤ v ∧ v ≤ 9223372036854775807) (w64_b _) (fun r76 er76 br76 => ?_)
    refine Tr.callS (pc := 77) (as := [_]) d_X12_joined_77 s_12_598 ok_X12_held rfl rfl (Nat.le_of_ble_eq_true rfl) (Nat.le_of_ble_eq_true rfl) ?_
    refine Tr.imp (Tr.deep (by decide) (sp_X12_held hS.1 r76 (by omega))) ?_
    rintro M77 _ ⟨h77, r77, rfl, lr77, ur77⟩
    have hS := St.tr hS h77 (by decide) (by decide)
    refine Tr.sc [(1, r77)] rfl ?_
    exact Tr.lret (pc := 80) d_X12_joined_80 rfl ⟨hS, _, rfl, by omega, by omega⟩
  · refine Tr.tp 9 c1 ?_
    refine Tr.tswIn (pc := 1) (off := 80) (tgt := 81) d_X12_joined_1 (by decide) (by decide) rfl rfl ?_
    refine Tr.lload_n (pc := 81) (i := 1) d_X12_joined_81 rfl rfl ?_
    refine Tr.lload_n (pc := 82) (i := 3) d_X12_joined_82 rfl rfl ?_
    refine Tr.callS (pc := 83) (as := [_, _]) d_X12_joined_83 s_12_602 ok_X12_floor rfl rfl (Nat.le_of_ble_eq_true rfl) (Nat.le_of_ble_eq_true rfl) ?_
    refine Tr.imp (Tr.deep (by decide) (sp_X12_floor hS.1 a1 (by omega) a3 (by omega))) ?_
    rintro M83 _ ⟨h83, r83, rfl, lr83, ur83, wr83⟩
    have hS := St.tr hS h83 (by decide) (by decide)
    refine Tr.sc [(1, r83)] rfl ?_
    exact Tr.lret (pc := 86) d_X12_joined_86 rfl ⟨hS, _, rfl, by omega, by omega⟩
  · refine Tr.tp 10 c1 ?_
    refine Tr.tswIn (pc := 1) (off := 86) (tgt := 87) d_X12_joined_1 (by decide) (by decide) rfl rfl ?_
    refine Tr.lload_n (pc := 87) (i := 3) d_X12_joined_87 rfl rfl ?_
    refine Tr.lconst (pc := 88) (v := 0) d_X12_joined_88 rfl (by decide) ?_
    refine Tr.lcmp (pc := 89) d_X12_joined_89 ?_
    refine Tr.gen (P := fun v => (v = 1 ∧ 0 < a3) ∨ (v = 0 ∧ a3 = 0) ∨ (v = -1 ∧ a3 < 0)) (f_lcmp_c _ _) (fun r89 er89 br89 => ?_)
    refine Tr.if_ne (pc := 90) (tgt := 97) d_X12_joined_90 rfl (fun c90 => ?_) (fun c90 => ?_)
    · refine Tr.lload_n (pc := 97) (i := 1) d_X12_joined_97 rfl rfl ?_
      refine Tr.lload_n (pc := 98) (i := 3) d_X12_joined_98 rfl rfl ?_
      refine Tr.lload_n (pc := 99) (i := 1) d_X12_joined_99 rfl rfl ?_
      refine Tr.lload_n (pc := 100) (i := 3) d_X12_joined_100 rfl rfl ?_
      refine Tr.callS (pc := 101) (as := [_, _]) d_X12_joined_101 s_12_602 ok_X12_floor rfl rfl (Nat.le_of_ble_eq_true rfl) (Nat.le_of_ble_eq_true rfl) ?_
      refine Tr.imp (Tr.deep (by decide) (sp_X12_floor hS.1 a1 (by omega) a3 (by omega))) ?_
      rintro M101 _ ⟨h101, r101, rfl, lr101, ur101, wr101⟩
      have hS := St.tr hS h101 (by decide) (by decide)
      refine Tr.sc [(1, r101), (1, a3), (1, a1)] rfl ?_
      refine Tr.lmul (pc := 104) d_X12_joined_104 ?_
      refine Tr.gen (P := fun v => (-9223372036854775808) ≤ v ∧ v ≤ 9223372036854775807) (w64_b _) (fun r104 er104 br104 => ?_)
      refine Tr.lsub (pc := 105) d_X12_joined_105 ?_
      refine Tr.gen (P := fun v => (-9223372036854775808) ≤ v ∧ v ≤ 9223372036854775807) (w64_b _) (fun r105 er105 br105 => ?_)
      exact Tr.lret (pc := 106) d_X12_joined_106 rfl ⟨hS, _, rfl, by omega, by omega⟩
    · refine Tr.lconst (pc := 93) (v := 0) d_X12_joined_93 rfl (by decide) ?_
      refine Tr.goto (pc := 94) (tgt := 106) d_X12_joined_94 rfl ?_
      exact Tr.lret (pc := 106) d_X12_joined_106 rfl ⟨hS, _, rfl, by omega, by omega⟩
  · refine Tr.tp 11 c1 ?_
    refine Tr.tswIn (pc := 1) (off := 106) (tgt := 107) d_X12_joined_1 (by decide) (by decide) rfl rfl ?_
    refine Tr.lload_n (pc := 107) (i := 1) d_X12_joined_107 rfl rfl ?_
    refine Tr.lload_n (pc := 108) (i := 3) d_X12_joined_108 rfl rfl ?_
    refine Tr.lcmp (pc := 109) d_X12_joined_109 ?_
    refine Tr.gen (P := fun v => (v = 1 ∧ a3 < a1) ∨ (v = 0 ∧ a1 = a3) ∨ (v = -1 ∧ a1 < a3)) (f_lcmp_c _ _) (fun r109 er109 br109 => ?_)
    refine Tr.if_ge (pc := 110) (tgt := 117) d_X12_joined_110 rfl (fun c110 => ?_) (fun c110 => ?_)
    · refine Tr.lload_n (pc := 117) (i := 3) d_X12_joined_117 rfl rfl ?_
      exact Tr.lret (pc := 118) d_X12_joined_118 rfl ⟨hS, _, rfl, by omega, by omega⟩
    · refine Tr.lload_n (pc := 113) (i := 1) d_X12_joined_113 rfl rfl ?_
      refine Tr.goto (pc := 114) (tgt := 118) d_X12_joined_114 rfl ?_
      exact Tr.lret (pc := 118) d_X12_joined_118 rfl ⟨hS, _, rfl, by omega, by omega⟩
  · refine Tr.tp 12 c1 ?_
    refine Tr.tswIn (pc := 1) (off := 118) (tgt := 119) d_X12_joined_1 (by decide) (by decide) rfl rfl ?_
    refine Tr.lload_n (pc := 119) (i := 1) d_X12_joined_119 rfl rfl ?_
    refine Tr.lload_n (pc := 120) (i := 3) d_X12_joined_120 rfl rfl ?_
    refine Tr.lcmp (pc := 121) d_X12_joined_121 ?_
    refine Tr.gen (P := fun v => (v = 1 ∧ a3 < a1) ∨ (v = 0 ∧ a1 = a3) ∨ (v = -1 ∧ a1 < a3)) (f_lcmp_c _ _) (fun r121 er121 br121 => ?_)
    refine Tr.if_le (pc := 122) (tgt := 129) d_X12_joined_122 rfl (fun c122 => ?_) (fun c122 => ?_)
    · refine Tr.lload_n (pc := 129) (i := 3) d_X12_joined_129 rfl rfl ?_
      exact Tr.lret (pc := 130) d_X12_joined_130 rfl ⟨hS, _, rfl, by omega, by omega⟩
    · refine Tr.lload_n (pc := 125) (i := 1) d_X12_joined_125 rfl rfl ?_
      refine Tr.goto (pc := 126) (tgt := 130) d_X12_joined_126 rfl ?_
      exact Tr.lret (pc := 130) d_X12_joined_130 rfl ⟨hS, _, rfl, by omega, by omega⟩
  · refine Tr.tp 13 c1 ?_
    refine Tr.tswIn (pc := 1) (off := 130) (tgt := 131) d_X12_joined_1 (by decide) (by decide) rfl rfl ?_
    refine Tr.lload_n (pc := 131) (i := 1) d_X12_joined_131 rfl rfl ?_
    refine Tr.lload_n (pc := 132) (i := 3) d_X12_joined_132 rfl rfl ?_
    refine Tr.lcmp (pc := 133) d_X12_joined_133 ?_
    refine Tr.gen (P := fun v => (v = 1 ∧ a3 < a1) ∨ (v = 0 ∧ a1 = a3) ∨ (v = -1 ∧ a1 < a3)) (f_lcmp_c _ _) (fun r133 er133 br133 => ?_)
    refine Tr.if_ge (pc := 134) (tgt := 141) d_X12_joined_134 rfl (fun c134 => ?_) (fun c134 => ?_)
    · refine Tr.lconst (pc := 141) (v := 0) d_X12_joined_141 rfl (by decide) ?_
      exact Tr.lret (pc := 142) d_X12_joined_142 rfl ⟨hS, _, rfl, by omega, by omega⟩
    · refine Tr.lconst (pc := 137) (v := 1) d_X12_joined_137 rfl (by decide) ?_
      refine Tr.goto (pc := 138) (tgt := 142) d_X12_joined_138 rfl ?_
      exact Tr.lret (pc := 142) d_X12_joined_142 rfl ⟨hS, _, rfl, by omega, by omega⟩
  · refine Tr.tp 14 c1 ?_
    refine Tr.tswIn (pc := 1) (off := 142) (tgt := 143) d_X12_joined_1 (by decide) (by decide) rfl rfl ?_
    refine Tr.lload_n (pc := 143) (i := 1) d_X12_joined_143 rfl rfl ?_
    refine Tr.lload_n (pc := 144) (i := 3) d_X12_joined_144 rfl rfl ?_
    refine Tr.lcmp (pc := 145) d_X12_joined_145 ?_
    refine Tr.gen (P := fun v => (v = 1 ∧ a3 < a1) ∨ (v = 0 ∧ a1 = a3) ∨ (v = -1 ∧ a1 < a3)) (f_lcmp_c _ _) (fun r145 er145 br145 => ?_)
    refine Tr.if_le (pc := 146) (tgt := 153) d_X12_joined_146 rfl (fun c146 => ?_) (fun c146 => ?_)
    · refine Tr.lconst (pc := 153) (v := 0) d_X12_joined_153 rfl (by decide) ?_
      exact Tr.lret (pc := 154) d_X12_joined_154 rfl ⟨hS, _, rfl, by omega, by omega⟩
    · refine Tr.lconst (pc := 149) (v := 1) d_X12_joined_149 rfl (by decide) ?_
      refine Tr.goto (pc := 150) (tgt := 154) d_X12_joined_150 rfl ?_
      exact Tr.lret (pc := 154) d_X12_joined_154 rfl ⟨hS, _, rfl, by omega, by omega⟩
  · refine Tr.tp 15 c1 ?_
    refine Tr.tswIn (pc := 1) (off := 154) (tgt := 155) d_X12_joined_1 (by decide) (by decide) rfl rfl ?_
    refine Tr.lload_n (pc := 155) (i := 1) d_X12_joined_155 rfl rfl ?_
    refine Tr.lload_n (pc := 156) (i := 3) d_X12_joined_156 rfl rfl ?_
    refine Tr.lcmp (pc := 157) d_X12_joined_157 ?_
    refine Tr.gen (P := fun v => (v = 1 ∧ a3 < a1) ∨ (v = 0 ∧ a1 = a3) ∨ (v = -1 ∧ a1 < a3)) (f_lcmp_c _ _) (fun r157 er157 br157 => ?_)
    refine Tr.if_ne (pc := 158) (tgt := 165) d_X12_joined_158 rfl (fun c158 => ?_) (fun c158 => ?_)
    · refine Tr.lconst (pc := 165) (v := 0) d_X12_joined_165 rfl (by decide) ?_
      exact Tr.lret (pc := 166) d_X12_joined_166 rfl ⟨hS, _, rfl, by omega, by omega⟩
    · refine Tr.lconst (pc := 161) (v := 1) d_X12_joined_161 rfl (by decide) ?_
      refine Tr.goto (pc := 162) (tgt := 166) d_X12_joined_162 rfl ?_
      exact Tr.lret (pc := 166) d_X12_joined_166 rfl ⟨hS, _, rfl, by omega, by omega⟩
  · refine Tr.tp 16 c1 ?_
    refine Tr.tswIn (pc := 1) (off := 166) (tgt := 167) d_X12_joined_1 (by decide) (by decide) rfl rfl ?_
    refine Tr.lload_n (pc := 167) (i := 1) d_X12_joined_167 rfl rfl ?_
    refine Tr.lload_n (pc := 168) (i := 3) d_X12_joined_168 rfl rfl ?_
    refine Tr.lmul (pc := 169) d_X12_joined_169 ?_
    refine Tr.gen (P := fun v => (-9223372036854775808) ≤ v ∧ v ≤ 9223372036854775807) (w64_b _) (fun r169 er169 br169 => ?_)
    exact Tr.lret (pc := 170) d_X12_joined_170 rfl ⟨hS, _, rfl, by omega, by omega⟩

def ws_X12_leaf_120 : List (Int × Int) := []
def as_X12_leaf_120 : List Int := []
def q_X12_leaf_120 (M0 M' : Mem) (r : Option PV) : Prop := St Tru ws_X12_leaf_120 as_X12_leaf_120 M0 M' ∧ ∃ v : Int, r = some (1, v) ∧ (-2147483648) ≤ v ∧ v ≤ 2147483647
set_option maxRecDepth 100000 in
set_option maxHeartbeats 4000000 in
theorem sp_X12_leaf_120 {l : Launch} {K : EC} {M0 : Mem} (hI : In Tru M0)  (a1 : Int) (ha1 : (-2147483648) ≤ a1 ∧ a1 ≤ 2147483647) (a2 : Int) (ha2 : (-2147483648) ≤ a2 ∧ a2 ≤ 2147483647) (hp0 : (a1 = 1 → 0 ≤ a2 ∧ a2 ≤ 2) ∧ (a1 = 2 ∨ a1 = 4 → 0 ≤ a2 ∧ a2 ≤ 5)) : Tr l K 0 mX12_leaf 0 [(0, (2, 120)), (1, (0, a1)), (2, (0, a2))] [] M0 (q_X12_leaf_120 M0) := by
  have hS : St Tru ws_X12_leaf_120 as_X12_leaf_120 M0 M0 := St.rf hI
  refine Tr.iload_n (pc := 0) (i := 1) d_X12_leaf_0 rfl rfl ?_
  rcases (show (a1 < 0 ∨ 4 < a1) ∨ a1 = 0 ∨ a1 = 1 ∨ a1 = 2 ∨ a1 = 3 ∨ a1 = 4 by omega) with c1 | c1 | c1 | c1 | c1 | c1
  · refine Tr.tswOut (pc := 1) (tgt := 76) d_X12_leaf_1 c1 rfl ?_
    refine Tr.lconst (pc := 76) (v := 1) d_X12_leaf_76 rfl (by decide) ?_
    exact Tr.lret (pc := 77) d_X12_leaf_77 rfl ⟨hS, _, rfl, by omega, by omega⟩
  · refine Tr.tp 0 c1 ?_
    refine Tr.tswIn (pc := 1) (off := 35) (tgt := 36) d_X12_leaf_1 (by decide) (by decide) rfl rfl ?_
    refine Tr.iload_n (pc := 36) (i := 2) d_X12_leaf_36 rfl rfl ?_
    refine Tr.i2l (pc := 37) d_X12_leaf_37 ?_
    exact Tr.lret (pc := 38) d_X12_leaf_38 rfl ⟨hS, _, rfl, by omega, by omega⟩
  · refine Tr.tp 1 c1 ?_
    refine Tr.tswIn (pc := 1) (off := 38) (tgt := 39) d_X12_leaf_1 (by decide) (by decide) rfl rfl ?_
    refine Tr.aload_n (pc := 39) (i := 0) d_X12_leaf_39 rfl rfl ?_
    refine Tr.getf (pc := 40) d_X12_leaf_40 f_12_171 (by decide) (by decide) (ty_120 hS.1.1) ?_
    refine Tr.tp 154 (fx_120_52 hS.1.1) ?_
    refine Tr.iload_n (pc := 43) (i := 2) d_X12_leaf_43 rfl rfl ?_
    refine Tr.iald (pc := 44) d_X12_leaf_44 (ty_154 hS.1.1) (by omega) (by omega) ?_
    refine Tr.gen (P := fun v => (-2147483648) ≤ v ∧ v ≤ 2147483647) (ar_154 hS.1.2.1 _) (fun r44 er44 br44 => ?_)
    refine Tr.i2l (pc := 45) d_X12_leaf_45 ?_
    exact Tr.lret (pc := 46) d_X12_leaf_46 rfl ⟨hS, _, rfl, by omega, by omega⟩
  · refine Tr.tp 2 c1 ?_
    refine Tr.tswIn (pc := 1) (off := 46) (tgt := 47) d_X12_leaf_1 (by decide) (by decide) rfl rfl ?_
    refine Tr.aload_n (pc := 47) (i := 0) d_X12_leaf_47 rfl rfl ?_
    refine Tr.getf (pc := 48) d_X12_leaf_48 f_12_174 (by decide) (by decide) (ty_120 hS.1.1) ?_
    refine Tr.tp 155 (fx_120_53 hS.1.1) ?_
    refine Tr.iload_n (pc := 51) (i := 2) d_X12_leaf_51 rfl rfl ?_
    refine Tr.iald (pc := 52) d_X12_leaf_52 (ty_155 hS.1.1) (by omega) (by omega) ?_
    refine Tr.gen (P := fun v => (-2147483648) ≤ v ∧ v ≤ 2147483647) (ar_155 hS.1.2.1 _) (fun r52 er52 br52 => ?_)
    refine Tr.i2l (pc := 53) d_X12_leaf_53 ?_
    exact Tr.lret (pc := 54) d_X12_leaf_54 rfl ⟨hS, _, rfl, by omega, by omega⟩
  · refine Tr.tp 3 c1 ?_
    refine Tr.tswIn (pc := 1) (off := 54) (tgt := 55) d_X12_leaf_1 (by decide) (by decide) rfl rfl ?_
    refine Tr.aload_n (pc := 55) (i := 0) d_X12_leaf_55 rfl rfl ?_
    refine Tr.getf (pc := 56) d_X12_leaf_56 f_12_201 (by decide) (by decide) (ty_120 hS.1.1) ?_
    refine Tr.gen (P := fun v => 0 ≤ v ∧ v ≤ 2060) (ir_120_62 hS.1.2.1) (fun r56 er56 br56 => ?_)
    refine Tr.i2l (pc := 59) d_X12_leaf_59 ?_
    exact Tr.lret (pc := 60) d_X12_leaf_60 rfl ⟨hS, _, rfl, by omega, by omega⟩
  · refine Tr.tp 4 c1 ?_
    refine Tr.tswIn (pc := 1) (off := 60) (tgt := 61) d_X12_leaf_1 (by decide) (by decide) rfl rfl ?_
    refine Tr.aload_n (pc := 61) (i := 0) d_X12_leaf_61 rfl rfl ?_
    refine Tr.getf (pc := 62) d_X12_leaf_62 f_12_177 (by decide) (by decide) (ty_120 hS.1.1) ?_
    refine Tr.tp 156 (fx_120_54 hS.1.1) ?_
    refine Tr.iload_n (pc := 65) (i := 2) d_X12_leaf_65 rfl rfl ?_
    refine Tr.zald (pc := 66) d_X12_leaf_66 (ty_156 hS.1.1) (by omega) (by omega) ?_
    refine Tr.gen (P := fun v => 0 ≤ v ∧ v ≤ 1) (ar_156 hS.1.2.1 _) (fun r66 er66 br66 => ?_)
    refine Tr.if_eq (pc := 67) (tgt := 74) d_X12_leaf_67 rfl (fun c67 => ?_) (fun c67 => ?_)
    · refine Tr.lconst (pc := 74) (v := 0) d_X12_leaf_74 rfl (by decide) ?_
      exact Tr.lret (pc := 75) d_X12_leaf_75 rfl ⟨hS, _, rfl, by omega, by omega⟩
    · refine Tr.lconst (pc := 70) (v := 1) d_X12_leaf_70 rfl (by decide) ?_
      refine Tr.goto (pc := 71) (tgt := 75) d_X12_leaf_71 rfl ?_
      exact Tr.lret (pc := 75) d_X12_leaf_75 rfl ⟨hS, _, rfl, by omega, by omega⟩

def ws_X12_works_120 : List (Int × Int) := []
def as_X12_works_120 : List Int := [172]
def q_X12_works_120 (M0 M' : Mem) (r : Option PV) : Prop := St Tru ws_X12_works_120 as_X12_works_120 M0 M' ∧ ∃ v : Int, r = some (1, v) ∧ (-9223372036854775808) ≤ v ∧ v ≤ 9223372036854775807
set_option maxRecDepth 100000 in
set_option maxHeartbeats 4000000 in
theorem sp_X12_works_120 {l : Launch} {K : EC} {M0 : Mem} (hI : In Tru M0) (en_120_12 : rd M0 120 12 = 0) (a1 : Int) (ha1 : 0 ≤ a1 ∧ a1 ≤ 399)  (hq0 : 0 ≤ a1 ∧ a1 < 0 + rd M0 136 0) (hF_Bk0 : Bk0 M0) : Tr l K 2 mX12_works 0 [(0, (2, 120)), (1, (0, a1))] [] M0 (q_X12_works_120 M0) := by
  have hS : St Tru ws_X12_works_120 as_X12_works_120 M0 M0 := St.rf hI
  obtain ⟨g136_0, eg136_0⟩ : ∃ v, rd M0 136 0 = v := ⟨_, rfl⟩
  have bg136_0 : 0 ≤ g136_0 ∧ g136_0 ≤ 200 := by rw [← eg136_0]; exact ir_136_0 hI.2.1
  refine Tr.iconst (pc := 0) d_X12_works_0 (by decide) ?_
  refine Tr.istore_n (pc := 1) (i := 2) (ls2 := [(2, (0, 0)), (0, (2, 120)), (1, (0, a1))]) d_X12_works_1 rfl (by decide) rfl ?_
  refine Tr.sipush (pc := 2) d_X12_works_2 rfl (by decide) ?_
  refine Tr.aload_n (pc := 5) (i := 0) d_X12_works_5 rfl rfl ?_
  refine Tr.getf (pc := 6) d_X12_works_6 f_12_48 (by decide) (by decide) (ty_120 hS.1.1) ?_
  refine Tr.tp 0 ((St.kp hS (by decide) (by decide) (by decide)).trans en_120_12) ?_
  refine Tr.imul (pc := 9) d_X12_works_9 ?_
  refine Tr.tp 0 (by decide) ?_
  refine Tr.aload_n (pc := 10) (i := 0) d_X12_works_10 rfl rfl ?_
  refine Tr.getf (pc := 11) d_X12_works_11 f_12_106 (by decide) (by decide) (ty_120 hS.1.1) ?_
  refine Tr.tp 140 (fx_120_31 hS.1.1) ?_
  refine Tr.iload_n (pc := 14) (i := 1) d_X12_works_14 rfl rfl ?_
  refine Tr.iald (pc := 15) d_X12_works_15 (ty_140 hS.1.1) (by omega) (by omega) ?_
  refine Tr.gen (P := fun v => 0 ≤ v ∧ v ≤ 900) (ar_140 hS.1.2.1 _) (fun r15 er15 br15 => ?_)
  refine Tr.iadd (pc := 16) d_X12_works_16 ?_
  refine Tr.tp r15 ((w32_id (by omega)).trans (by omega)) ?_
  refine Tr.istore_n (pc := 17) (i := 3) (ls2 := [(3, (0, r15)), (2, (0, 0)), (0, (2, 120)), (1, (0, a1))]) d_X12_works_17 rfl (by decide) rfl ?_
  have J18 : ∀ (n18 : Nat) (M : Mem) (p18_2 p18_3 : Int), St Tru ws_X12_works_120 as_X12_works_120 M0 M → (0 ≤ p18_2 ∧ p18_2 ≤ 950) → (0 ≤ p18_3 ∧ p18_3 ≤ 900) → rd M 136 0 = g136_0 → rd M 140 a1 = r15 → (p18_2 = dp M0 (0 + rd M0 140 a1) (p18_3 - (0 + rd M0 140 a1)).toNat ∧ (0 + rd M0 140 a1) ≤ p18_3) → (0 ≤ p18_2 ∧ p18_2 ≤ 900) → (900 - p18_3).toNat < n18 → Tr l K 2 mX12_works 18 [(0, (2, 120)), (1, (0, a1)), (2, (0, p18_2)), (3, (0, p18_3))] [] M (q_X12_works_120 M0) := by
    intro n18
    induction n18 with
    | zero => intro M p18_2 p18_3 hS bp18_2 bp18_3 k18_136_0 k18_140_a110 t18_0 t18_1 hm18; exact absurd hm18 (Nat.not_lt_zero _)
    | succ n18 J18 =>
      intro M p18_2 p18_3 hS bp18_2 bp18_3 k18_136_0 k18_140_a110 t18_0 t18_1 hm18
      refine Tr.iload_n (pc := 18) (i := 3) d_X12_works_18 rfl rfl ?_
      refine Tr.sipush (pc := 19) d_X12_works_19 rfl (by decide) ?_
      refine Tr.aload_n (pc := 22) (i := 0) d_X12_works_22 rfl rfl ?_
      refine Tr.getf (pc := 23) d_X12_works_23 f_12_48 (by decide) (by decide) (ty_120 hS.1.1) ?_
      refine Tr.tp 0 ((St.kp hS (by decide) (by decide) (by decide)).trans en_120_12) ?_
      refine Tr.imul (pc := 26) d_X12_works_26 ?_
      refine Tr.tp 0 (by decide) ?_
      refine Tr.aload_n (pc := 27) (i := 0) d_X12_works_27 rfl rfl ?_
      refine Tr.getf (pc := 28) d_X12_works_28 f_12_109 (by decide) (by decide) (ty_120 hS.1.1) ?_
      refine Tr.tp 141 (fx_120_32 hS.1.1) ?_
      refine Tr.iload_n (pc := 31) (i := 1) d_X12_works_31 rfl rfl ?_
      refine Tr.iald (pc := 32) d_X12_works_32 (ty_141 hS.1.1) (by omega) (by omega) ?_
      refine Tr.gen (P := fun v => 0 ≤ v ∧ v ≤ 900) (ar_141 hS.1.2.1 _) (fun r32 er32 br32 => ?_)
      refine Tr.iadd (pc := 33) d_X12_works_33 ?_
      refine Tr.tp r32 ((w32_id (by omega)).trans (by omega)) ?_
      refine Tr.icmp_ge (pc := 34) (tgt := 139) d_X12_works_34 rfl (fun c34 => ?_) (fun c34 => ?_)
      · refine Tr.aload_n (pc := 139) (i := 0) d_X12_works_139 rfl rfl ?_
        refine Tr.getf (pc := 140) d_X12_works_140 f_12_264 (by decide) (by decide) (ty_120 hS.1.1) ?_
        refine Tr.tp 172 (fx_120_83 hS.1.1) ?_
        refine Tr.iconst (pc := 143) d_X12_works_143 (by decide) ?_
        refine Tr.lald (pc := 144) d_X12_works_144 (ty_172 hS.1.1) (by omega) (by omega) ?_
        refine Tr.gen (P := fun v => (-9223372036854775808) ≤ v ∧ v ≤ 9223372036854775807) (ar_172 hS.1.2.1 _) (fun r144 er144 br144 => ?_)
        exact Tr.lret (pc := 145) d_X12_works_145 rfl ⟨hS, _, rfl, by omega, by omega⟩
      · refine Tr.aload_n (pc := 37) (i := 0) d_X12_works_37 rfl rfl ?_
        refine Tr.getf (pc := 38) d_X12_works_38 f_12_115 (by decide) (by decide) (ty_120 hS.1.1) ?_
        refine Tr.tp 143 (fx_120_34 hS.1.1) ?_
        refine Tr.iload_n (pc := 41) (i := 3) d_X12_works_41 rfl rfl ?_
        refine Tr.iald (pc := 42) d_X12_works_42 (ty_143 hS.1.1) (by omega) (by omega) ?_
        refine Tr.gen (P := fun v => (-2147483648) ≤ v ∧ v ≤ 2147483647) (ar_143 hS.1.2.1 _) (fun r42 er42 br42 => ?_)
        have hw0 : rd M0 143 p18_3 = r42 := (St.ka hS (by decide) (by decide) (by decide)).symm.trans er42
        have hw1 := Bk0_wf hF_Bk0 (i := a1) (j := p18_3) (by omega) (by omega) (by omega) (by have h9 : rd M 141 a1 = rd M0 141 a1 := St.ka hS (by decide) (by decide) (by decide); omega)
        rw [hw0, ← t18_0.1] at hw1
        refine Tr.istore (pc := 43) (i := 4) (ls2 := [(4, (0, r42)), (0, (2, 120)), (1, (0, a1)), (2, (0, p18_2)), (3, (0, p18_3))]) d_X12_works_43 (by decide) rfl ?_
        refine Tr.iload (pc := 45) (i := 4) d_X12_works_45 rfl ?_
        refine Tr.iconst (pc := 47) d_X12_works_47 (by decide) ?_
        have J133 : ∀ (M : Mem) (p133_2 : Int), St Tru ws_X12_works_120 as_X12_works_120 M0 M → (1 ≤ p133_2 ∧ p133_2 ≤ 950) → rd M 136 0 = g136_0 → rd M 140 a1 = r15 → rd M 141 a1 = r32 → rd M 143 p18_3 = r42 → (p133_2 = dp M0 (0 + rd M0 140 a1) (p18_3 + 1 - (0 + rd M0 140 a1)).toNat ∧ 0 ≤ p133_2 ∧ p133_2 ≤ 900) → Tr l K 2 mX12_works 133 [(0, (2, 120)), (1, (0, a1)), (2, (0, p133_2)), (3, (0, p18_3))] [] M (q_X12_works_120 M0) := by
          intro M p133_2 hS bp133_2 k133_136_0 k133_140_a110 k133_141_a110 k133_143_p18_310 tp133_0
          refine Tr.iincV (pc := 133) (n2 := (p18_3 + 1)) (ls2 := [(3, (0, (p18_3 + 1))), (0, (2, 120)), (1, (0, a1)), (2, (0, p133_2))]) d_X12_works_133 rfl (by decide) ((w32_id (by omega)).trans (by omega)) rfl ?_
          refine Tr.goto (pc := 136) (tgt := 18) d_X12_works_136 rfl ?_
          refine Tr.pick [1, 2, 3, 0] (ls2 := [(0, (2, 120)), (1, (0, a1)), (2, (0, p133_2)), (3, (0, (p18_3 + 1)))]) rfl ?_
          exact J18 _ _ _ hS (by omega) (by omega) k133_136_0 k133_140_a110 (by omega) (by omega) (by omega)
        refine Tr.icmp_gt (pc := 48) (tgt := 75) d_X12_works_48 rfl (fun c48 => ?_) (fun c48 => ?_)
        · refine Tr.iload (pc := 75) (i := 4) d_X12_works_75 rfl ?_
          refine Tr.bipush (pc := 77) d_X12_works_77 rfl (by decide) ?_
          refine Tr.icmp_ne (pc := 79) (tgt := 103) d_X12_works_79 rfl (fun c79 => ?_) (fun c79 => ?_)
          · refine Tr.iincV (pc := 103) (n2 := (p18_2 - 1)) (ls2 := [(2, (0, (p18_2 - 1))), (4, (0, r42)), (0, (2, 120)), (1, (0, a1)), (3, (0, p18_3))]) d_X12_works_103 rfl (by decide) ((w32_id (by omega)).trans (by omega)) rfl ?_
            refine Tr.aload_n (pc := 106) (i := 0) d_X12_works_106 rfl rfl ?_
            refine Tr.getf (pc := 107) d_X12_works_107 f_12_264 (by decide) (by decide) (ty_120 hS.1.1) ?_
            refine Tr.tp 172 (fx_120_83 hS.1.1) ?_
            refine Tr.iload_n (pc := 110) (i := 2) d_X12_works_110 rfl rfl ?_
            refine Tr.iconst (pc := 111) d_X12_works_111 (by decide) ?_
            refine Tr.isub (pc := 112) d_X12_works_112 ?_
            refine Tr.tp (p18_2 - 2) ((w32_id (by omega)).trans (by omega)) ?_
            refine Tr.iload (pc := 113) (i := 4) d_X12_works_113 rfl ?_
            refine Tr.aload_n (pc := 115) (i := 0) d_X12_works_115 rfl rfl ?_
            refine Tr.getf (pc := 116) d_X12_works_116 f_12_264 (by decide) (by decide) (ty_120 hS.1.1) ?_
            refine Tr.tp 172 (fx_120_83 hS.1.1) ?_
            refine Tr.iload_n (pc := 119) (i := 2) d_X12_works_119 rfl rfl ?_
            refine Tr.iconst (pc := 120) d_X12_works_120 (by decide) ?_
            refine Tr.isub (pc := 121) d_X12_works_121 ?_
            refine Tr.tp (p18_2 - 2) ((w32_id (by omega)).trans (by omega)) ?_
            refine Tr.lald (pc := 122) d_X12_works_122 (ty_172 hS.1.1) (by omega) (by omega) ?_
            refine Tr.gen (P := fun v => (-9223372036854775808) ≤ v ∧ v ≤ 9223372036854775807) (ar_172 hS.1.2.1 _) (fun r122 er122 br122 => ?_)
            refine Tr.aload_n (pc := 123) (i := 0) d_X12_works_123 rfl rfl ?_
            refine Tr.getf (pc := 124) d_X12_works_124 f_12_264 (by decide) (by decide) (ty_120 hS.1.1) ?_
            refine Tr.tp 172 (fx_120_83 hS.1.1) ?_
            refine Tr.iload_n (pc := 127) (i := 2) d_X12_works_127 rfl rfl ?_
            refine Tr.lald (pc := 128) d_X12_works_128 (ty_172 hS.1.1) (by omega) (by omega) ?_
            refine Tr.gen (P := fun v => (-9223372036854775808) ≤ v ∧ v ≤ 9223372036854775807) (ar_172 hS.1.2.1 _) (fun r128 er128 br128 => ?_)
            refine Tr.callS (pc := 129) (as := [_, _, _]) d_X12_works_129 s_12_610 ok_X12_joined rfl rfl (Nat.le_of_ble_eq_true rfl) (Nat.le_of_ble_eq_true rfl) ?_
            refine Tr.imp (Tr.deep (by decide) (sp_X12_joined hS.1 r42 (by omega) r122 (by omega) r128 (by omega))) ?_
            rintro M129 _ ⟨h129, r129, rfl, lr129, ur129⟩
            have hS := St.tr hS h129 (by decide) (by decide)
            refine Tr.sc [(1, r129), (0, (p18_2 - 2)), (2, 172)] rfl ?_
            refine Tr.lastS (pc := 132) (P := St Tru ws_X12_works_120 as_X12_works_120 M0) d_X12_works_132 (ty_172 hS.1.1) (by omega) (by omega) (sa_172 hS (by decide) (by omega) trivial) (fun M132 hS w132 => ?_)
            refine Tr.pick [2, 3, 0, 4] (ls2 := [(0, (2, 120)), (1, (0, a1)), (2, (0, (p18_2 - 1))), (3, (0, p18_3))]) rfl ?_
            exact J133 _ _ hS (by omega) ((Wr.b w132 rfl).trans ((St.kp h129 (by decide) (by decide) (by decide)).trans k18_136_0)) ((Wr.b w132 rfl).trans ((St.ka h129 (by decide) (by decide) (by decide)).trans k18_140_a110)) ((Wr.b w132 rfl).trans ((St.ka h129 (by decide) (by decide) (by decide)).trans er32)) ((Wr.b w132 rfl).trans ((St.ka h129 (by decide) (by decide) (by decide)).trans er42)) ((wk_b hw1 (by omega) (by omega) (by omega)).2.2 (by omega) (by omega))
          · refine Tr.aload_n (pc := 82) (i := 0) d_X12_works_82 rfl rfl ?_
            refine Tr.getf (pc := 83) d_X12_works_83 f_12_264 (by decide) (by decide) (ty_120 hS.1.1) ?_
            refine Tr.tp 172 (fx_120_83 hS.1.1) ?_
            refine Tr.iload_n (pc := 86) (i := 2) d_X12_works_86 rfl rfl ?_
            refine Tr.iconst (pc := 87) d_X12_works_87 (by decide) ?_
            refine Tr.isub (pc := 88) d_X12_works_88 ?_
            refine Tr.tp (p18_2 - 1) ((w32_id (by omega)).trans (by omega)) ?_
            refine Tr.lconst (pc := 89) (v := 1) d_X12_works_89 rfl (by decide) ?_
            refine Tr.aload_n (pc := 90) (i := 0) d_X12_works_90 rfl rfl ?_
            refine Tr.getf (pc := 91) d_X12_works_91 f_12_264 (by decide) (by decide) (ty_120 hS.1.1) ?_
            refine Tr.tp 172 (fx_120_83 hS.1.1) ?_
            refine Tr.iload_n (pc := 94) (i := 2) d_X12_works_94 rfl rfl ?_
            refine Tr.iconst (pc := 95) d_X12_works_95 (by decide) ?_
            refine Tr.isub (pc := 96) d_X12_works_96 ?_
            refine Tr.tp (p18_2 - 1) ((w32_id (by omega)).trans (by omega)) ?_
            refine Tr.lald (pc := 97) d_X12_works_97 (ty_172 hS.1.1) (by omega) (by omega) ?_
            refine Tr.gen (P := fun v => (-9223372036854775808) ≤ v ∧ v ≤ 9223372036854775807) (ar_172 hS.1.2.1 _) (fun r97 er97 br97 => ?_)
            refine Tr.lsub (pc := 98) d_X12_works_98 ?_
            refine Tr.gen (P := fun v => (-9223372036854775808) ≤ v ∧ v ≤ 9223372036854775807) (w64_b _) (fun r98 er98 br98 => ?_)
            refine Tr.lastS (pc := 99) (P := St Tru ws_X12_works_120 as_X12_works_120 M0) d_X12_works_99 (ty_172 hS.1.1) (by omega) (by omega) (sa_172 hS (by decide) (by omega) trivial) (fun M99 hS w99 => ?_)
            refine Tr.goto (pc := 100) (tgt := 133) d_X12_works_100 rfl ?_
            refine Tr.pick [1, 2, 3, 4] (ls2 := [(0, (2, 120)), (1, (0, a1)), (2, (0, p18_2)), (3, (0, p18_3))]) rfl ?_
            exact J133 _ _ hS (by omega) ((Wr.b w99 rfl).trans k18_136_0) ((Wr.b w99 rfl).trans k18_140_a110) ((Wr.b w99 rfl).trans er32) ((Wr.b w99 rfl).trans er42) ((wk_b hw1 (by omega) (by omega) (by omega)).2.1 (by omega))
        · refine Tr.aload_n (pc := 51) (i := 0) d_X12_works_51 rfl rfl ?_
          refine Tr.getf (pc := 52) d_X12_works_52 f_12_264 (by decide) (by decide) (ty_120 hS.1.1) ?_
          refine Tr.tp 172 (fx_120_83 hS.1.1) ?_
          refine Tr.iload_n (pc := 55) (i := 2) d_X12_works_55 rfl rfl ?_
          refine Tr.aload_n (pc := 56) (i := 0) d_X12_works_56 rfl rfl ?_
          refine Tr.iload (pc := 57) (i := 4) d_X12_works_57 rfl ?_
          refine Tr.aload_n (pc := 59) (i := 0) d_X12_works_59 rfl rfl ?_
          refine Tr.getf (pc := 60) d_X12_works_60 f_12_118 (by decide) (by decide) (ty_120 hS.1.1) ?_
          refine Tr.tp 144 (fx_120_35 hS.1.1) ?_
          refine Tr.iload_n (pc := 63) (i := 3) d_X12_works_63 rfl rfl ?_
          refine Tr.iald (pc := 64) d_X12_works_64 (ty_144 hS.1.1) (by omega) (by omega) ?_
          refine Tr.gen (P := fun v => ((-2147483648) ≤ v ∧ v ≤ 2147483647) ∧ ((r42 = 1 → 0 ≤ v ∧ v ≤ 2) ∧ (r42 = 2 ∨ r42 = 4 → 0 ≤ v ∧ v ≤ 5))) (by have h8 := gc_at hS.1.2.2 143 144 (by decide) er42; have h9 := (ar_144 hS.1.2.1 (p18_3)); exact ⟨h9, h8⟩) (fun r64 er64 br64 => ?_)
          refine Tr.callV (pc := 65) (as := [_, _]) d_X12_works_65 s_12_606 ok_X12_leaf rfl rfl (Nat.le_of_ble_eq_true rfl) (Nat.le_of_ble_eq_true rfl) (by decide) (ty_120 hS.1.1) ?_
          refine Tr.imp (Tr.deep (by decide) (sp_X12_leaf_120 hS.1 r42 (by omega) r64 (by omega) (by omega))) ?_
          rintro M65 _ ⟨h65, r65, rfl, lr65, ur65⟩
          have hS := St.tr hS h65 (by decide) (by decide)
          refine Tr.sc [(1, r65), (0, p18_2), (2, 172)] rfl ?_
          refine Tr.lastS (pc := 68) (P := St Tru ws_X12_works_120 as_X12_works_120 M0) d_X12_works_68 (ty_172 hS.1.1) (by omega) (by omega) (sa_172 hS (by decide) (by omega) trivial) (fun M68 hS w68 => ?_)
          refine Tr.iincV (pc := 69) (n2 := (p18_2 + 1)) (ls2 := [(2, (0, (p18_2 + 1))), (4, (0, r42)), (0, (2, 120)), (1, (0, a1)), (3, (0, p18_3))]) d_X12_works_69 rfl (by decide) ((w32_id (by omega)).trans (by omega)) rfl ?_
          refine Tr.goto (pc := 72) (tgt := 133) d_X12_works_72 rfl ?_
          refine Tr.pick [2, 3, 0, 4] (ls2 := [(0, (2, 120)), (1, (0, a1)), (2, (0, (p18_2 + 1))), (3, (0, p18_3))]) rfl ?_
          exact J133 _ _ hS (by omega) ((Wr.b w68 rfl).trans ((St.kp h65 (by decide) (by decide) (by decide)).trans k18_136_0)) ((Wr.b w68 rfl).trans ((St.ka h65 (by decide) (by decide) (by decide)).trans k18_140_a110)) ((Wr.b w68 rfl).trans ((St.ka h65 (by decide) (by decide) (by decide)).trans er32)) ((Wr.b w68 rfl).trans ((St.ka h65 (by decide) (by decide) (by decide)).trans er42)) ((wk_b hw1 (by omega) (by omega) (by omega)).1 (by omega))
  refine Tr.pick [2, 3, 1, 0] (ls2 := [(0, (2, 120)), (1, (0, a1)), (2, (0, 0)), (3, (0, r15))]) rfl ?_
  have hd0 : dp M0 (0 + rd M0 140 a1) (r15 - (0 + rd M0 140 a1)).toNat = 0 := by rw [show (r15 - (0 + rd M0 140 a1)).toNat = 0 by omega]; rfl
  exact J18 _ _ _ _ hS (by omega) (by omega) eg136_0 er15 (by omega) (by omega) (Nat.lt_succ_self _)
end
/-! 36.04 -/
section
def ws_X12_acts_120 : List (Int × Int) := [(120, 75)]
def as_X12_acts_120 : List Int := [159, 166, 167, 168]
def q_X12_acts_120 (a1 : Int) (a2 : Int) (a3 : Int) (M0 M' : Mem) (r : Option PV) : Prop := St Tru ws_X12_acts_120 as_X12_acts_120 M0 M' ∧ r = none ∧ (rd M0 120 75 ≤ rd M' 120 75 ∧ rd M' 120 75 ≤ rd M0 120 75 + 1)
set_option maxRecDepth 100000 in
set_option maxHeartbeats 4000000 in
theorem sp_X12_acts_120 {l : Launch} {K : EC} {M0 : Mem} (hI : In Tru M0)  (a1 : Int) (ha1 : 0 ≤ a1 ∧ a1 ≤ 5) (a2 : Int) (ha2 : 0 ≤ a2 ∧ a2 ≤ 59) (a3 : Int) (ha3 : (-2147483648) ≤ a3 ∧ a3 ≤ 2147483647)  (hq0 : rd M0 120 75 ≤ 2099) : Tr l K 0 mX12_acts 0 [(0, (2, 120)), (1, (0, a1)), (2, (0, a2)), (3, (0, a3))] [] M0 (q_X12_acts_120 a1 a2 a3 M0) := by
  have hS : St Tru ws_X12_acts_120 as_X12_acts_120 M0 M0 := St.rf hI
  obtain ⟨g120_75, eg120_75⟩ : ∃ v, rd M0 120 75 = v := ⟨_, rfl⟩
  have bg120_75 : 0 ≤ g120_75 ∧ g120_75 ≤ 2100 := by rw [← eg120_75]; exact ir_120_75 hI.2.1
  refine Tr.aload_n (pc := 0) (i := 0) d_X12_acts_0 rfl rfl ?_
  refine Tr.getf (pc := 1) d_X12_acts_1 f_12_186 (by decide) (by decide) (ty_120 hS.1.1) ?_
  refine Tr.tp 159 (fx_120_57 hS.1.1) ?_
  refine Tr.iload_n (pc := 4) (i := 1) d_X12_acts_4 rfl rfl ?_
  refine Tr.iload_n (pc := 5) (i := 2) d_X12_acts_5 rfl rfl ?_
  refine Tr.iastS (pc := 6) (P := St Tru ws_X12_acts_120 as_X12_acts_120 M0) d_X12_acts_6 (ty_159 hS.1.1) (by omega) (by omega) (sa_159 hS (by decide) (by omega) trivial) (fun M6 hS w6 => ?_)
  refine Tr.aload_n (pc := 7) (i := 0) d_X12_acts_7 rfl rfl ?_
  refine Tr.getz (pc := 8) d_X12_acts_8 f_12_225 (by decide) (ty_120 hS.1.1) ?_
  refine Tr.gen (P := fun v => 0 ≤ v ∧ v ≤ 1) (ir_120_70 hS.1.2.1) (fun r8 er8 br8 => ?_)
  refine Tr.if_ne (pc := 11) (tgt := 15) d_X12_acts_11 rfl (fun c11 => ?_) (fun c11 => ?_)
  · refine Tr.aload_n (pc := 15) (i := 0) d_X12_acts_15 rfl rfl ?_
    refine Tr.getf (pc := 16) d_X12_acts_16 f_12_243 (by decide) (by decide) (ty_120 hS.1.1) ?_
    refine Tr.tp 166 (fx_120_76 hS.1.1) ?_
    refine Tr.aload_n (pc := 19) (i := 0) d_X12_acts_19 rfl rfl ?_
    refine Tr.getf (pc := 20) d_X12_acts_20 f_12_240 (by decide) (by decide) (ty_120 hS.1.1) ?_
    refine Tr.tp g120_75 ((Wr.b w6 rfl).trans eg120_75) ?_
    refine Tr.iload_n (pc := 23) (i := 1) d_X12_acts_23 rfl rfl ?_
    refine Tr.iastS (pc := 24) (P := St Tru ws_X12_acts_120 as_X12_acts_120 M0) d_X12_acts_24 (ty_166 hS.1.1) (by omega) (by omega) (sa_166 hS (by decide) (by omega) trivial) (fun M24 hS w24 => ?_)
    refine Tr.aload_n (pc := 25) (i := 0) d_X12_acts_25 rfl rfl ?_
    refine Tr.getf (pc := 26) d_X12_acts_26 f_12_246 (by decide) (by decide) (ty_120 hS.1.1) ?_
    refine Tr.tp 167 (fx_120_77 hS.1.1) ?_
    refine Tr.aload_n (pc := 29) (i := 0) d_X12_acts_29 rfl rfl ?_
    refine Tr.getf (pc := 30) d_X12_acts_30 f_12_240 (by decide) (by decide) (ty_120 hS.1.1) ?_
    refine Tr.tp g120_75 ((Wr.b w24 rfl).trans ((Wr.b w6 rfl).trans eg120_75)) ?_
    refine Tr.iload_n (pc := 33) (i := 2) d_X12_acts_33 rfl rfl ?_
    refine Tr.iastS (pc := 34) (P := St Tru ws_X12_acts_120 as_X12_acts_120 M0) d_X12_acts_34 (ty_167 hS.1.1) (by omega) (by omega) (sa_167 hS (by decide) (by omega) trivial) (fun M34 hS w34 => ?_)
    refine Tr.aload_n (pc := 35) (i := 0) d_X12_acts_35 rfl rfl ?_
    refine Tr.getf (pc := 36) d_X12_acts_36 f_12_249 (by decide) (by decide) (ty_120 hS.1.1) ?_
    refine Tr.tp 168 (fx_120_78 hS.1.1) ?_
    refine Tr.aload_n (pc := 39) (i := 0) d_X12_acts_39 rfl rfl ?_
    refine Tr.getf (pc := 40) d_X12_acts_40 f_12_240 (by decide) (by decide) (ty_120 hS.1.1) ?_
    refine Tr.tp g120_75 ((Wr.b w34 rfl).trans ((Wr.b w24 rfl).trans ((Wr.b w6 rfl).trans eg120_75))) ?_
    refine Tr.iload_n (pc := 43) (i := 3) d_X12_acts_43 rfl rfl ?_
    refine Tr.iastS (pc := 44) (P := St Tru ws_X12_acts_120 as_X12_acts_120 M0) d_X12_acts_44 (ty_168 hS.1.1) (by omega) (by omega) (sa_168 hS (by decide) (by omega) trivial) (fun M44 hS w44 => ?_)
    refine Tr.aload_n (pc := 45) (i := 0) d_X12_acts_45 rfl rfl ?_
    refine Tr.dup (pc := 46) d_X12_acts_46 ne21 ?_
    refine Tr.getf (pc := 47) d_X12_acts_47 f_12_240 (by decide) (by decide) (ty_120 hS.1.1) ?_
    refine Tr.tp g120_75 ((Wr.b w44 rfl).trans ((Wr.b w34 rfl).trans ((Wr.b w24 rfl).trans ((Wr.b w6 rfl).trans eg120_75)))) ?_
    refine Tr.iconst (pc := 50) d_X12_acts_50 (by decide) ?_
    refine Tr.iadd (pc := 51) d_X12_acts_51 ?_
    refine Tr.tp (g120_75 + 1) ((w32_id (by omega)).trans (by omega)) ?_
    refine Tr.putfS (pc := 52) (P := St Tru ws_X12_acts_120 as_X12_acts_120 M0) d_X12_acts_52 f_12_240 (by decide) (by decide) (ty_120 hS.1.1) (st_120_75 hS (by decide) (by omega) trivial) (fun M52 hS w52 => ?_)
    have kr_120_75 : rd M52 120 75 = (g120_75 + 1) := w52.1
    exact Tr.vret (pc := 55) d_X12_acts_55 rfl ⟨hS, rfl, by omega⟩
  · have kr_120_75 : rd M6 120 75 = g120_75 := ((Wr.b w6 rfl).trans eg120_75)
    exact Tr.vret (pc := 14) d_X12_acts_14 rfl ⟨hS, rfl, by omega⟩

def ws_X12_ticksOf_120 : List (Int × Int) := [(120, 59), (120, 61), (120, 62), (120, 63), (120, 68), (120, 75)]
def as_X12_ticksOf_120 : List Int := [158, 159, 161, 162, 163, 164, 165, 166, 167, 168]
def q_X12_ticksOf_120 (a1 : Int) (a2 : Int) (a3 : Int) (a4 : Int) (a5 : Int) (a6 : Int) (M0 M' : Mem) (r : Option PV) : Prop := St Tb0 ws_X12_ticksOf_120 as_X12_ticksOf_120 M0 M' ∧ ∃ v : Int, r = some (0, v) ∧ 0 ≤ v ∧ v ≤ 1 ∧ (rd M0 120 62 ≤ rd M' 120 62 ∧ rd M' 120 62 ≤ 2000) ∧ (v = 1 ∨ 1 ≤ rd M' 120 68) ∧ (rd M' 120 75 = rd M0 120 75 ∨ (rd M' 120 75 = rd M0 120 75 + 1 ∧ a5 = 1 ∧ 1 ≤ a3)) ∧ (rd M' 120 59 = -1)
set_option maxRecDepth 100000 in
set_option maxHeartbeats 4000000 in
theorem sp_X12_ticksOf_120 {l : Launch} {K : EC} {M0 : Mem} (hI : In Tb0 M0) (en_120_12 : rd M0 120 12 = 0) (a1 : Int) (ha1 : (-1) ≤ a1 ∧ a1 ≤ 5) (a2 : Int) (ha2 : 0 ≤ a2 ∧ a2 ≤ 3) (a3 : Int) (ha3 : (-2147483648) ≤ a3 ∧ a3 ≤ 2147483647) (a4 : Int) (ha4 : 0 ≤ a4 ∧ a4 ≤ 59) (a5 : Int) (ha5 : 0 ≤ a5 ∧ a5 ≤ 1) (a6 : Int) (ha6 : (-2147483648) ≤ a6 ∧ a6 ≤ 2147483647)  (hq0 : rd M0 120 62 ≤ 2000) (hq1 : rd M0 120 75 ≤ 2000) (hq2 : a2 ≠ 2) (hq3 : a5 = 0 ∨ 0 ≤ a1) (hF_Bk0 : Bk0 M0) : Tr l K 4 mX12_ticksOf 0 [(0, (2, 120)), (1, (0, a1)), (2, (0, a2)), (3, (0, a3)), (4, (0, a4)), (5, (0, a5)), (6, (0, a6))] [] M0 (q_X12_ticksOf_120 a1 a2 a3 a4 a5 a6 M0) := by
  have hS : St Tb0 ws_X12_ticksOf_120 as_X12_ticksOf_120 M0 M0 := St.rf hI
  obtain ⟨g120_62, eg120_62⟩ : ∃ v, rd M0 120 62 = v := ⟨_, rfl⟩
  have bg120_62 : 0 ≤ g120_62 ∧ g120_62 ≤ 2060 := by rw [← eg120_62]; exact ir_120_62 hI.2.1
  obtain ⟨g120_68, eg120_68⟩ : ∃ v, rd M0 120 68 = v := ⟨_, rfl⟩
  have bg120_68 : 0 ≤ g120_68 ∧ g120_68 ≤ 2 := by rw [← eg120_68]; exact ir_120_68 hI.2.1
  obtain ⟨g120_75, eg120_75⟩ : ∃ v, rd M0 120 75 = v := ⟨_, rfl⟩
  have bg120_75 : 0 ≤ g120_75 ∧ g120_75 ≤ 2100 := by rw [← eg120_75]; exact ir_120_75 hI.2.1
  obtain ⟨g120_61, eg120_61⟩ : ∃ v, rd M0 120 61 = v := ⟨_, rfl⟩
  have bg120_61 : 0 ≤ g120_61 ∧ g120_61 ≤ 3 := by rw [← eg120_61]; exact ir_120_61 hI.2.1
  refine Tr.aload_n (pc := 0) (i := 0) d_X12_ticksOf_0 rfl rfl ?_
  refine Tr.iload_n (pc := 1) (i := 1) d_X12_ticksOf_1 rfl rfl ?_
  refine Tr.putfS (pc := 2) (P := St Tb0 ws_X12_ticksOf_120 as_X12_ticksOf_120 M0) d_X12_ticksOf_2 f_12_192 (by decide) (by decide) (ty_120 hS.1.1) (st_120_59 hS (by decide) (by omega) (Tb0.of hS.1.2.2.2.2 (fun _ => rd_wb _ rfl) (rd_wb _ rfl))) (fun M2 hS w2 => ?_)
  refine Tr.aload_n (pc := 5) (i := 0) d_X12_ticksOf_5 rfl rfl ?_
  refine Tr.iload_n (pc := 6) (i := 2) d_X12_ticksOf_6 rfl rfl ?_
  refine Tr.putfS (pc := 7) (P := St Tb0 ws_X12_ticksOf_120 as_X12_ticksOf_120 M0) d_X12_ticksOf_7 f_12_198 (by decide) (by decide) (ty_120 hS.1.1) (st_120_61 hS (by decide) (by omega) (Tb0.of hS.1.2.2.2.2 (fun _ => rd_wb _ rfl) (rd_wb _ rfl))) (fun M7 hS w7 => ?_)
  refine Tr.iconst (pc := 10) d_X12_ticksOf_10 (by decide) ?_
  refine Tr.istore (pc := 11) (i := 7) (ls2 := [(7, (0, 1)), (0, (2, 120)), (1, (0, a1)), (2, (0, a2)), (3, (0, a3)), (4, (0, a4)), (5, (0, a5)), (6, (0, a6))]) d_X12_ticksOf_11 (by decide) rfl ?_
  refine Tr.iconst (pc := 13) d_X12_ticksOf_13 (by decide) ?_
  refine Tr.istore (pc := 14) (i := 8) (ls2 := [(8, (0, 0)), (7, (0, 1)), (0, (2, 120)), (1, (0, a1)), (2, (0, a2)), (3, (0, a3)), (4, (0, a4)), (5, (0, a5)), (6, (0, a6))]) d_X12_ticksOf_14 (by decide) rfl ?_
  have J16 : ∀ (n16 : Nat) (M : Mem) (p16_7 p16_8 u16_120_62 u16_120_68 u16_120_75 : Int), St Tb0 ws_X12_ticksOf_120 as_X12_ticksOf_120 M0 M → (0 ≤ p16_7 ∧ p16_7 ≤ 1) → (0 ≤ p16_8 ∧ p16_8 ≤ 2147483647) → (0 ≤ u16_120_62 ∧ u16_120_62 ≤ 2060) → (0 ≤ u16_120_68 ∧ u16_120_68 ≤ 2) → (0 ≤ u16_120_75 ∧ u16_120_75 ≤ 2100) → rd M 120 59 = a1 → rd M 120 61 = a2 → rd M 120 62 = u16_120_62 → rd M 120 68 = u16_120_68 → rd M 120 75 = u16_120_75 → (a2 ≠ 2) → (g120_62 ≤ u16_120_62 ∧ u16_120_62 ≤ 2000) → (p16_7 = 1 ∨ 1 ≤ u16_120_68) → (u16_120_75 = g120_75 ∨ (u16_120_75 = g120_75 + 1 ∧ a5 = 1 ∧ 1 ≤ a3)) → ((0 ≤ p16_8 ∧ u16_120_75 = g120_75) ∨ 1 ≤ p16_8) → (2147483647 - p16_8).toNat < n16 → Tr l K 4 mX12_ticksOf 16 [(0, (2, 120)), (1, (0, a1)), (3, (0, a3)), (4, (0, a4)), (5, (0, a5)), (6, (0, a6)), (7, (0, p16_7)), (8, (0, p16_8))] [] M (q_X12_ticksOf_120 a1 a2 a3 a4 a5 a6 M0) := by
    intro n16
    induction n16 with
    | zero => intro M p16_7 p16_8 u16_120_62 u16_120_68 u16_120_75 hS bp16_7 bp16_8 bu16_120_62 bu16_120_68 bu16_120_75 k16_120_59 k16_120_61 k16_120_62 k16_120_68 k16_120_75 t16_0 t16_1 t16_2 t16_3 t16_4 hm16; exact absurd hm16 (Nat.not_lt_zero _)
    | succ n16 J16 =>
      intro M p16_7 p16_8 u16_120_62 u16_120_68 u16_120_75 hS bp16_7 bp16_8 bu16_120_62 bu16_120_68 bu16_120_75 k16_120_59 k16_120_61 k16_120_62 k16_120_68 k16_120_75 t16_0 t16_1 t16_2 t16_3 t16_4 hm16
      refine Tr.iload (pc := 16) (i := 8) d_X12_ticksOf_16 rfl ?_
      refine Tr.iload_n (pc := 18) (i := 3) d_X12_ticksOf_18 rfl rfl ?_
      refine Tr.icmp_ge (pc := 19) (tgt := 65) d_X12_ticksOf_19 rfl (fun c19 => ?_) (fun c19 => ?_)
      · refine Tr.aload_n (pc := 65) (i := 0) d_X12_ticksOf_65 rfl rfl ?_
        refine Tr.iconst (pc := 66) d_X12_ticksOf_66 (by decide) ?_
        refine Tr.putfS (pc := 67) (P := St Tb0 ws_X12_ticksOf_120 as_X12_ticksOf_120 M0) d_X12_ticksOf_67 f_12_192 (by decide) (by decide) (ty_120 hS.1.1) (st_120_59 hS (by decide) (by omega) (Tb0.of hS.1.2.2.2.2 (fun _ => rd_wb _ rfl) (rd_wb _ rfl))) (fun M67 hS w67 => ?_)
        refine Tr.iload (pc := 70) (i := 7) d_X12_ticksOf_70 rfl ?_
        have kr_120_59 : rd M67 120 59 = (-1) := w67.1
        have kr_120_62 : rd M67 120 62 = u16_120_62 := ((Wr.b w67 rfl).trans k16_120_62)
        have kr_120_68 : rd M67 120 68 = u16_120_68 := ((Wr.b w67 rfl).trans k16_120_68)
        have kr_120_75 : rd M67 120 75 = u16_120_75 := ((Wr.b w67 rfl).trans k16_120_75)
        exact Tr.zret (pc := 72) d_X12_ticksOf_72 rfl (by omega) ⟨hS, _, rfl, by omega, by omega, by omega, by omega, by omega, by omega⟩
      · refine Tr.iload (pc := 22) (i := 7) d_X12_ticksOf_22 rfl ?_
        refine Tr.if_eq (pc := 24) (tgt := 65) d_X12_ticksOf_24 rfl (fun c24 => ?_) (fun c24 => ?_)
        · refine Tr.aload_n (pc := 65) (i := 0) d_X12_ticksOf_65 rfl rfl ?_
          refine Tr.iconst (pc := 66) d_X12_ticksOf_66 (by decide) ?_
          refine Tr.putfS (pc := 67) (P := St Tb0 ws_X12_ticksOf_120 as_X12_ticksOf_120 M0) d_X12_ticksOf_67 f_12_192 (by decide) (by decide) (ty_120 hS.1.1) (st_120_59 hS (by decide) (by omega) (Tb0.of hS.1.2.2.2.2 (fun _ => rd_wb _ rfl) (rd_wb _ rfl))) (fun M67 hS w67 => ?_)
          refine Tr.iload (pc := 70) (i := 7) d_X12_ticksOf_70 rfl ?_
          have kr_120_59 : rd M67 120 59 = (-1) := w67.1
          have kr_120_62 : rd M67 120 62 = u16_120_62 := ((Wr.b w67 rfl).trans k16_120_62)
          have kr_120_68 : rd M67 120 68 = u16_120_68 := ((Wr.b w67 rfl).trans k16_120_68)
          have kr_120_75 : rd M67 120 75 = u16_120_75 := ((Wr.b w67 rfl).trans k16_120_75)
          exact Tr.zret (pc := 72) d_X12_ticksOf_72 rfl (by omega) ⟨hS, _, rfl, by omega, by omega, by omega, by omega, by omega, by omega⟩
        · refine Tr.aload_n (pc := 27) (i := 0) d_X12_ticksOf_27 rfl rfl ?_
          refine Tr.iload (pc := 28) (i := 4) d_X12_ticksOf_28 rfl ?_
          refine Tr.callV (pc := 30) (as := [_]) d_X12_ticksOf_30 s_12_577 ok_X12_tick rfl rfl (Nat.le_of_ble_eq_true rfl) (Nat.le_of_ble_eq_true rfl) (by decide) (ty_120 hS.1.1) ?_
          have kb30_120_59 : rd M 120 59 = a1 := k16_120_59
          have kb30_120_61 : rd M 120 61 = a2 := k16_120_61
          have kb30_120_62 : rd M 120 62 = u16_120_62 := k16_120_62
          have kb30_120_68 : rd M 120 68 = u16_120_68 := k16_120_68
          refine Tr.imp (Tr.deep (by decide) (sp_X12_tick_120 hS.1 ((St.kp hS (by decide) (by decide) (by decide)).trans en_120_12) a4 (by omega) (by omega) (by omega) (Bk0.of hF_Bk0 (fun j => (St.ka hS (by decide) (by decide) (by decide))) (fun j => (St.ka hS (by decide) (by decide) (by decide))) (fun j => (St.ka hS (by decide) (by decide) (by decide))) (fun j => (St.ka hS (by decide) (by decide) (by decide))) (fun j => (St.ka hS (by decide) (by decide) (by decide))) (fun j => (St.ka hS (by decide) (by decide) (by decide))) (fun j => (St.ka hS (by decide) (by decide) (by decide))) (fun j => (St.ka hS (by decide) (by decide) (by decide))) (St.kp hS (by decide) (by decide) (by decide)) (St.kp hS (by decide) (by decide) (by decide)) (St.kp hS (by decide) (by decide) (by decide)) (St.kp hS (by decide) (by decide) (by decide))))) ?_
          rintro M30 _ ⟨h30, r30, rfl, lr30, ur30, z30_0, z30_1, z30_2⟩
          have hS := St.tr hS h30 (by decide) (by decide)
          have ka30_120_59 : rd M30 120 59 = a1 := ((St.kp h30 (by decide) (by decide) (by decide)).trans k16_120_59)
          obtain ⟨s30_120_62, es30_120_62⟩ : ∃ v, rd M30 120 62 = v := ⟨_, rfl⟩
          have bs30_120_62 : 0 ≤ s30_120_62 ∧ s30_120_62 ≤ 2060 := by rw [← es30_120_62]; exact ir_120_62 hS.1.2.1
          obtain ⟨s30_120_68, es30_120_68⟩ : ∃ v, rd M30 120 68 = v := ⟨_, rfl⟩
          have bs30_120_68 : 0 ≤ s30_120_68 ∧ s30_120_68 ≤ 2 := by rw [← es30_120_68]; exact ir_120_68 hS.1.2.1
          refine Tr.sc [(0, r30)] rfl ?_
          refine Tr.istore (pc := 33) (i := 7) (ls2 := [(7, (0, r30)), (0, (2, 120)), (1, (0, a1)), (3, (0, a3)), (4, (0, a4)), (5, (0, a5)), (6, (0, a6)), (8, (0, p16_8))]) d_X12_ticksOf_33 (by decide) rfl ?_
          refine Tr.iload (pc := 35) (i := 7) d_X12_ticksOf_35 rfl ?_
          have J59 : ∀ (M : Mem) (u59_120_75 : Int), St Tb0 ws_X12_ticksOf_120 as_X12_ticksOf_120 M0 M → (0 ≤ u59_120_75 ∧ u59_120_75 ≤ 2100) → rd M 120 59 = a1 → rd M 120 61 = a2 → rd M 120 62 = s30_120_62 → rd M 120 68 = s30_120_68 → rd M 120 75 = u59_120_75 → (a2 ≠ 2) → (g120_62 ≤ s30_120_62 ∧ s30_120_62 ≤ 2000) → (r30 = 1 ∨ 1 ≤ s30_120_68) → (u59_120_75 = g120_75 ∨ (u59_120_75 = g120_75 + 1 ∧ a5 = 1 ∧ 1 ≤ a3)) → (0 ≤ p16_8) → Tr l K 4 mX12_ticksOf 59 [(0, (2, 120)), (1, (0, a1)), (3, (0, a3)), (4, (0, a4)), (5, (0, a5)), (6, (0, a6)), (7, (0, r30)), (8, (0, p16_8))] [] M (q_X12_ticksOf_120 a1 a2 a3 a4 a5 a6 M0) := by
            intro M u59_120_75 hS bu59_120_75 k59_120_59 k59_120_61 k59_120_62 k59_120_68 k59_120_75 t59_0 t59_1 t59_2 t59_3 t59_4
            refine Tr.iincV (pc := 59) (n2 := (p16_8 + 1)) (ls2 := [(8, (0, (p16_8 + 1))), (0, (2, 120)), (1, (0, a1)), (3, (0, a3)), (4, (0, a4)), (5, (0, a5)), (6, (0, a6)), (7, (0, r30))]) d_X12_ticksOf_59 rfl (by decide) ((w32_id (by omega)).trans (by omega)) rfl ?_
            refine Tr.goto (pc := 62) (tgt := 16) d_X12_ticksOf_62 rfl ?_
            refine Tr.pick [1, 2, 3, 4, 5, 6, 7, 0] (ls2 := [(0, (2, 120)), (1, (0, a1)), (3, (0, a3)), (4, (0, a4)), (5, (0, a5)), (6, (0, a6)), (7, (0, r30)), (8, (0, (p16_8 + 1)))]) rfl ?_
            exact J16 _ _ _ _ _ _ hS (by omega) (by omega) (by omega) (by omega) (by omega) k59_120_59 k59_120_61 k59_120_62 k59_120_68 k59_120_75 (by omega) (by omega) (by first | assumption | omega) (by first | assumption | omega) (by first | assumption | omega) (by omega)
          refine Tr.if_eq (pc := 37) (tgt := 59) d_X12_ticksOf_37 rfl (fun c37 => ?_) (fun c37 => ?_)
          · refine Tr.pick [1, 2, 3, 4, 5, 6, 0, 7] (ls2 := [(0, (2, 120)), (1, (0, a1)), (3, (0, a3)), (4, (0, a4)), (5, (0, a5)), (6, (0, a6)), (7, (0, r30)), (8, (0, p16_8))]) rfl ?_
            exact J59 _ _ hS (by omega) ((St.kp h30 (by decide) (by decide) (by decide)).trans k16_120_59) ((St.kp h30 (by decide) (by decide) (by decide)).trans k16_120_61) es30_120_62 es30_120_68 ((St.kp h30 (by decide) (by decide) (by decide)).trans k16_120_75) (by omega) (by omega) (by first | assumption | omega) (by first | assumption | omega) (by omega)
          · refine Tr.iload (pc := 40) (i := 5) d_X12_ticksOf_40 rfl ?_
            refine Tr.if_eq (pc := 42) (tgt := 59) d_X12_ticksOf_42 rfl (fun c42 => ?_) (fun c42 => ?_)
            · refine Tr.pick [1, 2, 3, 4, 5, 6, 0, 7] (ls2 := [(0, (2, 120)), (1, (0, a1)), (3, (0, a3)), (4, (0, a4)), (5, (0, a5)), (6, (0, a6)), (7, (0, r30)), (8, (0, p16_8))]) rfl ?_
              exact J59 _ _ hS (by omega) ((St.kp h30 (by decide) (by decide) (by decide)).trans k16_120_59) ((St.kp h30 (by decide) (by decide) (by decide)).trans k16_120_61) es30_120_62 es30_120_68 ((St.kp h30 (by decide) (by decide) (by decide)).trans k16_120_75) (by omega) (by omega) (by first | assumption | omega) (by first | assumption | omega) (by omega)
            · refine Tr.iload (pc := 45) (i := 8) d_X12_ticksOf_45 rfl ?_
              refine Tr.if_ne (pc := 47) (tgt := 59) d_X12_ticksOf_47 rfl (fun c47 => ?_) (fun c47 => ?_)
              · refine Tr.pick [1, 2, 3, 4, 5, 6, 0, 7] (ls2 := [(0, (2, 120)), (1, (0, a1)), (3, (0, a3)), (4, (0, a4)), (5, (0, a5)), (6, (0, a6)), (7, (0, r30)), (8, (0, p16_8))]) rfl ?_
                exact J59 _ _ hS (by omega) ((St.kp h30 (by decide) (by decide) (by decide)).trans k16_120_59) ((St.kp h30 (by decide) (by decide) (by decide)).trans k16_120_61) es30_120_62 es30_120_68 ((St.kp h30 (by decide) (by decide) (by decide)).trans k16_120_75) (by omega) (by omega) (by first | assumption | omega) (by first | assumption | omega) (by omega)
              · refine Tr.aload_n (pc := 50) (i := 0) d_X12_ticksOf_50 rfl rfl ?_
                refine Tr.iload_n (pc := 51) (i := 1) d_X12_ticksOf_51 rfl rfl ?_
                refine Tr.iload (pc := 52) (i := 4) d_X12_ticksOf_52 rfl ?_
                refine Tr.iload (pc := 54) (i := 6) d_X12_ticksOf_54 rfl ?_
                refine Tr.callV (pc := 56) (as := [_, _, _]) d_X12_ticksOf_56 s_12_580 ok_X12_acts rfl rfl (Nat.le_of_ble_eq_true rfl) (Nat.le_of_ble_eq_true rfl) (by decide) (ty_120 hS.1.1) ?_
                have kb56_120_75 : rd M30 120 75 = u16_120_75 := ((St.kp h30 (by decide) (by decide) (by decide)).trans k16_120_75)
                refine Tr.imp (Tr.deep (by decide) (sp_X12_acts_120 hS.1.wk a1 (by omega) a4 (by omega) a6 (by omega) (by omega))) ?_
                rintro M56 _ ⟨h56, rfl, z56_0⟩
                have h56 := St.rn h56 (Tb0.of hS.1.2.2.2.2 (fun _ => (St.ka h56 (by decide) (by decide) (by decide))) (St.kp h56 (by decide) (by decide) (by decide)))
                have hS := St.tr hS h56 (by decide) (by decide)
                obtain ⟨s56_120_75, es56_120_75⟩ : ∃ v, rd M56 120 75 = v := ⟨_, rfl⟩
                have bs56_120_75 : 0 ≤ s56_120_75 ∧ s56_120_75 ≤ 2100 := by rw [← es56_120_75]; exact ir_120_75 hS.1.2.1
                refine Tr.sc [] rfl ?_
                refine Tr.pick [1, 2, 3, 4, 5, 6, 0, 7] (ls2 := [(0, (2, 120)), (1, (0, a1)), (3, (0, a3)), (4, (0, a4)), (5, (0, a5)), (6, (0, a6)), (7, (0, r30)), (8, (0, p16_8))]) rfl ?_
                exact J59 _ _ hS (by omega) ((St.kp h56 (by decide) (by decide) (by decide)).trans ((St.kp h30 (by decide) (by decide) (by decide)).trans k16_120_59)) ((St.kp h56 (by decide) (by decide) (by decide)).trans ((St.kp h30 (by decide) (by decide) (by decide)).trans k16_120_61)) ((St.kp h56 (by decide) (by decide) (by decide)).trans es30_120_62) ((St.kp h56 (by decide) (by decide) (by decide)).trans es30_120_68) es56_120_75 (by omega) (by omega) (by first | assumption | omega) (by first | assumption | omega) (by omega)
  refine Tr.pick [2, 3, 5, 6, 7, 8, 1, 0] (ls2 := [(0, (2, 120)), (1, (0, a1)), (3, (0, a3)), (4, (0, a4)), (5, (0, a5)), (6, (0, a6)), (7, (0, 1)), (8, (0, 0))]) rfl ?_
  exact J16 _ _ _ _ _ _ _ hS (by omega) (by omega) (by omega) (by omega) (by omega) ((Wr.b w7 rfl).trans w2.1) w7.1 ((Wr.b w7 rfl).trans ((Wr.b w2 rfl).trans eg120_62)) ((Wr.b w7 rfl).trans ((Wr.b w2 rfl).trans eg120_68)) ((Wr.b w7 rfl).trans ((Wr.b w2 rfl).trans eg120_75)) (by omega) (by omega) (by first | assumption | omega) (by first | assumption | omega) (by first | assumption | omega) (Nat.lt_succ_self _)

def ws_X12_touches_120 : List (Int × Int) := [(120, 59), (120, 61), (120, 62), (120, 63), (120, 65), (120, 66), (120, 68), (120, 75)]
def as_X12_touches_120 : List Int := [158, 159, 160, 161, 162, 163, 164, 165, 166, 167, 168]
def q_X12_touches_120 (a1 : Int) (a2 : Int) (M0 M' : Mem) (r : Option PV) : Prop := St Tb0 ws_X12_touches_120 as_X12_touches_120 M0 M' ∧ ∃ v : Int, r = some (0, v) ∧ 0 ≤ v ∧ v ≤ 1 ∧ (rd M' 120 75 ≤ rd M' 120 62) ∧ (rd M0 120 62 ≤ rd M' 120 62 ∧ rd M' 120 62 ≤ 2000) ∧ (v = 1 ∨ 1 ≤ rd M' 120 68) ∧ (rd M' 120 59 = -1)
set_option maxRecDepth 100000 in
set_option maxHeartbeats 4000000 in
theorem sp_X12_touches_120 {l : Launch} {K : EC} {M0 : Mem} (hI : In Tb0 M0) (en_120_12 : rd M0 120 12 = 0) (a1 : Int) (ha1 : 0 ≤ a1 ∧ a1 ≤ 999) (a2 : Int) (ha2 : 0 ≤ a2 ∧ a2 ≤ 59)  (hq0 : rd M0 120 75 + 1 ≤ rd M0 120 62) (hq1 : rd M0 120 62 ≤ 2000) (hq2 : rd M0 120 59 = -1) (hF_Bk0 : Bk0 M0) : Tr l K 5 mX12_touches 0 [(0, (2, 120)), (1, (0, a1)), (2, (0, a2))] [] M0 (q_X12_touches_120 a1 a2 M0) := by
  have hS : St Tb0 ws_X12_touches_120 as_X12_touches_120 M0 M0 := St.rf hI
  obtain ⟨g120_62, eg120_62⟩ : ∃ v, rd M0 120 62 = v := ⟨_, rfl⟩
  have bg120_62 : 0 ≤ g120_62 ∧ g120_62 ≤ 2060 := by rw [← eg120_62]; exact ir_120_62 hI.2.1
  obtain ⟨g120_68, eg120_68⟩ : ∃ v, rd M0 120 68 = v := ⟨_, rfl⟩
  have bg120_68 : 0 ≤ g120_68 ∧ g120_68 ≤ 2 := by rw [← eg120_68]; exact ir_120_68 hI.2.1
  obtain ⟨g120_75, eg120_75⟩ : ∃ v, rd M0 120 75 = v := ⟨_, rfl⟩
  have bg120_75 : 0 ≤ g120_75 ∧ g120_75 ≤ 2100 := by rw [← eg120_75]; exact ir_120_75 hI.2.1
  obtain ⟨g120_59, eg120_59⟩ : ∃ v, rd M0 120 59 = v := ⟨_, rfl⟩
  have bg120_59 : (-1) ≤ g120_59 ∧ g120_59 ≤ 5 := by rw [← eg120_59]; exact ir_120_59 hI.2.1
  obtain ⟨g123_0, eg123_0⟩ : ∃ v, rd M0 123 0 = v := ⟨_, rfl⟩
  have bg123_0 : (-2147483648) ≤ g123_0 ∧ g123_0 ≤ 2147483647 := by rw [← eg123_0]; exact ir_123_0 hI.2.1
  obtain ⟨g124_0, eg124_0⟩ : ∃ v, rd M0 124 0 = v := ⟨_, rfl⟩
  have bg124_0 : (-2147483648) ≤ g124_0 ∧ g124_0 ≤ 2147483647 := by rw [← eg124_0]; exact ir_124_0 hI.2.1
  refine Tr.aload_n (pc := 0) (i := 0) d_X12_touches_0 rfl rfl ?_
  refine Tr.dup (pc := 1) d_X12_touches_1 ne21 ?_
  refine Tr.getf (pc := 2) d_X12_touches_2 f_12_213 (by decide) (by decide) (ty_120 hS.1.1) ?_
  refine Tr.gen (P := fun v => (-2147483648) ≤ v ∧ v ≤ 2147483647) (ir_120_66 hS.1.2.1) (fun r2 er2 br2 => ?_)
  refine Tr.iconst (pc := 5) d_X12_touches_5 (by decide) ?_
  refine Tr.iadd (pc := 6) d_X12_touches_6 ?_
  refine Tr.gen (P := fun v => (-2147483648) ≤ v ∧ v ≤ 2147483647) (w32_b _) (fun r6 er6 br6 => ?_)
  refine Tr.putfS (pc := 7) (P := St Tb0 ws_X12_touches_120 as_X12_touches_120 M0) d_X12_touches_7 f_12_213 (by decide) (by decide) (ty_120 hS.1.1) (st_120_66 hS (by decide) (by omega) (Tb0.of hS.1.2.2.2.2 (fun _ => rd_wb _ rfl) (rd_wb _ rfl))) (fun M7 hS w7 => ?_)
  refine Tr.iload_n (pc := 10) (i := 1) d_X12_touches_10 rfl rfl ?_
  refine Tr.aload_n (pc := 11) (i := 0) d_X12_touches_11 rfl rfl ?_
  refine Tr.getf (pc := 12) d_X12_touches_12 f_12_57 (by decide) (by decide) (ty_120 hS.1.1) ?_
  refine Tr.tp 124 (fx_120_15 hS.1.1) ?_
  refine Tr.aload_n (pc := 15) (i := 0) d_X12_touches_15 rfl rfl ?_
  refine Tr.getf (pc := 16) d_X12_touches_16 f_12_48 (by decide) (by decide) (ty_120 hS.1.1) ?_
  refine Tr.tp 0 ((St.kp hS (by decide) (by decide) (by decide)).trans en_120_12) ?_
  refine Tr.iald (pc := 19) d_X12_touches_19 (ty_124 hS.1.1) (by omega) (by omega) ?_
  refine Tr.tp g124_0 ((Wr.b w7 rfl).trans eg124_0) ?_
  have ksw_123_0 : rd M7 123 0 = g123_0 := ((Wr.b w7 rfl).trans eg123_0)
  have ksw_124_0 : rd M7 124 0 = g124_0 := ((Wr.b w7 rfl).trans eg124_0)
  have hsw := (Bk0.of hF_Bk0 (fun j => (St.ka hS (by decide) (by decide) (by decide))) (fun j => (St.ka hS (by decide) (by decide) (by decide))) (fun j => (St.ka hS (by decide) (by decide) (by decide))) (fun j => (St.ka hS (by decide) (by decide) (by decide))) (fun j => (St.ka hS (by decide) (by decide) (by decide))) (fun j => (St.ka hS (by decide) (by decide) (by decide))) (fun j => (St.ka hS (by decide) (by decide) (by decide))) (fun j => (St.ka hS (by decide) (by decide) (by decide))) (St.kp hS (by decide) (by decide) (by decide)) (St.kp hS (by decide) (by decide) (by decide)) (St.kp hS (by decide) (by decide) (by decide)) (St.kp hS (by decide) (by decide) (by decide))).2.2.2.2.1
  refine Tr.idiv (pc := 20) d_X12_touches_20 (by omega) ?_
  refine Tr.gen (P := fun v => 0 ≤ v ∧ v ≤ 999) (div32_p (A := 999) (by omega) (by omega) (by omega) (by omega)) (fun r20 er20 br20 => ?_)
  refine Tr.istore_n (pc := 21) (i := 3) (ls2 := [(3, (0, r20)), (0, (2, 120)), (1, (0, a1)), (2, (0, a2))]) d_X12_touches_21 rfl (by decide) rfl ?_
  refine Tr.iload_n (pc := 22) (i := 3) d_X12_touches_22 rfl rfl ?_
  refine Tr.aload_n (pc := 23) (i := 0) d_X12_touches_23 rfl rfl ?_
  refine Tr.getf (pc := 24) d_X12_touches_24 f_12_54 (by decide) (by decide) (ty_120 hS.1.1) ?_
  refine Tr.tp 123 (fx_120_14 hS.1.1) ?_
  refine Tr.aload_n (pc := 27) (i := 0) d_X12_touches_27 rfl rfl ?_
  refine Tr.getf (pc := 28) d_X12_touches_28 f_12_48 (by decide) (by decide) (ty_120 hS.1.1) ?_
  refine Tr.tp 0 ((St.kp hS (by decide) (by decide) (by decide)).trans en_120_12) ?_
  refine Tr.iald (pc := 31) d_X12_touches_31 (ty_123 hS.1.1) (by omega) (by omega) ?_
  refine Tr.tp g123_0 ((Wr.b w7 rfl).trans eg123_0) ?_
  refine Tr.irem (pc := 32) d_X12_touches_32 (by omega) ?_
  refine Tr.gen (P := fun v => 0 ≤ v ∧ v ≤ 7) (rem_p (A := 7) (by omega) (by omega) (Or.inr (by omega))) (fun r32 er32 br32 => ?_)
  refine Tr.istore (pc := 33) (i := 4) (ls2 := [(4, (0, r32)), (3, (0, r20)), (0, (2, 120)), (1, (0, a1)), (2, (0, a2))]) d_X12_touches_33 (by decide) rfl ?_
  refine Tr.aload_n (pc := 35) (i := 0) d_X12_touches_35 rfl rfl ?_
  refine Tr.getf (pc := 36) d_X12_touches_36 f_12_189 (by decide) (by decide) (ty_120 hS.1.1) ?_
  refine Tr.tp 160 (fx_120_58 hS.1.1) ?_
  refine Tr.iload (pc := 39) (i := 4) d_X12_touches_39 rfl ?_
  refine Tr.iald (pc := 41) d_X12_touches_41 (ty_160 hS.1.1) (by omega) (by omega) ?_
  refine Tr.gen (P := fun v => (-2147483648) ≤ v ∧ v ≤ 2147483647) (ar_160 hS.1.2.1 _) (fun r41 er41 br41 => ?_)
  refine Tr.iload_n (pc := 42) (i := 3) d_X12_touches_42 rfl rfl ?_
  refine Tr.icmp_ne (pc := 43) (tgt := 48) d_X12_touches_43 rfl (fun c43 => ?_) (fun c43 => ?_)
  · refine Tr.aload_n (pc := 48) (i := 0) d_X12_touches_48 rfl rfl ?_
    refine Tr.dup (pc := 49) d_X12_touches_49 ne21 ?_
    refine Tr.getf (pc := 50) d_X12_touches_50 f_12_210 (by decide) (by decide) (ty_120 hS.1.1) ?_
    refine Tr.gen (P := fun v => (-2147483648) ≤ v ∧ v ≤ 2147483647) (ir_120_65 hS.1.2.1) (fun r50 er50 br50 => ?_)
    refine Tr.iconst (pc := 53) d_X12_touches_53 (by decide) ?_
    refine Tr.iadd (pc := 54) d_X12_touches_54 ?_
    refine Tr.gen (P := fun v => (-2147483648) ≤ v ∧ v ≤ 2147483647) (w32_b _) (fun r54 er54 br54 => ?_)
    refine Tr.putfS (pc := 55) (P := St Tb0 ws_X12_touches_120 as_X12_touches_120 M0) d_X12_touches_55 f_12_210 (by decide) (by decide) (ty_120 hS.1.1) (st_120_65 hS (by decide) (by omega) (Tb0.of hS.1.2.2.2.2 (fun _ => rd_wb _ rfl) (rd_wb _ rfl))) (fun M55 hS w55 => ?_)
    refine Tr.aload_n (pc := 58) (i := 0) d_X12_touches_58 rfl rfl ?_
    refine Tr.getf (pc := 59) d_X12_touches_59 f_12_189 (by decide) (by decide) (ty_120 hS.1.1) ?_
    refine Tr.tp 160 (fx_120_58 hS.1.1) ?_
    refine Tr.iload (pc := 62) (i := 4) d_X12_touches_62 rfl ?_
    refine Tr.iload_n (pc := 64) (i := 3) d_X12_touches_64 rfl rfl ?_
    refine Tr.iastS (pc := 65) (P := St Tb0 ws_X12_touches_120 as_X12_touches_120 M0) d_X12_touches_65 (ty_160 hS.1.1) (by omega) (by omega) (sa_160 hS (by decide) (by omega) (Tb0.of hS.1.2.2.2.2 (fun _ => rd_wb _ rfl) (rd_wb _ rfl))) (fun M65 hS w65 => ?_)
    refine Tr.aload_n (pc := 66) (i := 0) d_X12_touches_66 rfl rfl ?_
    refine Tr.iconst (pc := 67) d_X12_touches_67 (by decide) ?_
    refine Tr.iconst (pc := 68) d_X12_touches_68 (by decide) ?_
    refine Tr.aload_n (pc := 69) (i := 0) d_X12_touches_69 rfl rfl ?_
    refine Tr.getf (pc := 70) d_X12_touches_70 f_12_60 (by decide) (by decide) (ty_120 hS.1.1) ?_
    refine Tr.tp 125 (fx_120_16 hS.1.1) ?_
    refine Tr.aload_n (pc := 73) (i := 0) d_X12_touches_73 rfl rfl ?_
    refine Tr.getf (pc := 74) d_X12_touches_74 f_12_48 (by decide) (by decide) (ty_120 hS.1.1) ?_
    refine Tr.tp 0 ((St.kp hS (by decide) (by decide) (by decide)).trans en_120_12) ?_
    refine Tr.iald (pc := 77) d_X12_touches_77 (ty_125 hS.1.1) (by omega) (by omega) ?_
    refine Tr.gen (P := fun v => (-2147483648) ≤ v ∧ v ≤ 2147483647) (ir_125_0 hS.1.2.1) (fun r77 er77 br77 => ?_)
    refine Tr.iload_n (pc := 78) (i := 2) d_X12_touches_78 rfl rfl ?_
    refine Tr.iconst (pc := 79) d_X12_touches_79 (by decide) ?_
    refine Tr.iconst (pc := 80) d_X12_touches_80 (by decide) ?_
    refine Tr.callV (pc := 81) (as := [_, _, _, _, _, _]) d_X12_touches_81 s_12_587 ok_X12_ticksOf rfl rfl (Nat.le_of_ble_eq_true rfl) (Nat.le_of_ble_eq_true rfl) (by decide) (ty_120 hS.1.1) ?_
    have kb81_120_62 : rd M65 120 62 = g120_62 := ((Wr.b w65 rfl).trans ((Wr.b w55 rfl).trans ((Wr.b w7 rfl).trans eg120_62)))
    have kb81_120_75 : rd M65 120 75 = g120_75 := ((Wr.b w65 rfl).trans ((Wr.b w55 rfl).trans ((Wr.b w7 rfl).trans eg120_75)))
    refine Tr.imp (Tr.deep (by decide) (sp_X12_ticksOf_120 hS.1 ((St.kp hS (by decide) (by decide) (by decide)).trans en_120_12) (-1) (by omega) 0 (by omega) r77 (by omega) a2 (by omega) 0 (by omega) 0 (by omega) (by omega) (by omega) (by omega) (by omega) (Bk0.of hF_Bk0 (fun j => (St.ka hS (by decide) (by decide) (by decide))) (fun j => (St.ka hS (by decide) (by decide) (by decide))) (fun j => (St.ka hS (by decide) (by decide) (by decide))) (fun j => (St.ka hS (by decide) (by decide) (by decide))) (fun j => (St.ka hS (by decide) (by decide) (by decide))) (fun j => (St.ka hS (by decide) (by decide) (by decide))) (fun j => (St.ka hS (by decide) (by decide) (by decide))) (fun j => (St.ka hS (by decide) (by decide) (by decide))) (St.kp hS (by decide) (by decide) (by decide)) (St.kp hS (by decide) (by decide) (by decide)) (St.kp hS (by decide) (by decide) (by decide)) (St.kp hS (by decide) (by decide) (by decide))))) ?_
    rintro M81 _ ⟨h81, r81, rfl, lr81, ur81, z81_0, z81_1, z81_2, z81_3⟩
    have hS := St.tr hS h81 (by decide) (by decide)
    obtain ⟨s81_120_59, es81_120_59⟩ : ∃ v, rd M81 120 59 = v := ⟨_, rfl⟩
    have bs81_120_59 : (-1) ≤ s81_120_59 ∧ s81_120_59 ≤ 5 := by rw [← es81_120_59]; exact ir_120_59 hS.1.2.1
    obtain ⟨s81_120_62, es81_120_62⟩ : ∃ v, rd M81 120 62 = v := ⟨_, rfl⟩
    have bs81_120_62 : 0 ≤ s81_120_62 ∧ s81_120_62 ≤ 2060 := by rw [← es81_120_62]; exact ir_120_62 hS.1.2.1
    obtain ⟨s81_120_68, es81_120_68⟩ : ∃ v, rd M81 120 68 = v := ⟨_, rfl⟩
    have bs81_120_68 : 0 ≤ s81_120_68 ∧ s81_120_68 ≤ 2 := by rw [← es81_120_68]; exact ir_120_68 hS.1.2.1
    obtain ⟨s81_120_75, es81_120_75⟩ : ∃ v, rd M81 120 75 = v := ⟨_, rfl⟩
    have bs81_120_75 : 0 ≤ s81_120_75 ∧ s81_120_75 ≤ 2100 := by rw [← es81_120_75]; exact ir_120_75 hS.1.2.1
    refine Tr.sc [(0, r81)] rfl ?_
    have kr_120_59 : rd M81 120 59 = s81_120_59 := es81_120_59
    have kr_120_62 : rd M81 120 62 = s81_120_62 := es81_120_62
    have kr_120_68 : rd M81 120 68 = s81_120_68 := es81_120_68
    have kr_120_75 : rd M81 120 75 = s81_120_75 := es81_120_75
    exact Tr.zret (pc := 84) d_X12_touches_84 rfl (by omega) ⟨hS, _, rfl, by omega, by omega, by omega, by omega, by omega, by omega⟩
  · refine Tr.iconst (pc := 46) d_X12_touches_46 (by decide) ?_
    have kr_120_59 : rd M7 120 59 = g120_59 := ((Wr.b w7 rfl).trans eg120_59)
    have kr_120_62 : rd M7 120 62 = g120_62 := ((Wr.b w7 rfl).trans eg120_62)
    have kr_120_68 : rd M7 120 68 = g120_68 := ((Wr.b w7 rfl).trans eg120_68)
    have kr_120_75 : rd M7 120 75 = g120_75 := ((Wr.b w7 rfl).trans eg120_75)
    exact Tr.zret (pc := 47) d_X12_touches_47 rfl (by omega) ⟨hS, _, rfl, by omega, by omega, by omega, by omega, by omega, by omega⟩

def ws_X12_within_v100 : List (Int × Int) := []
def as_X12_within_v100 : List Int := []
def q_X12_within_v100 (a0 : Int) (M0 M' : Mem) (r : Option PV) : Prop := St Tru ws_X12_within_v100 as_X12_within_v100 M0 M' ∧ ∃ v : Int, r = some (0, v) ∧ 0 ≤ v ∧ v ≤ 100 ∧ (0 ≤ v ∧ v ≤ 100)
set_option maxRecDepth 100000 in
set_option maxHeartbeats 4000000 in
theorem sp_X12_within_v100 {l : Launch} {K : EC} {M0 : Mem} (hI : In Tru M0)  (a0 : Int) (ha0 : (-9223372036854775808) ≤ a0 ∧ a0 ≤ 9223372036854775807)  : Tr l K 0 mX12_within 0 [(0, (1, a0)), (2, (0, 100))] [] M0 (q_X12_within_v100 a0 M0) := by
  have hS : St Tru ws_X12_within_v100 as_X12_within_v100 M0 M0 := St.rf hI
  refine Tr.lload_n (pc := 0) (i := 0) d_X12_within_0 rfl rfl ?_
  refine Tr.lconst (pc := 1) (v := 0) d_X12_within_1 rfl (by decide) ?_
  refine Tr.lcmp (pc := 2) d_X12_within_2 ?_
  refine Tr.gen (P := fun v => (v = 1 ∧ 0 < a0) ∨ (v = 0 ∧ a0 = 0) ∨ (v = -1 ∧ a0 < 0)) (f_lcmp_c _ _) (fun r2 er2 br2 => ?_)
  refine Tr.if_ge (pc := 3) (tgt := 10) d_X12_within_3 rfl (fun c3 => ?_) (fun c3 => ?_)
  · refine Tr.lload_n (pc := 10) (i := 0) d_X12_within_10 rfl rfl ?_
    refine Tr.iload_n (pc := 11) (i := 2) d_X12_within_11 rfl rfl ?_
    refine Tr.i2l (pc := 12) d_X12_within_12 ?_
    refine Tr.lcmp (pc := 13) d_X12_within_13 ?_
    refine Tr.gen (P := fun v => (v = 1 ∧ 100 < a0) ∨ (v = 0 ∧ a0 = 100) ∨ (v = -1 ∧ a0 < 100)) (f_lcmp_c _ _) (fun r13 er13 br13 => ?_)
    refine Tr.if_le (pc := 14) (tgt := 21) d_X12_within_14 rfl (fun c14 => ?_) (fun c14 => ?_)
    · refine Tr.lload_n (pc := 21) (i := 0) d_X12_within_21 rfl rfl ?_
      refine Tr.l2i (pc := 22) d_X12_within_22 ?_
      refine Tr.tp a0 (w32_id (by omega)) ?_
      exact Tr.iret (pc := 23) d_X12_within_23 rfl ⟨hS, _, rfl, by omega, by omega, by omega⟩
    · refine Tr.iload_n (pc := 17) (i := 2) d_X12_within_17 rfl rfl ?_
      refine Tr.goto (pc := 18) (tgt := 23) d_X12_within_18 rfl ?_
      exact Tr.iret (pc := 23) d_X12_within_23 rfl ⟨hS, _, rfl, by omega, by omega, by omega⟩
  · refine Tr.iconst (pc := 6) d_X12_within_6 (by decide) ?_
    refine Tr.goto (pc := 7) (tgt := 23) d_X12_within_7 rfl ?_
    exact Tr.iret (pc := 23) d_X12_within_23 rfl ⟨hS, _, rfl, by omega, by omega, by omega⟩

def ws_X12_frees_120 : List (Int × Int) := [(120, 75)]
def as_X12_frees_120 : List Int := [156, 158, 159, 166, 167, 168]
def q_X12_frees_120 (a1 : Int) (a2 : Int) (M0 M' : Mem) (r : Option PV) : Prop := St Tb0 ws_X12_frees_120 as_X12_frees_120 M0 M' ∧ r = none ∧ (rd M' 120 75 ≤ rd M' 120 62)
set_option maxRecDepth 100000 in
set_option maxHeartbeats 4000000 in
theorem sp_X12_frees_120 {l : Launch} {K : EC} {M0 : Mem} (hI : In Tb0 M0) (en_120_12 : rd M0 120 12 = 0) (a1 : Int) (ha1 : 0 ≤ a1 ∧ a1 ≤ 5) (a2 : Int) (ha2 : 0 ≤ a2 ∧ a2 ≤ 59)  (hq0 : rd M0 120 75 + 1 ≤ rd M0 120 62) (hF_Bk0 : Bk0 M0) : Tr l K 2 mX12_frees 0 [(0, (2, 120)), (1, (0, a1)), (2, (0, a2))] [] M0 (q_X12_frees_120 a1 a2 M0) := by
  have hS : St Tb0 ws_X12_frees_120 as_X12_frees_120 M0 M0 := St.rf hI
  obtain ⟨g120_62, eg120_62⟩ : ∃ v, rd M0 120 62 = v := ⟨_, rfl⟩
  have bg120_62 : 0 ≤ g120_62 ∧ g120_62 ≤ 2060 := by rw [← eg120_62]; exact ir_120_62 hI.2.1
  obtain ⟨g120_75, eg120_75⟩ : ∃ v, rd M0 120 75 = v := ⟨_, rfl⟩
  have bg120_75 : 0 ≤ g120_75 ∧ g120_75 ≤ 2100 := by rw [← eg120_75]; exact ir_120_75 hI.2.1
  obtain ⟨g126_0, eg126_0⟩ : ∃ v, rd M0 126 0 = v := ⟨_, rfl⟩
  have bg126_0 : 0 ≤ g126_0 ∧ g126_0 ≤ 6 := by rw [← eg126_0]; exact ir_126_0 hI.2.1
  refine Tr.aload_n (pc := 0) (i := 0) d_X12_frees_0 rfl rfl ?_
  refine Tr.getf (pc := 1) d_X12_frees_1 f_12_177 (by decide) (by decide) (ty_120 hS.1.1) ?_
  refine Tr.tp 156 (fx_120_54 hS.1.1) ?_
  refine Tr.iload_n (pc := 4) (i := 1) d_X12_frees_4 rfl rfl ?_
  refine Tr.zald (pc := 5) d_X12_frees_5 (ty_156 hS.1.1) (by omega) (by omega) ?_
  refine Tr.gen (P := fun v => 0 ≤ v ∧ v ≤ 1) (ar_156 hS.1.2.1 _) (fun r5 er5 br5 => ?_)
  refine Tr.if_ne (pc := 6) (tgt := 10) d_X12_frees_6 rfl (fun c6 => ?_) (fun c6 => ?_)
  · refine Tr.aload_n (pc := 10) (i := 0) d_X12_frees_10 rfl rfl ?_
    refine Tr.iload_n (pc := 11) (i := 1) d_X12_frees_11 rfl rfl ?_
    refine Tr.iload_n (pc := 12) (i := 2) d_X12_frees_12 rfl rfl ?_
    refine Tr.aload_n (pc := 13) (i := 0) d_X12_frees_13 rfl rfl ?_
    refine Tr.getf (pc := 14) d_X12_frees_14 f_12_201 (by decide) (by decide) (ty_120 hS.1.1) ?_
    refine Tr.tp g120_62 eg120_62 ?_
    refine Tr.iconst (pc := 17) d_X12_frees_17 (by decide) ?_
    refine Tr.isub (pc := 18) d_X12_frees_18 ?_
    refine Tr.tp (g120_62 - 1) ((w32_id (by omega)).trans (by omega)) ?_
    refine Tr.callV (pc := 19) (as := [_, _, _]) d_X12_frees_19 s_12_580 ok_X12_acts rfl rfl (Nat.le_of_ble_eq_true rfl) (Nat.le_of_ble_eq_true rfl) (by decide) (ty_120 hS.1.1) ?_
    have kb19_120_75 : rd M0 120 75 = g120_75 := eg120_75
    refine Tr.imp (Tr.deep (by decide) (sp_X12_acts_120 hS.1.wk a1 (by omega) a2 (by omega) (g120_62 - 1) (by omega) (by omega))) ?_
    rintro M19 _ ⟨h19, rfl, z19_0⟩
    have h19 := St.rn h19 (Tb0.of hS.1.2.2.2.2 (fun _ => (St.ka h19 (by decide) (by decide) (by decide))) (St.kp h19 (by decide) (by decide) (by decide)))
    have hS := St.tr hS h19 (by decide) (by decide)
    obtain ⟨s19_120_75, es19_120_75⟩ : ∃ v, rd M19 120 75 = v := ⟨_, rfl⟩
    have bs19_120_75 : 0 ≤ s19_120_75 ∧ s19_120_75 ≤ 2100 := by rw [← es19_120_75]; exact ir_120_75 hS.1.2.1
    refine Tr.sc [] rfl ?_
    refine Tr.aload_n (pc := 22) (i := 0) d_X12_frees_22 rfl rfl ?_
    refine Tr.getf (pc := 23) d_X12_frees_23 f_12_177 (by decide) (by decide) (ty_120 hS.1.1) ?_
    refine Tr.tp 156 (fx_120_54 hS.1.1) ?_
    refine Tr.iload_n (pc := 26) (i := 1) d_X12_frees_26 rfl rfl ?_
    refine Tr.iconst (pc := 27) d_X12_frees_27 (by decide) ?_
    refine Tr.zastS (pc := 28) (P := St Tb0 ws_X12_frees_120 as_X12_frees_120 M0) d_X12_frees_28 (ty_156 hS.1.1) (by omega) (by omega) (by omega) (sa_156 hS (by decide) (by omega) (Tb0.of hS.1.2.2.2.2 (fun _ => rd_wb _ rfl) (rd_wb _ rfl))) (fun M28 hS w28 => ?_)
    refine Tr.aload_n (pc := 29) (i := 0) d_X12_frees_29 rfl rfl ?_
    refine Tr.getf (pc := 30) d_X12_frees_30 f_12_183 (by decide) (by decide) (ty_120 hS.1.1) ?_
    refine Tr.tp 158 (fx_120_56 hS.1.1) ?_
    refine Tr.iload_n (pc := 33) (i := 1) d_X12_frees_33 rfl rfl ?_
    refine Tr.aload_n (pc := 34) (i := 0) d_X12_frees_34 rfl rfl ?_
    refine Tr.iload_n (pc := 35) (i := 1) d_X12_frees_35 rfl rfl ?_
    refine Tr.callV (pc := 36) (as := [_]) d_X12_frees_36 s_12_591 ok_X12_tails rfl rfl (Nat.le_of_ble_eq_true rfl) (Nat.le_of_ble_eq_true rfl) (by decide) (ty_120 hS.1.1) ?_
    refine Tr.imp (Tr.deep (by decide) (sp_X12_tails_120 hS.1.wk ((St.kp hS (by decide) (by decide) (by decide)).trans en_120_12) a1 (by omega) (Bk0.of hF_Bk0 (fun j => (St.ka hS (by decide) (by decide) (by decide))) (fun j => (St.ka hS (by decide) (by decide) (by decide))) (fun j => (St.ka hS (by decide) (by decide) (by decide))) (fun j => (St.ka hS (by decide) (by decide) (by decide))) (fun j => (St.ka hS (by decide) (by decide) (by decide))) (fun j => (St.ka hS (by decide) (by decide) (by decide))) (fun j => (St.ka hS (by decide) (by decide) (by decide))) (fun j => (St.ka hS (by decide) (by decide) (by decide))) (St.kp hS (by decide) (by decide) (by decide)) (St.kp hS (by decide) (by decide) (by decide)) (St.kp hS (by decide) (by decide) (by decide)) (St.kp hS (by decide) (by decide) (by decide))))) ?_
    rintro M36 _ ⟨h36, r36, rfl, lr36, ur36, z36_0⟩
    have h36 := St.rn h36 (Tb0.of hS.1.2.2.2.2 (fun _ => (St.ka h36 (by decide) (by decide) (by decide))) (St.kp h36 (by decide) (by decide) (by decide)))
    have hS := St.tr hS h36 (by decide) (by decide)
    have ka36_126_0 : rd M36 126 0 = g126_0 := ((St.kp h36 (by decide) (by decide) (by decide)).trans ((Wr.b w28 rfl).trans ((St.kp h19 (by decide) (by decide) (by decide)).trans eg126_0)))
    refine Tr.sc [(0, r36), (0, a1), (2, 158)] rfl ?_
    refine Tr.iastS (pc := 39) (P := St Tb0 ws_X12_frees_120 as_X12_frees_120 M0) d_X12_frees_39 (ty_158 hS.1.1) (by omega) (by omega) (sa_158 hS (by decide) (by omega) (Tb0_wr hS.1.2.2.2.2 (fun i0 i1 => by omega))) (fun M39 hS w39 => ?_)
    have kr_120_62 : rd M39 120 62 = g120_62 := ((Wr.b w39 rfl).trans ((St.kp h36 (by decide) (by decide) (by decide)).trans ((Wr.b w28 rfl).trans ((St.kp h19 (by decide) (by decide) (by decide)).trans eg120_62))))
    have kr_120_75 : rd M39 120 75 = s19_120_75 := ((Wr.b w39 rfl).trans ((St.kp h36 (by decide) (by decide) (by decide)).trans ((Wr.b w28 rfl).trans es19_120_75)))
    exact Tr.vret (pc := 40) d_X12_frees_40 rfl ⟨hS, rfl, by omega⟩
  · have kr_120_62 : rd M0 120 62 = g120_62 := eg120_62
    have kr_120_75 : rd M0 120 75 = g120_75 := eg120_75
    exact Tr.vret (pc := 9) d_X12_frees_9 rfl ⟨hS, rfl, by omega⟩

def ws_X12_wakes_120 : List (Int × Int) := []
def as_X12_wakes_120 : List Int := []
def q_X12_wakes_120 (M0 M' : Mem) (r : Option PV) : Prop := St Tru ws_X12_wakes_120 as_X12_wakes_120 M0 M' ∧ ∃ v : Int, r = some (0, v) ∧ (-2147483648) ≤ v ∧ v ≤ 2147483647
set_option maxRecDepth 100000 in
set_option maxHeartbeats 4000000 in
theorem sp_X12_wakes_120 {l : Launch} {K : EC} {M0 : Mem} (hI : In Tru M0) (en_120_12 : rd M0 120 12 = 0) (a1 : Int) (ha1 : 0 ≤ a1 ∧ a1 ≤ 5)  (hF_Bk0 : Bk0 M0) : Tr l K 1 mX12_wakes 0 [(0, (2, 120)), (1, (0, a1))] [] M0 (q_X12_wakes_120 M0) := by
  have hS : St Tru ws_X12_wakes_120 as_X12_wakes_120 M0 M0 := St.rf hI
  refine Tr.aload_n (pc := 0) (i := 0) d_X12_wakes_0 rfl rfl ?_
  refine Tr.iload_n (pc := 1) (i := 1) d_X12_wakes_1 rfl rfl ?_
  refine Tr.iconst (pc := 2) d_X12_wakes_2 (by decide) ?_
  refine Tr.callV (pc := 3) (as := [_, _]) d_X12_wakes_3 s_12_565 ok_X12_rate rfl rfl (Nat.le_of_ble_eq_true rfl) (Nat.le_of_ble_eq_true rfl) (by decide) (ty_120 hS.1.1) ?_
  refine Tr.imp (Tr.deep (by decide) (sp_X12_rate_120 hS.1 ((St.kp hS (by decide) (by decide) (by decide)).trans en_120_12) a1 (by omega) 1 (by omega) (Bk0.of hF_Bk0 (fun j => (St.ka hS (by decide) (by decide) (by decide))) (fun j => (St.ka hS (by decide) (by decide) (by decide))) (fun j => (St.ka hS (by decide) (by decide) (by decide))) (fun j => (St.ka hS (by decide) (by decide) (by decide))) (fun j => (St.ka hS (by decide) (by decide) (by decide))) (fun j => (St.ka hS (by decide) (by decide) (by decide))) (fun j => (St.ka hS (by decide) (by decide) (by decide))) (fun j => (St.ka hS (by decide) (by decide) (by decide))) (St.kp hS (by decide) (by decide) (by decide)) (St.kp hS (by decide) (by decide) (by decide)) (St.kp hS (by decide) (by decide) (by decide)) (St.kp hS (by decide) (by decide) (by decide))))) ?_
  rintro M3 _ ⟨h3, r3, rfl, lr3, ur3, z3_0⟩
  have hS := St.tr hS h3 (by decide) (by decide)
  obtain ⟨w3_126_0, ew3_126_0⟩ : ∃ v, rd M3 126 0 = v := ⟨_, rfl⟩
  have bw3_126_0 : 0 ≤ w3_126_0 ∧ w3_126_0 ≤ 6 := by rw [← ew3_126_0]; exact ir_126_0 hS.1.2.1
  have ka3_126_0 : rd M3 126 0 = w3_126_0 := ew3_126_0
  refine Tr.sc [(0, r3)] rfl ?_
  exact Tr.iret (pc := 6) d_X12_wakes_6 rfl ⟨hS, _, rfl, by omega, by omega⟩

def ws_X12_holds_120 : List (Int × Int) := [(120, 59), (120, 60), (120, 61), (120, 62), (120, 63), (120, 68), (120, 75)]
def as_X12_holds_120 : List Int := [156, 157, 158, 159, 161, 162, 163, 164, 165, 166, 167, 168]
def q_X12_holds_120 (a1 : Int) (a2 : Int) (M0 M' : Mem) (r : Option PV) : Prop := St Tb0 ws_X12_holds_120 as_X12_holds_120 M0 M' ∧ ∃ v : Int, r = some (0, v) ∧ 0 ≤ v ∧ v ≤ 1 ∧ (rd M' 120 75 ≤ rd M' 120 62) ∧ (rd M0 120 62 ≤ rd M' 120 62 ∧ rd M' 120 62 ≤ 2000) ∧ (v = 1 ∨ 1 ≤ rd M' 120 68) ∧ (rd M' 120 59 = -1)
set_option maxRecDepth 100000 in
set_option maxHeartbeats 4000000 in
theorem sp_X12_holds_120 {l : Launch} {K : EC} {M0 : Mem} (hI : In Tb0 M0) (en_120_12 : rd M0 120 12 = 0) (a1 : Int) (ha1 : 0 ≤ a1 ∧ a1 ≤ 5) (a2 : Int) (ha2 : 0 ≤ a2 ∧ a2 ≤ 59)  (hq0 : rd M0 120 75 + 1 ≤ rd M0 120 62) (hq1 : rd M0 120 62 ≤ 2000) (hq2 : rd M0 120 59 = -1) (hF_Bk0 : Bk0 M0) : Tr l K 5 mX12_holds 0 [(0, (2, 120)), (1, (0, a1)), (2, (0, a2))] [] M0 (q_X12_holds_120 a1 a2 M0) := by
  have hS : St Tb0 ws_X12_holds_120 as_X12_holds_120 M0 M0 := St.rf hI
  obtain ⟨g120_62, eg120_62⟩ : ∃ v, rd M0 120 62 = v := ⟨_, rfl⟩
  have bg120_62 : 0 ≤ g120_62 ∧ g120_62 ≤ 2060 := by rw [← eg120_62]; exact ir_120_62 hI.2.1
  obtain ⟨g120_68, eg120_68⟩ : ∃ v, rd M0 120 68 = v := ⟨_, rfl⟩
  have bg120_68 : 0 ≤ g120_68 ∧ g120_68 ≤ 2 := by rw [← eg120_68]; exact ir_120_68 hI.2.1
  obtain ⟨g120_75, eg120_75⟩ : ∃ v, rd M0 120 75 = v := ⟨_, rfl⟩
  have bg120_75 : 0 ≤ g120_75 ∧ g120_75 ≤ 2100 := by rw [← eg120_75]; exact ir_120_75 hI.2.1
  obtain ⟨g120_59, eg120_59⟩ : ∃ v, rd M0 120 59 = v := ⟨_, rfl⟩
  have bg120_59 : (-1) ≤ g120_59 ∧ g120_59 ≤ 5 := by rw [← eg120_59]; exact ir_120_59 hI.2.1
  refine Tr.aload_n (pc := 0) (i := 0) d_X12_holds_0 rfl rfl ?_
  refine Tr.getf (pc := 1) d_X12_holds_1 f_12_177 (by decide) (by decide) (ty_120 hS.1.1) ?_
  refine Tr.tp 156 (fx_120_54 hS.1.1) ?_
  refine Tr.iload_n (pc := 4) (i := 1) d_X12_holds_4 rfl rfl ?_
  refine Tr.zald (pc := 5) d_X12_holds_5 (ty_156 hS.1.1) (by omega) (by omega) ?_
  refine Tr.gen (P := fun v => 0 ≤ v ∧ v ≤ 1) (ar_156 hS.1.2.1 _) (fun r5 er5 br5 => ?_)
  refine Tr.if_eq (pc := 6) (tgt := 11) d_X12_holds_6 rfl (fun c6 => ?_) (fun c6 => ?_)
  · refine Tr.aload_n (pc := 11) (i := 0) d_X12_holds_11 rfl rfl ?_
    refine Tr.getf (pc := 12) d_X12_holds_12 f_12_201 (by decide) (by decide) (ty_120 hS.1.1) ?_
    refine Tr.tp g120_62 eg120_62 ?_
    refine Tr.iconst (pc := 15) d_X12_holds_15 (by decide) ?_
    refine Tr.isub (pc := 16) d_X12_holds_16 ?_
    refine Tr.tp (g120_62 - 1) ((w32_id (by omega)).trans (by omega)) ?_
    refine Tr.istore_n (pc := 17) (i := 3) (ls2 := [(3, (0, (g120_62 - 1))), (0, (2, 120)), (1, (0, a1)), (2, (0, a2))]) d_X12_holds_17 rfl (by decide) rfl ?_
    refine Tr.aload_n (pc := 18) (i := 0) d_X12_holds_18 rfl rfl ?_
    refine Tr.iload_n (pc := 19) (i := 1) d_X12_holds_19 rfl rfl ?_
    refine Tr.callV (pc := 20) (as := [_]) d_X12_holds_20 s_12_571 ok_X12_stateOf rfl rfl (Nat.le_of_ble_eq_true rfl) (Nat.le_of_ble_eq_true rfl) (by decide) (ty_120 hS.1.1) ?_
    refine Tr.imp (Tr.deep (by decide) (sp_X12_stateOf_120 hS.1.wk a1 (by omega))) ?_
    rintro M20 _ ⟨h20, r20, rfl, lr20, ur20, z20_0⟩
    have h20 := St.rn h20 (Tb0.of hS.1.2.2.2.2 (fun _ => (St.ka h20 (by decide) (by decide) (by decide))) (St.kp h20 (by decide) (by decide) (by decide)))
    have hS := St.tr hS h20 (by decide) (by decide)
    have ka20_120_59 : rd M20 120 59 = g120_59 := ((St.kp h20 (by decide) (by decide) (by decide)).trans eg120_59)
    obtain ⟨w20_120_61, ew20_120_61⟩ : ∃ v, rd M20 120 61 = v := ⟨_, rfl⟩
    have bw20_120_61 : 0 ≤ w20_120_61 ∧ w20_120_61 ≤ 3 := by rw [← ew20_120_61]; exact ir_120_61 hS.1.2.1
    have ka20_120_61 : rd M20 120 61 = w20_120_61 := ew20_120_61
    refine Tr.sc [(0, r20)] rfl ?_
    have J35 : ∀ (M : Mem) (q35_0 : Int), St Tb0 ws_X12_holds_120 as_X12_holds_120 M0 M → ((-2147483648) ≤ q35_0 ∧ q35_0 ≤ 2147483647) → rd M 120 59 = g120_59 → rd M 120 61 = w20_120_61 → rd M 120 62 = g120_62 → rd M 120 68 = g120_68 → rd M 120 75 = g120_75 → rd M 156 a1 = r5 → Tr l K 5 mX12_holds 35 [(0, (2, 120)), (1, (0, a1)), (2, (0, a2)), (3, (0, (g120_62 - 1)))] [(0, q35_0)] M (q_X12_holds_120 a1 a2 M0) := by
      intro M q35_0 hS bq35_0 k35_120_59 k35_120_61 k35_120_62 k35_120_68 k35_120_75 k35_156_a110
      refine Tr.istore (pc := 35) (i := 4) (ls2 := [(4, (0, q35_0)), (0, (2, 120)), (1, (0, a1)), (2, (0, a2)), (3, (0, (g120_62 - 1)))]) d_X12_holds_35 (by decide) rfl ?_
      refine Tr.aload_n (pc := 37) (i := 0) d_X12_holds_37 rfl rfl ?_
      refine Tr.iload_n (pc := 38) (i := 1) d_X12_holds_38 rfl rfl ?_
      refine Tr.iconst (pc := 39) d_X12_holds_39 (by decide) ?_
      refine Tr.iload (pc := 40) (i := 4) d_X12_holds_40 rfl ?_
      refine Tr.iload_n (pc := 42) (i := 2) d_X12_holds_42 rfl rfl ?_
      refine Tr.iconst (pc := 43) d_X12_holds_43 (by decide) ?_
      refine Tr.iload_n (pc := 44) (i := 3) d_X12_holds_44 rfl rfl ?_
      refine Tr.callV (pc := 45) (as := [_, _, _, _, _, _]) d_X12_holds_45 s_12_587 ok_X12_ticksOf rfl rfl (Nat.le_of_ble_eq_true rfl) (Nat.le_of_ble_eq_true rfl) (by decide) (ty_120 hS.1.1) ?_
      have kb45_120_62 : rd M 120 62 = g120_62 := k35_120_62
      have kb45_120_75 : rd M 120 75 = g120_75 := k35_120_75
      refine Tr.imp (Tr.deep (by decide) (sp_X12_ticksOf_120 hS.1 ((St.kp hS (by decide) (by decide) (by decide)).trans en_120_12) a1 (by omega) 1 (by omega) q35_0 (by omega) a2 (by omega) 1 (by omega) (g120_62 - 1) (by omega) (by omega) (by omega) (by omega) (by omega) (Bk0.of hF_Bk0 (fun j => (St.ka hS (by decide) (by decide) (by decide))) (fun j => (St.ka hS (by decide) (by decide) (by decide))) (fun j => (St.ka hS (by decide) (by decide) (by decide))) (fun j => (St.ka hS (by decide) (by decide) (by decide))) (fun j => (St.ka hS (by decide) (by decide) (by decide))) (fun j => (St.ka hS (by decide) (by decide) (by decide))) (fun j => (St.ka hS (by decide) (by decide) (by decide))) (fun j => (St.ka hS (by decide) (by decide) (by decide))) (St.kp hS (by decide) (by decide) (by decide)) (St.kp hS (by decide) (by decide) (by decide)) (St.kp hS (by decide) (by decide) (by decide)) (St.kp hS (by decide) (by decide) (by decide))))) ?_
      rintro M45 _ ⟨h45, r45, rfl, lr45, ur45, z45_0, z45_1, z45_2, z45_3⟩
      have hS := St.tr hS h45 (by decide) (by decide)
      obtain ⟨s45_120_59, es45_120_59⟩ : ∃ v, rd M45 120 59 = v := ⟨_, rfl⟩
      have bs45_120_59 : (-1) ≤ s45_120_59 ∧ s45_120_59 ≤ 5 := by rw [← es45_120_59]; exact ir_120_59 hS.1.2.1
      obtain ⟨s45_120_62, es45_120_62⟩ : ∃ v, rd M45 120 62 = v := ⟨_, rfl⟩
      have bs45_120_62 : 0 ≤ s45_120_62 ∧ s45_120_62 ≤ 2060 := by rw [← es45_120_62]; exact ir_120_62 hS.1.2.1
      obtain ⟨s45_120_68, es45_120_68⟩ : ∃ v, rd M45 120 68 = v := ⟨_, rfl⟩
      have bs45_120_68 : 0 ≤ s45_120_68 ∧ s45_120_68 ≤ 2 := by rw [← es45_120_68]; exact ir_120_68 hS.1.2.1
      obtain ⟨s45_120_75, es45_120_75⟩ : ∃ v, rd M45 120 75 = v := ⟨_, rfl⟩
      have bs45_120_75 : 0 ≤ s45_120_75 ∧ s45_120_75 ≤ 2100 := by rw [← es45_120_75]; exact ir_120_75 hS.1.2.1
      refine Tr.sc [(0, r45)] rfl ?_
      refine Tr.if_ne (pc := 48) (tgt := 72) d_X12_holds_48 rfl (fun c48 => ?_) (fun c48 => ?_)
      · refine Tr.iload (pc := 72) (i := 4) d_X12_holds_72 rfl ?_
        have J84 : ∀ (M : Mem) (u84_120_75 : Int), St Tb0 ws_X12_holds_120 as_X12_holds_120 M0 M → (0 ≤ u84_120_75 ∧ u84_120_75 ≤ 2100) → rd M 120 59 = s45_120_59 → rd M 120 62 = s45_120_62 → rd M 120 68 = s45_120_68 → rd M 120 75 = u84_120_75 → rd M 156 a1 = r5 → (u84_120_75 ≤ g120_75 + 1) → (g120_62 ≤ s45_120_62 ∧ s45_120_62 ≤ 2000) → (s45_120_59 = -1) → Tr l K 5 mX12_holds 84 [(0, (2, 120)), (1, (0, a1)), (2, (0, a2))] [] M (q_X12_holds_120 a1 a2 M0) := by
          intro M u84_120_75 hS bu84_120_75 k84_120_59 k84_120_62 k84_120_68 k84_120_75 k84_156_a110 t84_0 t84_1 t84_2
          refine Tr.aload_n (pc := 84) (i := 0) d_X12_holds_84 rfl rfl ?_
          refine Tr.getf (pc := 85) d_X12_holds_85 f_12_177 (by decide) (by decide) (ty_120 hS.1.1) ?_
          refine Tr.tp 156 (fx_120_54 hS.1.1) ?_
          refine Tr.iload_n (pc := 88) (i := 1) d_X12_holds_88 rfl rfl ?_
          refine Tr.iconst (pc := 89) d_X12_holds_89 (by decide) ?_
          refine Tr.zastS (pc := 90) (P := St Tb0 ws_X12_holds_120 as_X12_holds_120 M0) d_X12_holds_90 (ty_156 hS.1.1) (by omega) (by omega) (by omega) (sa_156 hS (by decide) (by omega) (Tb0.of hS.1.2.2.2.2 (fun _ => rd_wb _ rfl) (rd_wb _ rfl))) (fun M90 hS w90 => ?_)
          refine Tr.aload_n (pc := 91) (i := 0) d_X12_holds_91 rfl rfl ?_
          refine Tr.getf (pc := 92) d_X12_holds_92 f_12_180 (by decide) (by decide) (ty_120 hS.1.1) ?_
          refine Tr.tp 157 (fx_120_55 hS.1.1) ?_
          refine Tr.iload_n (pc := 95) (i := 1) d_X12_holds_95 rfl rfl ?_
          refine Tr.iload_n (pc := 96) (i := 2) d_X12_holds_96 rfl rfl ?_
          refine Tr.iastS (pc := 97) (P := St Tb0 ws_X12_holds_120 as_X12_holds_120 M0) d_X12_holds_97 (ty_157 hS.1.1) (by omega) (by omega) (sa_157 hS (by decide) (by omega) (Tb0.of hS.1.2.2.2.2 (fun _ => rd_wb _ rfl) (rd_wb _ rfl))) (fun M97 hS w97 => ?_)
          refine Tr.iconst (pc := 98) d_X12_holds_98 (by decide) ?_
          have kr_120_59 : rd M97 120 59 = s45_120_59 := ((Wr.b w97 rfl).trans ((Wr.b w90 rfl).trans k84_120_59))
          have kr_120_62 : rd M97 120 62 = s45_120_62 := ((Wr.b w97 rfl).trans ((Wr.b w90 rfl).trans k84_120_62))
          have kr_120_68 : rd M97 120 68 = s45_120_68 := ((Wr.b w97 rfl).trans ((Wr.b w90 rfl).trans k84_120_68))
          have kr_120_75 : rd M97 120 75 = u84_120_75 := ((Wr.b w97 rfl).trans ((Wr.b w90 rfl).trans k84_120_75))
          exact Tr.zret (pc := 99) d_X12_holds_99 rfl (by omega) ⟨hS, _, rfl, by omega, by omega, by omega, by omega, by omega, by omega⟩
        refine Tr.if_ne (pc := 74) (tgt := 84) d_X12_holds_74 rfl (fun c74 => ?_) (fun c74 => ?_)
        · refine Tr.pick [1, 2, 3] (ls2 := [(0, (2, 120)), (1, (0, a1)), (2, (0, a2))]) rfl ?_
          exact J84 _ _ hS (by omega) es45_120_59 es45_120_62 es45_120_68 es45_120_75 ((St.ka h45 (by decide) (by decide) (by decide)).trans k35_156_a110) (by omega) (by omega) (by omega)
        · refine Tr.aload_n (pc := 77) (i := 0) d_X12_holds_77 rfl rfl ?_
          refine Tr.iload_n (pc := 78) (i := 1) d_X12_holds_78 rfl rfl ?_
          refine Tr.iload_n (pc := 79) (i := 2) d_X12_holds_79 rfl rfl ?_
          refine Tr.iload_n (pc := 80) (i := 3) d_X12_holds_80 rfl rfl ?_
          refine Tr.callV (pc := 81) (as := [_, _, _]) d_X12_holds_81 s_12_580 ok_X12_acts rfl rfl (Nat.le_of_ble_eq_true rfl) (Nat.le_of_ble_eq_true rfl) (by decide) (ty_120 hS.1.1) ?_
          have kb81_120_75 : rd M45 120 75 = s45_120_75 := es45_120_75
          refine Tr.imp (Tr.deep (by decide) (sp_X12_acts_120 hS.1.wk a1 (by omega) a2 (by omega) (g120_62 - 1) (by omega) (by omega))) ?_
          rintro M81 _ ⟨h81, rfl, z81_0⟩
          have h81 := St.rn h81 (Tb0.of hS.1.2.2.2.2 (fun _ => (St.ka h81 (by decide) (by decide) (by decide))) (St.kp h81 (by decide) (by decide) (by decide)))
          have hS := St.tr hS h81 (by decide) (by decide)
          obtain ⟨s81_120_75, es81_120_75⟩ : ∃ v, rd M81 120 75 = v := ⟨_, rfl⟩
          have bs81_120_75 : 0 ≤ s81_120_75 ∧ s81_120_75 ≤ 2100 := by rw [← es81_120_75]; exact ir_120_75 hS.1.2.1
          refine Tr.sc [] rfl ?_
          refine Tr.pick [1, 2, 3] (ls2 := [(0, (2, 120)), (1, (0, a1)), (2, (0, a2))]) rfl ?_
          exact J84 _ _ hS (by omega) ((St.kp h81 (by decide) (by decide) (by decide)).trans es45_120_59) ((St.kp h81 (by decide) (by decide) (by decide)).trans es45_120_62) ((St.kp h81 (by decide) (by decide) (by decide)).trans es45_120_68) es81_120_75 ((St.ka h81 (by decide) (by decide) (by decide)).trans ((St.ka h45 (by decide) (by decide) (by decide)).trans k35_156_a110)) (by omega) (by omega) (by omega)
      · refine Tr.aload_n (pc := 51) (i := 0) d_X12_holds_51 rfl rfl ?_
        refine Tr.aload_n (pc := 52) (i := 0) d_X12_holds_52 rfl rfl ?_
        refine Tr.getf (pc := 53) d_X12_holds_53 f_12_201 (by decide) (by decide) (ty_120 hS.1.1) ?_
        refine Tr.tp s45_120_62 es45_120_62 ?_
        refine Tr.iload_n (pc := 56) (i := 3) d_X12_holds_56 rfl rfl ?_
        refine Tr.iconst (pc := 57) d_X12_holds_57 (by decide) ?_
        refine Tr.iadd (pc := 58) d_X12_holds_58 ?_
        refine Tr.tp g120_62 ((w32_id (by omega)).trans (by omega)) ?_
        refine Tr.icmp_le (pc := 59) (tgt := 66) d_X12_holds_59 rfl (fun c59 => ?_) (fun c59 => ?_)
        · refine Tr.iconst (pc := 66) d_X12_holds_66 (by decide) ?_
          refine Tr.putfS (pc := 67) (P := St Tb0 ws_X12_holds_120 as_X12_holds_120 M0) d_X12_holds_67 f_12_195 (by decide) (by decide) (ty_120 hS.1.1) (st_120_60 hS (by decide) (by omega) (Tb0.of hS.1.2.2.2.2 (fun _ => rd_wb _ rfl) (rd_wb _ rfl))) (fun M67 hS w67 => ?_)
          refine Tr.iconst (pc := 70) d_X12_holds_70 (by decide) ?_
          have kr_120_59 : rd M67 120 59 = s45_120_59 := ((Wr.b w67 rfl).trans es45_120_59)
          have kr_120_62 : rd M67 120 62 = s45_120_62 := ((Wr.b w67 rfl).trans es45_120_62)
          have kr_120_68 : rd M67 120 68 = s45_120_68 := ((Wr.b w67 rfl).trans es45_120_68)
          have kr_120_75 : rd M67 120 75 = s45_120_75 := ((Wr.b w67 rfl).trans es45_120_75)
          exact Tr.zret (pc := 71) d_X12_holds_71 rfl (by omega) ⟨hS, _, rfl, by omega, by omega, by omega, by omega, by omega, by omega⟩
        · refine Tr.iload_n (pc := 62) (i := 1) d_X12_holds_62 rfl rfl ?_
          refine Tr.goto (pc := 63) (tgt := 67) d_X12_holds_63 rfl ?_
          refine Tr.putfS (pc := 67) (P := St Tb0 ws_X12_holds_120 as_X12_holds_120 M0) d_X12_holds_67 f_12_195 (by decide) (by decide) (ty_120 hS.1.1) (st_120_60 hS (by decide) (by omega) (Tb0.of hS.1.2.2.2.2 (fun _ => rd_wb _ rfl) (rd_wb _ rfl))) (fun M67 hS w67 => ?_)
          refine Tr.iconst (pc := 70) d_X12_holds_70 (by decide) ?_
          have kr_120_59 : rd M67 120 59 = s45_120_59 := ((Wr.b w67 rfl).trans es45_120_59)
          have kr_120_62 : rd M67 120 62 = s45_120_62 := ((Wr.b w67 rfl).trans es45_120_62)
          have kr_120_68 : rd M67 120 68 = s45_120_68 := ((Wr.b w67 rfl).trans es45_120_68)
          have kr_120_75 : rd M67 120 75 = s45_120_75 := ((Wr.b w67 rfl).trans es45_120_75)
          exact Tr.zret (pc := 71) d_X12_holds_71 rfl (by omega) ⟨hS, _, rfl, by omega, by omega, by omega, by omega, by omega, by omega⟩
    refine Tr.if_ne (pc := 23) (tgt := 34) d_X12_holds_23 rfl (fun c23 => ?_) (fun c23 => ?_)
    · refine Tr.iconst (pc := 34) d_X12_holds_34 (by decide) ?_
      refine Tr.pick [1, 2, 3, 0] (ls2 := [(0, (2, 120)), (1, (0, a1)), (2, (0, a2)), (3, (0, (g120_62 - 1)))]) rfl ?_
      exact J35 _ _ hS (by omega) ((St.kp h20 (by decide) (by decide) (by decide)).trans eg120_59) ew20_120_61 ((St.kp h20 (by decide) (by decide) (by decide)).trans eg120_62) ((St.kp h20 (by decide) (by decide) (by decide)).trans eg120_68) ((St.kp h20 (by decide) (by decide) (by decide)).trans eg120_75) ((St.ka h20 (by decide) (by decide) (by decide)).trans er5)
    · refine Tr.aload_n (pc := 26) (i := 0) d_X12_holds_26 rfl rfl ?_
      refine Tr.iload_n (pc := 27) (i := 1) d_X12_holds_27 rfl rfl ?_
      refine Tr.callV (pc := 28) (as := [_]) d_X12_holds_28 s_12_584 ok_X12_wakes rfl rfl (Nat.le_of_ble_eq_true rfl) (Nat.le_of_ble_eq_true rfl) (by decide) (ty_120 hS.1.1) ?_
      refine Tr.imp (Tr.deep (by decide) (sp_X12_wakes_120 hS.1.wk ((St.kp hS (by decide) (by decide) (by decide)).trans en_120_12) a1 (by omega) (Bk0.of hF_Bk0 (fun j => (St.ka hS (by decide) (by decide) (by decide))) (fun j => (St.ka hS (by decide) (by decide) (by decide))) (fun j => (St.ka hS (by decide) (by decide) (by decide))) (fun j => (St.ka hS (by decide) (by decide) (by decide))) (fun j => (St.ka hS (by decide) (by decide) (by decide))) (fun j => (St.ka hS (by decide) (by decide) (by decide))) (fun j => (St.ka hS (by decide) (by decide) (by decide))) (fun j => (St.ka hS (by decide) (by decide) (by decide))) (St.kp hS (by decide) (by decide) (by decide)) (St.kp hS (by decide) (by decide) (by decide)) (St.kp hS (by decide) (by decide) (by decide)) (St.kp hS (by decide) (by decide) (by decide))))) ?_
      rintro M28 _ ⟨h28, r28, rfl, lr28, ur28⟩
      have h28 := St.rn h28 (Tb0.of hS.1.2.2.2.2 (fun _ => (St.ka h28 (by decide) (by decide) (by decide))) (St.kp h28 (by decide) (by decide) (by decide)))
      have hS := St.tr hS h28 (by decide) (by decide)
      refine Tr.sc [(0, r28)] rfl ?_
      refine Tr.goto (pc := 31) (tgt := 35) d_X12_holds_31 rfl ?_
      refine Tr.pick [1, 2, 3, 0] (ls2 := [(0, (2, 120)), (1, (0, a1)), (2, (0, a2)), (3, (0, (g120_62 - 1)))]) rfl ?_
      exact J35 _ _ hS (by omega) ((St.kp h28 (by decide) (by decide) (by decide)).trans ((St.kp h20 (by decide) (by decide) (by decide)).trans eg120_59)) ((St.kp h28 (by decide) (by decide) (by decide)).trans ew20_120_61) ((St.kp h28 (by decide) (by decide) (by decide)).trans ((St.kp h20 (by decide) (by decide) (by decide)).trans eg120_62)) ((St.kp h28 (by decide) (by decide) (by decide)).trans ((St.kp h20 (by decide) (by decide) (by decide)).trans eg120_68)) ((St.kp h28 (by decide) (by decide) (by decide)).trans ((St.kp h20 (by decide) (by decide) (by decide)).trans eg120_75)) ((St.ka h28 (by decide) (by decide) (by decide)).trans ((St.ka h20 (by decide) (by decide) (by decide)).trans er5))
  · refine Tr.iconst (pc := 9) d_X12_holds_9 (by decide) ?_
    have kr_120_59 : rd M0 120 59 = g120_59 := eg120_59
    have kr_120_62 : rd M0 120 62 = g120_62 := eg120_62
    have kr_120_68 : rd M0 120 68 = g120_68 := eg120_68
    have kr_120_75 : rd M0 120 75 = g120_75 := eg120_75
    exact Tr.zret (pc := 10) d_X12_holds_10 rfl (by omega) ⟨hS, _, rfl, by omega, by omega, by omega, by omega, by omega, by omega⟩

def ws_X12_within_v50 : List (Int × Int) := []
def as_X12_within_v50 : List Int := []
def q_X12_within_v50 (a0 : Int) (M0 M' : Mem) (r : Option PV) : Prop := St Tru ws_X12_within_v50 as_X12_within_v50 M0 M' ∧ ∃ v : Int, r = some (0, v) ∧ 0 ≤ v ∧ v ≤ 50 ∧ (0 ≤ v ∧ v ≤ 50)
set_option maxRecDepth 100000 in
set_option maxHeartbeats 4000000 in
theorem sp_X12_within_v50 {l : Launch} {K : EC} {M0 : Mem} (hI : In Tru M0)  (a0 : Int) (ha0 : (-9223372036854775808) ≤ a0 ∧ a0 ≤ 9223372036854775807)  : Tr l K 0 mX12_within 0 [(0, (1, a0)), (2, (0, 50))] [] M0 (q_X12_within_v50 a0 M0) := by
  have hS : St Tru ws_X12_within_v50 as_X12_within_v50 M0 M0 := St.rf hI
  refine Tr.lload_n (pc := 0) (i := 0) d_X12_within_0 rfl rfl ?_
  refine Tr.lconst (pc := 1) (v := 0) d_X12_within_1 rfl (by decide) ?_
  refine Tr.lcmp (pc := 2) d_X12_within_2 ?_
  refine Tr.gen (P := fun v => (v = 1 ∧ 0 < a0) ∨ (v = 0 ∧ a0 = 0) ∨ (v = -1 ∧ a0 < 0)) (f_lcmp_c _ _) (fun r2 er2 br2 => ?_)
  refine Tr.if_ge (pc := 3) (tgt := 10) d_X12_within_3 rfl (fun c3 => ?_) (fun c3 => ?_)
  · refine Tr.lload_n (pc := 10) (i := 0) d_X12_within_10 rfl rfl ?_
    refine Tr.iload_n (pc := 11) (i := 2) d_X12_within_11 rfl rfl ?_
    refine Tr.i2l (pc := 12) d_X12_within_12 ?_
    refine Tr.lcmp (pc := 13) d_X12_within_13 ?_
    refine Tr.gen (P := fun v => (v = 1 ∧ 50 < a0) ∨ (v = 0 ∧ a0 = 50) ∨ (v = -1 ∧ a0 < 50)) (f_lcmp_c _ _) (fun r13 er13 br13 => ?_)
    refine Tr.if_le (pc := 14) (tgt := 21) d_X12_within_14 rfl (fun c14 => ?_) (fun c14 => ?_)
    · refine Tr.lload_n (pc := 21) (i := 0) d_X12_within_21 rfl rfl ?_
      refine Tr.l2i (pc := 22) d_X12_within_22 ?_
      refine Tr.tp a0 (w32_id (by omega)) ?_
      exact Tr.iret (pc := 23) d_X12_within_23 rfl ⟨hS, _, rfl, by omega, by omega, by omega⟩
    · refine Tr.iload_n (pc := 17) (i := 2) d_X12_within_17 rfl rfl ?_
      refine Tr.goto (pc := 18) (tgt := 23) d_X12_within_18 rfl ?_
      exact Tr.iret (pc := 23) d_X12_within_23 rfl ⟨hS, _, rfl, by omega, by omega, by omega⟩
  · refine Tr.iconst (pc := 6) d_X12_within_6 (by decide) ?_
    refine Tr.goto (pc := 7) (tgt := 23) d_X12_within_7 rfl ?_
    exact Tr.iret (pc := 23) d_X12_within_23 rfl ⟨hS, _, rfl, by omega, by omega, by omega⟩

def ws_X12_uses_120 : List (Int × Int) := [(120, 59), (120, 60), (120, 61), (120, 62), (120, 63), (120, 68), (120, 75), (120, 79)]
def as_X12_uses_120 : List Int := [158, 159, 161, 162, 163, 164, 165, 166, 167, 168, 169, 170, 171]
def q_X12_uses_120 (a1 : Int) (a2 : Int) (a3 : Int) (M0 M' : Mem) (r : Option PV) : Prop := St Tb0 ws_X12_uses_120 as_X12_uses_120 M0 M' ∧ ∃ v : Int, r = some (0, v) ∧ 0 ≤ v ∧ v ≤ 1 ∧ (rd M' 120 75 ≤ rd M' 120 62) ∧ (rd M' 120 79 ≤ rd M' 120 62) ∧ (rd M0 120 62 ≤ rd M' 120 62 ∧ rd M' 120 62 ≤ 2000) ∧ (v = 1 ∨ 1 ≤ rd M' 120 68) ∧ (rd M' 120 59 = -1)
set_option maxRecDepth 100000 in
set_option maxHeartbeats 4000000 in
theorem sp_X12_uses_120 {l : Launch} {K : EC} {M0 : Mem} (hI : In Tb0 M0) (en_120_12 : rd M0 120 12 = 0) (a1 : Int) (ha1 : 0 ≤ a1 ∧ a1 ≤ 5) (a2 : Int) (ha2 : 0 ≤ a2 ∧ a2 ≤ 50) (a3 : Int) (ha3 : 0 ≤ a3 ∧ a3 ≤ 59)  (hq0 : rd M0 120 75 + 1 ≤ rd M0 120 62) (hq1 : rd M0 120 79 + 1 ≤ rd M0 120 62) (hq2 : rd M0 120 62 ≤ 2000) (hF_Bk0 : Bk0 M0) : Tr l K 5 mX12_uses 0 [(0, (2, 120)), (1, (0, a1)), (2, (0, a2)), (3, (0, a3))] [] M0 (q_X12_uses_120 a1 a2 a3 M0) := by
  have hS : St Tb0 ws_X12_uses_120 as_X12_uses_120 M0 M0 := St.rf hI
  obtain ⟨g120_62, eg120_62⟩ : ∃ v, rd M0 120 62 = v := ⟨_, rfl⟩
  have bg120_62 : 0 ≤ g120_62 ∧ g120_62 ≤ 2060 := by rw [← eg120_62]; exact ir_120_62 hI.2.1
  obtain ⟨g120_68, eg120_68⟩ : ∃ v, rd M0 120 68 = v := ⟨_, rfl⟩
  have bg120_68 : 0 ≤ g120_68 ∧ g120_68 ≤ 2 := by rw [← eg120_68]; exact ir_120_68 hI.2.1
  obtain ⟨g120_75, eg120_75⟩ : ∃ v, rd M0 120 75 = v := ⟨_, rfl⟩
  have bg120_75 : 0 ≤ g120_75 ∧ g120_75 ≤ 2100 := by rw [← eg120_75]; exact ir_120_75 hI.2.1
  obtain ⟨g120_79, eg120_79⟩ : ∃ v, rd M0 120 79 = v := ⟨_, rfl⟩
  have bg120_79 : 0 ≤ g120_79 ∧ g120_79 ≤ 2100 := by rw [← eg120_79]; exact ir_120_79 hI.2.1
  obtain ⟨g120_59, eg120_59⟩ : ∃ v, rd M0 120 59 = v := ⟨_, rfl⟩
  have bg120_59 : (-1) ≤ g120_59 ∧ g120_59 ≤ 5 := by rw [← eg120_59]; exact ir_120_59 hI.2.1
  obtain ⟨g126_0, eg126_0⟩ : ∃ v, rd M0 126 0 = v := ⟨_, rfl⟩
  have bg126_0 : 0 ≤ g126_0 ∧ g126_0 ≤ 6 := by rw [← eg126_0]; exact ir_126_0 hI.2.1
  refine Tr.aload_n (pc := 0) (i := 0) d_X12_uses_0 rfl rfl ?_
  refine Tr.getf (pc := 1) d_X12_uses_1 f_12_201 (by decide) (by decide) (ty_120 hS.1.1) ?_
  refine Tr.tp g120_62 eg120_62 ?_
  refine Tr.iconst (pc := 4) d_X12_uses_4 (by decide) ?_
  refine Tr.isub (pc := 5) d_X12_uses_5 ?_
  refine Tr.tp (g120_62 - 1) ((w32_id (by omega)).trans (by omega)) ?_
  refine Tr.istore (pc := 6) (i := 4) (ls2 := [(4, (0, (g120_62 - 1))), (0, (2, 120)), (1, (0, a1)), (2, (0, a2)), (3, (0, a3))]) d_X12_uses_6 (by decide) rfl ?_
  refine Tr.aload_n (pc := 8) (i := 0) d_X12_uses_8 rfl rfl ?_
  refine Tr.iload_n (pc := 9) (i := 1) d_X12_uses_9 rfl rfl ?_
  refine Tr.callV (pc := 10) (as := [_]) d_X12_uses_10 s_12_571 ok_X12_stateOf rfl rfl (Nat.le_of_ble_eq_true rfl) (Nat.le_of_ble_eq_true rfl) (by decide) (ty_120 hS.1.1) ?_
  refine Tr.imp (Tr.deep (by decide) (sp_X12_stateOf_120 hS.1.wk a1 (by omega))) ?_
  rintro M10 _ ⟨h10, r10, rfl, lr10, ur10, z10_0⟩
  have h10 := St.rn h10 (Tb0.of hS.1.2.2.2.2 (fun _ => (St.ka h10 (by decide) (by decide) (by decide))) (St.kp h10 (by decide) (by decide) (by decide)))
  have hS := St.tr hS h10 (by decide) (by decide)
  have ka10_120_59 : rd M10 120 59 = g120_59 := ((St.kp h10 (by decide) (by decide) (by decide)).trans eg120_59)
  obtain ⟨w10_120_61, ew10_120_61⟩ : ∃ v, rd M10 120 61 = v := ⟨_, rfl⟩
  have bw10_120_61 : 0 ≤ w10_120_61 ∧ w10_120_61 ≤ 3 := by rw [← ew10_120_61]; exact ir_120_61 hS.1.2.1
  have ka10_120_61 : rd M10 120 61 = w10_120_61 := ew10_120_61
  refine Tr.sc [(0, r10)] rfl ?_
  have J25 : ∀ (M : Mem) (q25_0 : Int), St Tb0 ws_X12_uses_120 as_X12_uses_120 M0 M → ((-2147483648) ≤ q25_0 ∧ q25_0 ≤ 2147483647) → rd M 120 59 = g120_59 → rd M 120 61 = w10_120_61 → rd M 120 62 = g120_62 → rd M 120 68 = g120_68 → rd M 120 75 = g120_75 → rd M 120 79 = g120_79 → rd M 126 0 = g126_0 → Tr l K 5 mX12_uses 25 [(0, (2, 120)), (1, (0, a1)), (2, (0, a2)), (3, (0, a3)), (4, (0, (g120_62 - 1)))] [(0, q25_0)] M (q_X12_uses_120 a1 a2 a3 M0) := by
    intro M q25_0 hS bq25_0 k25_120_59 k25_120_61 k25_120_62 k25_120_68 k25_120_75 k25_120_79 k25_126_0
    refine Tr.istore (pc := 25) (i := 5) (ls2 := [(5, (0, q25_0)), (0, (2, 120)), (1, (0, a1)), (2, (0, a2)), (3, (0, a3)), (4, (0, (g120_62 - 1)))]) d_X12_uses_25 (by decide) rfl ?_
    refine Tr.aload_n (pc := 27) (i := 0) d_X12_uses_27 rfl rfl ?_
    refine Tr.iload_n (pc := 28) (i := 1) d_X12_uses_28 rfl rfl ?_
    refine Tr.iconst (pc := 29) d_X12_uses_29 (by decide) ?_
    refine Tr.iload (pc := 30) (i := 5) d_X12_uses_30 rfl ?_
    refine Tr.iload_n (pc := 32) (i := 3) d_X12_uses_32 rfl rfl ?_
    refine Tr.iconst (pc := 33) d_X12_uses_33 (by decide) ?_
    refine Tr.iload (pc := 34) (i := 4) d_X12_uses_34 rfl ?_
    refine Tr.callV (pc := 36) (as := [_, _, _, _, _, _]) d_X12_uses_36 s_12_587 ok_X12_ticksOf rfl rfl (Nat.le_of_ble_eq_true rfl) (Nat.le_of_ble_eq_true rfl) (by decide) (ty_120 hS.1.1) ?_
    have kb36_120_62 : rd M 120 62 = g120_62 := k25_120_62
    have kb36_120_75 : rd M 120 75 = g120_75 := k25_120_75
    refine Tr.imp (Tr.deep (by decide) (sp_X12_ticksOf_120 hS.1 ((St.kp hS (by decide) (by decide) (by decide)).trans en_120_12) a1 (by omega) 1 (by omega) q25_0 (by omega) a3 (by omega) 1 (by omega) (g120_62 - 1) (by omega) (by omega) (by omega) (by omega) (by omega) (Bk0.of hF_Bk0 (fun j => (St.ka hS (by decide) (by decide) (by decide))) (fun j => (St.ka hS (by decide) (by decide) (by decide))) (fun j => (St.ka hS (by decide) (by decide) (by decide))) (fun j => (St.ka hS (by decide) (by decide) (by decide))) (fun j => (St.ka hS (by decide) (by decide) (by decide))) (fun j => (St.ka hS (by decide) (by decide) (by decide))) (fun j => (St.ka hS (by decide) (by decide) (by decide))) (fun j => (St.ka hS (by decide) (by decide) (by decide))) (St.kp hS (by decide) (by decide) (by decide)) (St.kp hS (by decide) (by decide) (by decide)) (St.kp hS (by decide) (by decide) (by decide)) (St.kp hS (by decide) (by decide) (by decide))))) ?_
    rintro M36 _ ⟨h36, r36, rfl, lr36, ur36, z36_0, z36_1, z36_2, z36_3⟩
    have hS := St.tr hS h36 (by decide) (by decide)
    obtain ⟨s36_120_59, es36_120_59⟩ : ∃ v, rd M36 120 59 = v := ⟨_, rfl⟩
    have bs36_120_59 : (-1) ≤ s36_120_59 ∧ s36_120_59 ≤ 5 := by rw [← es36_120_59]; exact ir_120_59 hS.1.2.1
    obtain ⟨s36_120_62, es36_120_62⟩ : ∃ v, rd M36 120 62 = v := ⟨_, rfl⟩
    have bs36_120_62 : 0 ≤ s36_120_62 ∧ s36_120_62 ≤ 2060 := by rw [← es36_120_62]; exact ir_120_62 hS.1.2.1
    obtain ⟨s36_120_68, es36_120_68⟩ : ∃ v, rd M36 120 68 = v := ⟨_, rfl⟩
    have bs36_120_68 : 0 ≤ s36_120_68 ∧ s36_120_68 ≤ 2 := by rw [← es36_120_68]; exact ir_120_68 hS.1.2.1
    obtain ⟨s36_120_75, es36_120_75⟩ : ∃ v, rd M36 120 75 = v := ⟨_, rfl⟩
    have bs36_120_75 : 0 ≤ s36_120_75 ∧ s36_120_75 ≤ 2100 := by rw [← es36_120_75]; exact ir_120_75 hS.1.2.1
    refine Tr.sc [(0, r36)] rfl ?_
    have J65 : ∀ (M : Mem) (u65_120_59 u65_120_62 u65_120_68 u65_120_75 : Int), St Tb0 ws_X12_uses_120 as_X12_uses_120 M0 M → ((-1) ≤ u65_120_59 ∧ u65_120_59 ≤ 5) → (0 ≤ u65_120_62 ∧ u65_120_62 ≤ 2060) → (0 ≤ u65_120_68 ∧ u65_120_68 ≤ 2) → (0 ≤ u65_120_75 ∧ u65_120_75 ≤ 2100) → rd M 120 59 = u65_120_59 → rd M 120 62 = u65_120_62 → rd M 120 68 = u65_120_68 → rd M 120 75 = u65_120_75 → rd M 120 79 = g120_79 → rd M 126 0 = g126_0 → (1 ≤ u65_120_68) → (u65_120_75 ≤ g120_75 + 1) → (g120_62 ≤ u65_120_62 ∧ u65_120_62 ≤ 2000) → (u65_120_59 = -1) → Tr l K 5 mX12_uses 65 [(0, (2, 120)), (1, (0, a1)), (4, (0, (g120_62 - 1)))] [] M (q_X12_uses_120 a1 a2 a3 M0) := by
      intro M u65_120_59 u65_120_62 u65_120_68 u65_120_75 hS bu65_120_59 bu65_120_62 bu65_120_68 bu65_120_75 k65_120_59 k65_120_62 k65_120_68 k65_120_75 k65_120_79 k65_126_0 t65_0 t65_1 t65_2 t65_3
      refine Tr.aload_n (pc := 65) (i := 0) d_X12_uses_65 rfl rfl ?_
      refine Tr.aload_n (pc := 66) (i := 0) d_X12_uses_66 rfl rfl ?_
      refine Tr.getf (pc := 67) d_X12_uses_67 f_12_201 (by decide) (by decide) (ty_120 hS.1.1) ?_
      refine Tr.tp u65_120_62 k65_120_62 ?_
      refine Tr.iload (pc := 70) (i := 4) d_X12_uses_70 rfl ?_
      refine Tr.iconst (pc := 72) d_X12_uses_72 (by decide) ?_
      refine Tr.iadd (pc := 73) d_X12_uses_73 ?_
      refine Tr.tp g120_62 ((w32_id (by omega)).trans (by omega)) ?_
      refine Tr.icmp_le (pc := 74) (tgt := 81) d_X12_uses_74 rfl (fun c74 => ?_) (fun c74 => ?_)
      · refine Tr.iconst (pc := 81) d_X12_uses_81 (by decide) ?_
        refine Tr.putfS (pc := 82) (P := St Tb0 ws_X12_uses_120 as_X12_uses_120 M0) d_X12_uses_82 f_12_195 (by decide) (by decide) (ty_120 hS.1.1) (st_120_60 hS (by decide) (by omega) (Tb0.of hS.1.2.2.2.2 (fun _ => rd_wb _ rfl) (rd_wb _ rfl))) (fun M82 hS w82 => ?_)
        refine Tr.iconst (pc := 85) d_X12_uses_85 (by decide) ?_
        have kr_120_59 : rd M82 120 59 = u65_120_59 := ((Wr.b w82 rfl).trans k65_120_59)
        have kr_120_62 : rd M82 120 62 = u65_120_62 := ((Wr.b w82 rfl).trans k65_120_62)
        have kr_120_68 : rd M82 120 68 = u65_120_68 := ((Wr.b w82 rfl).trans k65_120_68)
        have kr_120_75 : rd M82 120 75 = u65_120_75 := ((Wr.b w82 rfl).trans k65_120_75)
        have kr_120_79 : rd M82 120 79 = g120_79 := ((Wr.b w82 rfl).trans k65_120_79)
        exact Tr.zret (pc := 86) d_X12_uses_86 rfl (by omega) ⟨hS, _, rfl, by omega, by omega, by omega, by omega, by omega, by omega, by omega⟩
      · refine Tr.iload_n (pc := 77) (i := 1) d_X12_uses_77 rfl rfl ?_
        refine Tr.goto (pc := 78) (tgt := 82) d_X12_uses_78 rfl ?_
        refine Tr.putfS (pc := 82) (P := St Tb0 ws_X12_uses_120 as_X12_uses_120 M0) d_X12_uses_82 f_12_195 (by decide) (by decide) (ty_120 hS.1.1) (st_120_60 hS (by decide) (by omega) (Tb0.of hS.1.2.2.2.2 (fun _ => rd_wb _ rfl) (rd_wb _ rfl))) (fun M82 hS w82 => ?_)
        refine Tr.iconst (pc := 85) d_X12_uses_85 (by decide) ?_
        have kr_120_59 : rd M82 120 59 = u65_120_59 := ((Wr.b w82 rfl).trans k65_120_59)
        have kr_120_62 : rd M82 120 62 = u65_120_62 := ((Wr.b w82 rfl).trans k65_120_62)
        have kr_120_68 : rd M82 120 68 = u65_120_68 := ((Wr.b w82 rfl).trans k65_120_68)
        have kr_120_75 : rd M82 120 75 = u65_120_75 := ((Wr.b w82 rfl).trans k65_120_75)
        have kr_120_79 : rd M82 120 79 = g120_79 := ((Wr.b w82 rfl).trans k65_120_79)
        exact Tr.zret (pc := 86) d_X12_uses_86 rfl (by omega) ⟨hS, _, rfl, by omega, by omega, by omega, by omega, by omega, by omega, by omega⟩
    refine Tr.if_eq (pc := 39) (tgt := 65) d_X12_uses_39 rfl (fun c39 => ?_) (fun c39 => ?_)
    · refine Tr.pick [1, 2, 5] (ls2 := [(0, (2, 120)), (1, (0, a1)), (4, (0, (g120_62 - 1)))]) rfl ?_
      exact J65 _ _ _ _ _ hS (by omega) (by omega) (by omega) (by omega) es36_120_59 es36_120_62 es36_120_68 es36_120_75 ((St.kp h36 (by decide) (by decide) (by decide)).trans k25_120_79) ((St.kp h36 (by decide) (by decide) (by decide)).trans k25_126_0) (by omega) (by omega) (by omega) (by omega)
    · refine Tr.aload_n (pc := 42) (i := 0) d_X12_uses_42 rfl rfl ?_
      refine Tr.iload_n (pc := 43) (i := 1) d_X12_uses_43 rfl rfl ?_
      refine Tr.iconst (pc := 44) d_X12_uses_44 (by decide) ?_
      refine Tr.iload_n (pc := 45) (i := 2) d_X12_uses_45 rfl rfl ?_
      refine Tr.iload_n (pc := 46) (i := 3) d_X12_uses_46 rfl rfl ?_
      refine Tr.iload (pc := 47) (i := 5) d_X12_uses_47 rfl ?_
      have J57 : ∀ (M : Mem) (q57_5 : Int), St Tb0 ws_X12_uses_120 as_X12_uses_120 M0 M → (0 ≤ q57_5 ∧ q57_5 ≤ 1) → rd M 120 59 = s36_120_59 → rd M 120 62 = s36_120_62 → rd M 120 68 = s36_120_68 → rd M 120 75 = s36_120_75 → rd M 120 79 = g120_79 → rd M 126 0 = g126_0 → (q57_5 = 0 ∨ q25_0 = 0) → (s36_120_75 = g120_75 ∨ (s36_120_75 = g120_75 + 1 ∧ 1 ≤ q25_0)) → (g120_62 ≤ s36_120_62 ∧ s36_120_62 ≤ 2000) → Tr l K 5 mX12_uses 57 [(0, (2, 120)), (1, (0, a1)), (2, (0, a2)), (3, (0, a3)), (4, (0, (g120_62 - 1))), (5, (0, q25_0))] [(0, q57_5), (0, a3), (0, a2), (0, 3), (0, a1), (2, 120)] M (q_X12_uses_120 a1 a2 a3 M0) := by
        intro M q57_5 hS bq57_5 k57_120_59 k57_120_62 k57_120_68 k57_120_75 k57_120_79 k57_126_0 t57_0 t57_1 t57_2
        refine Tr.iload (pc := 57) (i := 4) d_X12_uses_57 rfl ?_
        refine Tr.callV (pc := 59) (as := [_, _, _, _, _, _]) d_X12_uses_59 s_12_587 ok_X12_ticksOf rfl rfl (Nat.le_of_ble_eq_true rfl) (Nat.le_of_ble_eq_true rfl) (by decide) (ty_120 hS.1.1) ?_
        have kb59_120_62 : rd M 120 62 = s36_120_62 := k57_120_62
        have kb59_120_75 : rd M 120 75 = s36_120_75 := k57_120_75
        refine Tr.imp (Tr.deep (by decide) (sp_X12_ticksOf_120 hS.1 ((St.kp hS (by decide) (by decide) (by decide)).trans en_120_12) a1 (by omega) 3 (by omega) a2 (by omega) a3 (by omega) q57_5 (by omega) (g120_62 - 1) (by omega) (by omega) (by omega) (by omega) (by omega) (Bk0.of hF_Bk0 (fun j => (St.ka hS (by decide) (by decide) (by decide))) (fun j => (St.ka hS (by decide) (by decide) (by decide))) (fun j => (St.ka hS (by decide) (by decide) (by decide))) (fun j => (St.ka hS (by decide) (by decide) (by decide))) (fun j => (St.ka hS (by decide) (by decide) (by decide))) (fun j => (St.ka hS (by decide) (by decide) (by decide))) (fun j => (St.ka hS (by decide) (by decide) (by decide))) (fun j => (St.ka hS (by decide) (by decide) (by decide))) (St.kp hS (by decide) (by decide) (by decide)) (St.kp hS (by decide) (by decide) (by decide)) (St.kp hS (by decide) (by decide) (by decide)) (St.kp hS (by decide) (by decide) (by decide))))) ?_
        rintro M59 _ ⟨h59, r59, rfl, lr59, ur59, z59_0, z59_1, z59_2, z59_3⟩
        have hS := St.tr hS h59 (by decide) (by decide)
        obtain ⟨s59_120_59, es59_120_59⟩ : ∃ v, rd M59 120 59 = v := ⟨_, rfl⟩
        have bs59_120_59 : (-1) ≤ s59_120_59 ∧ s59_120_59 ≤ 5 := by rw [← es59_120_59]; exact ir_120_59 hS.1.2.1
        obtain ⟨s59_120_62, es59_120_62⟩ : ∃ v, rd M59 120 62 = v := ⟨_, rfl⟩
        have bs59_120_62 : 0 ≤ s59_120_62 ∧ s59_120_62 ≤ 2060 := by rw [← es59_120_62]; exact ir_120_62 hS.1.2.1
        obtain ⟨s59_120_68, es59_120_68⟩ : ∃ v, rd M59 120 68 = v := ⟨_, rfl⟩
        have bs59_120_68 : 0 ≤ s59_120_68 ∧ s59_120_68 ≤ 2 := by rw [← es59_120_68]; exact ir_120_68 hS.1.2.1
        obtain ⟨s59_120_75, es59_120_75⟩ : ∃ v, rd M59 120 75 = v := ⟨_, rfl⟩
        have bs59_120_75 : 0 ≤ s59_120_75 ∧ s59_120_75 ≤ 2100 := by rw [← es59_120_75]; exact ir_120_75 hS.1.2.1
        refine Tr.sc [(0, r59)] rfl ?_
        refine Tr.if_ne (pc := 62) (tgt := 87) d_X12_uses_62 rfl (fun c62 => ?_) (fun c62 => ?_)
        · refine Tr.iload (pc := 87) (i := 5) d_X12_uses_87 rfl ?_
          refine Tr.iload_n (pc := 89) (i := 2) d_X12_uses_89 rfl rfl ?_
          refine Tr.iadd (pc := 90) d_X12_uses_90 ?_
          refine Tr.gen (P := fun v => ((-2147483648) ≤ v ∧ v ≤ 2147483647) ∧ (v ≠ 0 ∨ q25_0 + a2 = 0)) (w32_z (by omega) (by omega)) (fun r90 er90 br90 => ?_)
          have J102 : ∀ (M : Mem) (u102_120_75 : Int), St Tb0 ws_X12_uses_120 as_X12_uses_120 M0 M → (0 ≤ u102_120_75 ∧ u102_120_75 ≤ 2100) → rd M 120 59 = s59_120_59 → rd M 120 62 = s59_120_62 → rd M 120 68 = s59_120_68 → rd M 120 75 = u102_120_75 → rd M 120 79 = g120_79 → rd M 126 0 = g126_0 → (u102_120_75 ≤ g120_75 + 1) → (g120_62 ≤ s59_120_62 ∧ s59_120_62 ≤ 2000) → (s59_120_59 = -1) → Tr l K 5 mX12_uses 102 [(0, (2, 120)), (1, (0, a1)), (2, (0, a2)), (3, (0, a3))] [] M (q_X12_uses_120 a1 a2 a3 M0) := by
            intro M u102_120_75 hS bu102_120_75 k102_120_59 k102_120_62 k102_120_68 k102_120_75 k102_120_79 k102_126_0 t102_0 t102_1 t102_2
            refine Tr.iload_n (pc := 102) (i := 2) d_X12_uses_102 rfl rfl ?_
            have J156 : ∀ (M : Mem) (u156_120_79 : Int), St Tb0 ws_X12_uses_120 as_X12_uses_120 M0 M → (0 ≤ u156_120_79 ∧ u156_120_79 ≤ 2100) → rd M 120 59 = s59_120_59 → rd M 120 62 = s59_120_62 → rd M 120 68 = s59_120_68 → rd M 120 75 = u102_120_75 → rd M 120 79 = u156_120_79 → rd M 126 0 = g126_0 → (u102_120_75 ≤ g120_75 + 1) → (g120_62 ≤ s59_120_62 ∧ s59_120_62 ≤ 2000) → (u156_120_79 ≤ g120_79 + 1) → (s59_120_59 = -1) → Tr l K 5 mX12_uses 156 [(0, (2, 120)), (1, (0, a1))] [] M (q_X12_uses_120 a1 a2 a3 M0) := by
              intro M u156_120_79 hS bu156_120_79 k156_120_59 k156_120_62 k156_120_68 k156_120_75 k156_120_79 k156_126_0 t156_0 t156_1 t156_2 t156_3
              refine Tr.aload_n (pc := 156) (i := 0) d_X12_uses_156 rfl rfl ?_
              refine Tr.getf (pc := 157) d_X12_uses_157 f_12_183 (by decide) (by decide) (ty_120 hS.1.1) ?_
              refine Tr.tp 158 (fx_120_56 hS.1.1) ?_
              refine Tr.iload_n (pc := 160) (i := 1) d_X12_uses_160 rfl rfl ?_
              refine Tr.aload_n (pc := 161) (i := 0) d_X12_uses_161 rfl rfl ?_
              refine Tr.iload_n (pc := 162) (i := 1) d_X12_uses_162 rfl rfl ?_
              refine Tr.callV (pc := 163) (as := [_]) d_X12_uses_163 s_12_591 ok_X12_tails rfl rfl (Nat.le_of_ble_eq_true rfl) (Nat.le_of_ble_eq_true rfl) (by decide) (ty_120 hS.1.1) ?_
              refine Tr.imp (Tr.deep (by decide) (sp_X12_tails_120 hS.1.wk ((St.kp hS (by decide) (by decide) (by decide)).trans en_120_12) a1 (by omega) (Bk0.of hF_Bk0 (fun j => (St.ka hS (by decide) (by decide) (by decide))) (fun j => (St.ka hS (by decide) (by decide) (by decide))) (fun j => (St.ka hS (by decide) (by decide) (by decide))) (fun j => (St.ka hS (by decide) (by decide) (by decide))) (fun j => (St.ka hS (by decide) (by decide) (by decide))) (fun j => (St.ka hS (by decide) (by decide) (by decide))) (fun j => (St.ka hS (by decide) (by decide) (by decide))) (fun j => (St.ka hS (by decide) (by decide) (by decide))) (St.kp hS (by decide) (by decide) (by decide)) (St.kp hS (by decide) (by decide) (by decide)) (St.kp hS (by decide) (by decide) (by decide)) (St.kp hS (by decide) (by decide) (by decide))))) ?_
              rintro M163 _ ⟨h163, r163, rfl, lr163, ur163, z163_0⟩
              have h163 := St.rn h163 (Tb0.of hS.1.2.2.2.2 (fun _ => (St.ka h163 (by decide) (by decide) (by decide))) (St.kp h163 (by decide) (by decide) (by decide)))
              have hS := St.tr hS h163 (by decide) (by decide)
              have ka163_126_0 : rd M163 126 0 = g126_0 := ((St.kp h163 (by decide) (by decide) (by decide)).trans k156_126_0)
              refine Tr.sc [(0, r163), (0, a1), (2, 158)] rfl ?_
              refine Tr.iastS (pc := 166) (P := St Tb0 ws_X12_uses_120 as_X12_uses_120 M0) d_X12_uses_166 (ty_158 hS.1.1) (by omega) (by omega) (sa_158 hS (by decide) (by omega) (Tb0_wr hS.1.2.2.2.2 (fun i0 i1 => by omega))) (fun M166 hS w166 => ?_)
              refine Tr.iconst (pc := 167) d_X12_uses_167 (by decide) ?_
              have kr_120_59 : rd M166 120 59 = s59_120_59 := ((Wr.b w166 rfl).trans ((St.kp h163 (by decide) (by decide) (by decide)).trans k156_120_59))
              have kr_120_62 : rd M166 120 62 = s59_120_62 := ((Wr.b w166 rfl).trans ((St.kp h163 (by decide) (by decide) (by decide)).trans k156_120_62))
              have kr_120_68 : rd M166 120 68 = s59_120_68 := ((Wr.b w166 rfl).trans ((St.kp h163 (by decide) (by decide) (by decide)).trans k156_120_68))
              have kr_120_75 : rd M166 120 75 = u102_120_75 := ((Wr.b w166 rfl).trans ((St.kp h163 (by decide) (by decide) (by decide)).trans k156_120_75))
              have kr_120_79 : rd M166 120 79 = u156_120_79 := ((Wr.b w166 rfl).trans ((St.kp h163 (by decide) (by decide) (by decide)).trans k156_120_79))
              exact Tr.zret (pc := 168) d_X12_uses_168 rfl (by omega) ⟨hS, _, rfl, by omega, by omega, by omega, by omega, by omega, by omega, by omega⟩
            refine Tr.if_ne (pc := 103) (tgt := 156) d_X12_uses_103 rfl (fun c103 => ?_) (fun c103 => ?_)
            · refine Tr.pick [0, 1] (ls2 := [(0, (2, 120)), (1, (0, a1))]) rfl ?_
              exact J156 _ _ hS (by omega) k102_120_59 k102_120_62 k102_120_68 k102_120_75 k102_120_79 k102_126_0 (by omega) (by omega) (by omega) (by omega)
            · refine Tr.aload_n (pc := 106) (i := 0) d_X12_uses_106 rfl rfl ?_
              refine Tr.getz (pc := 107) d_X12_uses_107 f_12_225 (by decide) (ty_120 hS.1.1) ?_
              refine Tr.gen (P := fun v => 0 ≤ v ∧ v ≤ 1) (ir_120_70 hS.1.2.1) (fun r107 er107 br107 => ?_)
              refine Tr.if_eq (pc := 110) (tgt := 156) d_X12_uses_110 rfl (fun c110 => ?_) (fun c110 => ?_)
              · refine Tr.pick [0, 1] (ls2 := [(0, (2, 120)), (1, (0, a1))]) rfl ?_
                exact J156 _ _ hS (by omega) k102_120_59 k102_120_62 k102_120_68 k102_120_75 k102_120_79 k102_126_0 (by omega) (by omega) (by omega) (by omega)
              · refine Tr.aload_n (pc := 113) (i := 0) d_X12_uses_113 rfl rfl ?_
                refine Tr.getf (pc := 114) d_X12_uses_114 f_12_255 (by decide) (by decide) (ty_120 hS.1.1) ?_
                refine Tr.tp 169 (fx_120_80 hS.1.1) ?_
                refine Tr.aload_n (pc := 117) (i := 0) d_X12_uses_117 rfl rfl ?_
                refine Tr.getf (pc := 118) d_X12_uses_118 f_12_252 (by decide) (by decide) (ty_120 hS.1.1) ?_
                refine Tr.tp g120_79 k102_120_79 ?_
                refine Tr.iload_n (pc := 121) (i := 1) d_X12_uses_121 rfl rfl ?_
                refine Tr.iastS (pc := 122) (P := St Tb0 ws_X12_uses_120 as_X12_uses_120 M0) d_X12_uses_122 (ty_169 hS.1.1) (by omega) (by omega) (sa_169 hS (by decide) (by omega) (Tb0.of hS.1.2.2.2.2 (fun _ => rd_wb _ rfl) (rd_wb _ rfl))) (fun M122 hS w122 => ?_)
                refine Tr.aload_n (pc := 123) (i := 0) d_X12_uses_123 rfl rfl ?_
                refine Tr.getf (pc := 124) d_X12_uses_124 f_12_258 (by decide) (by decide) (ty_120 hS.1.1) ?_
                refine Tr.tp 170 (fx_120_81 hS.1.1) ?_
                refine Tr.aload_n (pc := 127) (i := 0) d_X12_uses_127 rfl rfl ?_
                refine Tr.getf (pc := 128) d_X12_uses_128 f_12_252 (by decide) (by decide) (ty_120 hS.1.1) ?_
                refine Tr.tp g120_79 ((Wr.b w122 rfl).trans k102_120_79) ?_
                refine Tr.iload_n (pc := 131) (i := 3) d_X12_uses_131 rfl rfl ?_
                refine Tr.iastS (pc := 132) (P := St Tb0 ws_X12_uses_120 as_X12_uses_120 M0) d_X12_uses_132 (ty_170 hS.1.1) (by omega) (by omega) (sa_170 hS (by decide) (by omega) (Tb0.of hS.1.2.2.2.2 (fun _ => rd_wb _ rfl) (rd_wb _ rfl))) (fun M132 hS w132 => ?_)
                refine Tr.aload_n (pc := 133) (i := 0) d_X12_uses_133 rfl rfl ?_
                refine Tr.getf (pc := 134) d_X12_uses_134 f_12_261 (by decide) (by decide) (ty_120 hS.1.1) ?_
                refine Tr.tp 171 (fx_120_82 hS.1.1) ?_
                refine Tr.aload_n (pc := 137) (i := 0) d_X12_uses_137 rfl rfl ?_
                refine Tr.getf (pc := 138) d_X12_uses_138 f_12_252 (by decide) (by decide) (ty_120 hS.1.1) ?_
                refine Tr.tp g120_79 ((Wr.b w132 rfl).trans ((Wr.b w122 rfl).trans k102_120_79)) ?_
                refine Tr.aload_n (pc := 141) (i := 0) d_X12_uses_141 rfl rfl ?_
                refine Tr.getf (pc := 142) d_X12_uses_142 f_12_201 (by decide) (by decide) (ty_120 hS.1.1) ?_
                refine Tr.tp s59_120_62 ((Wr.b w132 rfl).trans ((Wr.b w122 rfl).trans k102_120_62)) ?_
                refine Tr.iastS (pc := 145) (P := St Tb0 ws_X12_uses_120 as_X12_uses_120 M0) d_X12_uses_145 (ty_171 hS.1.1) (by omega) (by omega) (sa_171 hS (by decide) (by omega) (Tb0.of hS.1.2.2.2.2 (fun _ => rd_wb _ rfl) (rd_wb _ rfl))) (fun M145 hS w145 => ?_)
                refine Tr.aload_n (pc := 146) (i := 0) d_X12_uses_146 rfl rfl ?_
                refine Tr.dup (pc := 147) d_X12_uses_147 ne21 ?_
                refine Tr.getf (pc := 148) d_X12_uses_148 f_12_252 (by decide) (by decide) (ty_120 hS.1.1) ?_
                refine Tr.tp g120_79 ((Wr.b w145 rfl).trans ((Wr.b w132 rfl).trans ((Wr.b w122 rfl).trans k102_120_79))) ?_
                refine Tr.iconst (pc := 151) d_X12_uses_151 (by decide) ?_
                refine Tr.iadd (pc := 152) d_X12_uses_152 ?_
                refine Tr.tp (g120_79 + 1) ((w32_id (by omega)).trans (by omega)) ?_
                refine Tr.putfS (pc := 153) (P := St Tb0 ws_X12_uses_120 as_X12_uses_120 M0) d_X12_uses_153 f_12_252 (by decide) (by decide) (ty_120 hS.1.1) (st_120_79 hS (by decide) (by omega) (Tb0.of hS.1.2.2.2.2 (fun _ => rd_wb _ rfl) (rd_wb _ rfl))) (fun M153 hS w153 => ?_)
                refine Tr.pick [0, 1] (ls2 := [(0, (2, 120)), (1, (0, a1))]) rfl ?_
                exact J156 _ _ hS (by omega) ((Wr.b w153 rfl).trans ((Wr.b w145 rfl).trans ((Wr.b w132 rfl).trans ((Wr.b w122 rfl).trans k102_120_59)))) ((Wr.b w153 rfl).trans ((Wr.b w145 rfl).trans ((Wr.b w132 rfl).trans ((Wr.b w122 rfl).trans k102_120_62)))) ((Wr.b w153 rfl).trans ((Wr.b w145 rfl).trans ((Wr.b w132 rfl).trans ((Wr.b w122 rfl).trans k102_120_68)))) ((Wr.b w153 rfl).trans ((Wr.b w145 rfl).trans ((Wr.b w132 rfl).trans ((Wr.b w122 rfl).trans k102_120_75)))) w153.1 ((Wr.b w153 rfl).trans ((Wr.b w145 rfl).trans ((Wr.b w132 rfl).trans ((Wr.b w122 rfl).trans k102_126_0)))) (by omega) (by omega) (by omega) (by omega)
          refine Tr.if_ne (pc := 91) (tgt := 102) d_X12_uses_91 rfl (fun c91 => ?_) (fun c91 => ?_)
          · refine Tr.pick [0, 1, 2, 3] (ls2 := [(0, (2, 120)), (1, (0, a1)), (2, (0, a2)), (3, (0, a3))]) rfl ?_
            exact J102 _ _ hS (by omega) es59_120_59 es59_120_62 es59_120_68 es59_120_75 ((St.kp h59 (by decide) (by decide) (by decide)).trans k57_120_79) ((St.kp h59 (by decide) (by decide) (by decide)).trans k57_126_0) (by omega) (by omega) (by omega)
          · refine Tr.aload_n (pc := 94) (i := 0) d_X12_uses_94 rfl rfl ?_
            refine Tr.iload_n (pc := 95) (i := 1) d_X12_uses_95 rfl rfl ?_
            refine Tr.iload_n (pc := 96) (i := 3) d_X12_uses_96 rfl rfl ?_
            refine Tr.iload (pc := 97) (i := 4) d_X12_uses_97 rfl ?_
            refine Tr.callV (pc := 99) (as := [_, _, _]) d_X12_uses_99 s_12_580 ok_X12_acts rfl rfl (Nat.le_of_ble_eq_true rfl) (Nat.le_of_ble_eq_true rfl) (by decide) (ty_120 hS.1.1) ?_
            have kb99_120_75 : rd M59 120 75 = s59_120_75 := es59_120_75
            refine Tr.imp (Tr.deep (by decide) (sp_X12_acts_120 hS.1.wk a1 (by omega) a3 (by omega) (g120_62 - 1) (by omega) (by omega))) ?_
            rintro M99 _ ⟨h99, rfl, z99_0⟩
            have h99 := St.rn h99 (Tb0.of hS.1.2.2.2.2 (fun _ => (St.ka h99 (by decide) (by decide) (by decide))) (St.kp h99 (by decide) (by decide) (by decide)))
            have hS := St.tr hS h99 (by decide) (by decide)
            obtain ⟨s99_120_75, es99_120_75⟩ : ∃ v, rd M99 120 75 = v := ⟨_, rfl⟩
            have bs99_120_75 : 0 ≤ s99_120_75 ∧ s99_120_75 ≤ 2100 := by rw [← es99_120_75]; exact ir_120_75 hS.1.2.1
            refine Tr.sc [] rfl ?_
            refine Tr.pick [0, 1, 2, 3] (ls2 := [(0, (2, 120)), (1, (0, a1)), (2, (0, a2)), (3, (0, a3))]) rfl ?_
            exact J102 _ _ hS (by omega) ((St.kp h99 (by decide) (by decide) (by decide)).trans es59_120_59) ((St.kp h99 (by decide) (by decide) (by decide)).trans es59_120_62) ((St.kp h99 (by decide) (by decide) (by decide)).trans es59_120_68) es99_120_75 ((St.kp h99 (by decide) (by decide) (by decide)).trans ((St.kp h59 (by decide) (by decide) (by decide)).trans k57_120_79)) ((St.kp h99 (by decide) (by decide) (by decide)).trans ((St.kp h59 (by decide) (by decide) (by decide)).trans k57_126_0)) (by omega) (by omega) (by omega)
        · refine Tr.pick [0, 1, 4] (ls2 := [(0, (2, 120)), (1, (0, a1)), (4, (0, (g120_62 - 1)))]) rfl ?_
          exact J65 _ _ _ _ _ hS (by omega) (by omega) (by omega) (by omega) es59_120_59 es59_120_62 es59_120_68 es59_120_75 ((St.kp h59 (by decide) (by decide) (by decide)).trans k57_120_79) ((St.kp h59 (by decide) (by decide) (by decide)).trans k57_126_0) (by omega) (by omega) (by omega) (by omega)
      refine Tr.if_ne (pc := 49) (tgt := 56) d_X12_uses_49 rfl (fun c49 => ?_) (fun c49 => ?_)
      · refine Tr.iconst (pc := 56) d_X12_uses_56 (by decide) ?_
        refine Tr.pick [1, 2, 3, 4, 5, 0] (ls2 := [(0, (2, 120)), (1, (0, a1)), (2, (0, a2)), (3, (0, a3)), (4, (0, (g120_62 - 1))), (5, (0, q25_0))]) rfl ?_
        exact J57 _ _ hS (by omega) es36_120_59 es36_120_62 es36_120_68 es36_120_75 ((St.kp h36 (by decide) (by decide) (by decide)).trans k25_120_79) ((St.kp h36 (by decide) (by decide) (by decide)).trans k25_126_0) (by first | assumption | omega) (by first | assumption | omega) (by omega)
      · refine Tr.iconst (pc := 52) d_X12_uses_52 (by decide) ?_
        refine Tr.goto (pc := 53) (tgt := 57) d_X12_uses_53 rfl ?_
        refine Tr.pick [1, 2, 3, 4, 5, 0] (ls2 := [(0, (2, 120)), (1, (0, a1)), (2, (0, a2)), (3, (0, a3)), (4, (0, (g120_62 - 1))), (5, (0, q25_0))]) rfl ?_
        exact J57 _ _ hS (by omega) es36_120_59 es36_120_62 es36_120_68 es36_120_75 ((St.kp h36 (by decide) (by decide) (by decide)).trans k25_120_79) ((St.kp h36 (by decide) (by decide) (by decide)).trans k25_126_0) (by first | assumption | omega) (by first | assumption | omega) (by omega)
  refine Tr.if_ne (pc := 13) (tgt := 24) d_X12_uses_13 rfl (fun c13 => ?_) (fun c13 => ?_)
  · refine Tr.iconst (pc := 24) d_X12_uses_24 (by decide) ?_
    refine Tr.pick [1, 2, 3, 4, 0] (ls2 := [(0, (2, 120)), (1, (0, a1)), (2, (0, a2)), (3, (0, a3)), (4, (0, (g120_62 - 1)))]) rfl ?_
    exact J25 _ _ hS (by omega) ((St.kp h10 (by decide) (by decide) (by decide)).trans eg120_59) ew10_120_61 ((St.kp h10 (by decide) (by decide) (by decide)).trans eg120_62) ((St.kp h10 (by decide) (by decide) (by decide)).trans eg120_68) ((St.kp h10 (by decide) (by decide) (by decide)).trans eg120_75) ((St.kp h10 (by decide) (by decide) (by decide)).trans eg120_79) ((St.kp h10 (by decide) (by decide) (by decide)).trans eg126_0)
  · refine Tr.aload_n (pc := 16) (i := 0) d_X12_uses_16 rfl rfl ?_
    refine Tr.iload_n (pc := 17) (i := 1) d_X12_uses_17 rfl rfl ?_
    refine Tr.callV (pc := 18) (as := [_]) d_X12_uses_18 s_12_584 ok_X12_wakes rfl rfl (Nat.le_of_ble_eq_true rfl) (Nat.le_of_ble_eq_true rfl) (by decide) (ty_120 hS.1.1) ?_
    refine Tr.imp (Tr.deep (by decide) (sp_X12_wakes_120 hS.1.wk ((St.kp hS (by decide) (by decide) (by decide)).trans en_120_12) a1 (by omega) (Bk0.of hF_Bk0 (fun j => (St.ka hS (by decide) (by decide) (by decide))) (fun j => (St.ka hS (by decide) (by decide) (by decide))) (fun j => (St.ka hS (by decide) (by decide) (by decide))) (fun j => (St.ka hS (by decide) (by decide) (by decide))) (fun j => (St.ka hS (by decide) (by decide) (by decide))) (fun j => (St.ka hS (by decide) (by decide) (by decide))) (fun j => (St.ka hS (by decide) (by decide) (by decide))) (fun j => (St.ka hS (by decide) (by decide) (by decide))) (St.kp hS (by decide) (by decide) (by decide)) (St.kp hS (by decide) (by decide) (by decide)) (St.kp hS (by decide) (by decide) (by decide)) (St.kp hS (by decide) (by decide) (by decide))))) ?_
    rintro M18 _ ⟨h18, r18, rfl, lr18, ur18⟩
    have h18 := St.rn h18 (Tb0.of hS.1.2.2.2.2 (fun _ => (St.ka h18 (by decide) (by decide) (by decide))) (St.kp h18 (by decide) (by decide) (by decide)))
    have hS := St.tr hS h18 (by decide) (by decide)
    refine Tr.sc [(0, r18)] rfl ?_
    refine Tr.goto (pc := 21) (tgt := 25) d_X12_uses_21 rfl ?_
    refine Tr.pick [1, 2, 3, 4, 0] (ls2 := [(0, (2, 120)), (1, (0, a1)), (2, (0, a2)), (3, (0, a3)), (4, (0, (g120_62 - 1)))]) rfl ?_
    exact J25 _ _ hS (by omega) ((St.kp h18 (by decide) (by decide) (by decide)).trans ((St.kp h10 (by decide) (by decide) (by decide)).trans eg120_59)) ((St.kp h18 (by decide) (by decide) (by decide)).trans ew10_120_61) ((St.kp h18 (by decide) (by decide) (by decide)).trans ((St.kp h10 (by decide) (by decide) (by decide)).trans eg120_62)) ((St.kp h18 (by decide) (by decide) (by decide)).trans ((St.kp h10 (by decide) (by decide) (by decide)).trans eg120_68)) ((St.kp h18 (by decide) (by decide) (by decide)).trans ((St.kp h10 (by decide) (by decide) (by decide)).trans eg120_75)) ((St.kp h18 (by decide) (by decide) (by decide)).trans ((St.kp h10 (by decide) (by decide) (by decide)).trans eg120_79)) ((St.kp h18 (by decide) (by decide) (by decide)).trans ((St.kp h10 (by decide) (by decide) (by decide)).trans eg126_0))
end
/-! 36.05 -/
section
def ws_X12_does_120 : List (Int × Int) := [(120, 59), (120, 60), (120, 61), (120, 62), (120, 63), (120, 65), (120, 66), (120, 68), (120, 75), (120, 79)]
def as_X12_does_120 : List Int := [155, 156, 157, 158, 159, 160, 161, 162, 163, 164, 165, 166, 167, 168, 169, 170, 171, 172]
def q_X12_does_120 (a1 : Int) (M0 M' : Mem) (r : Option PV) : Prop := St Tb0 ws_X12_does_120 as_X12_does_120 M0 M' ∧ ∃ v : Int, r = some (0, v) ∧ 0 ≤ v ∧ v ≤ 1 ∧ (rd M' 120 75 ≤ rd M' 120 62) ∧ (rd M' 120 79 ≤ rd M' 120 62) ∧ (rd M0 120 62 ≤ rd M' 120 62 ∧ rd M' 120 62 ≤ 2000) ∧ (v = 1 ∨ 1 ≤ rd M' 120 68) ∧ (rd M' 120 59 = -1)
set_option maxRecDepth 100000 in
set_option maxHeartbeats 4000000 in
theorem sp_X12_does_120 {l : Launch} {K : EC} {M0 : Mem} (hI : In Tb0 M0) (en_120_12 : rd M0 120 12 = 0) (a1 : Int) (ha1 : 0 ≤ a1 ∧ a1 ≤ 399)  (hq0 : rd M0 120 75 + 1 ≤ rd M0 120 62) (hq1 : rd M0 120 79 + 1 ≤ rd M0 120 62) (hq2 : rd M0 120 62 ≤ 2000) (hq3 : rd M0 120 59 = -1) (hq4 : 0 ≤ rd M0 138 a1) (hq5 : 0 ≤ a1 ∧ a1 < 0 + rd M0 136 0) (hF_Bk0 : Bk0 M0) : Tr l K 6 mX12_does 0 [(0, (2, 120)), (1, (0, a1))] [] M0 (q_X12_does_120 a1 M0) := by
  have hS : St Tb0 ws_X12_does_120 as_X12_does_120 M0 M0 := St.rf hI
  obtain ⟨g120_62, eg120_62⟩ : ∃ v, rd M0 120 62 = v := ⟨_, rfl⟩
  have bg120_62 : 0 ≤ g120_62 ∧ g120_62 ≤ 2060 := by rw [← eg120_62]; exact ir_120_62 hI.2.1
  obtain ⟨g120_68, eg120_68⟩ : ∃ v, rd M0 120 68 = v := ⟨_, rfl⟩
  have bg120_68 : 0 ≤ g120_68 ∧ g120_68 ≤ 2 := by rw [← eg120_68]; exact ir_120_68 hI.2.1
  obtain ⟨g120_75, eg120_75⟩ : ∃ v, rd M0 120 75 = v := ⟨_, rfl⟩
  have bg120_75 : 0 ≤ g120_75 ∧ g120_75 ≤ 2100 := by rw [← eg120_75]; exact ir_120_75 hI.2.1
  obtain ⟨g120_79, eg120_79⟩ : ∃ v, rd M0 120 79 = v := ⟨_, rfl⟩
  have bg120_79 : 0 ≤ g120_79 ∧ g120_79 ≤ 2100 := by rw [← eg120_79]; exact ir_120_79 hI.2.1
  obtain ⟨g120_59, eg120_59⟩ : ∃ v, rd M0 120 59 = v := ⟨_, rfl⟩
  have bg120_59 : (-1) ≤ g120_59 ∧ g120_59 ≤ 5 := by rw [← eg120_59]; exact ir_120_59 hI.2.1
  obtain ⟨g136_0, eg136_0⟩ : ∃ v, rd M0 136 0 = v := ⟨_, rfl⟩
  have bg136_0 : 0 ≤ g136_0 ∧ g136_0 ≤ 200 := by rw [← eg136_0]; exact ir_136_0 hI.2.1
  refine Tr.aload_n (pc := 0) (i := 0) d_X12_does_0 rfl rfl ?_
  refine Tr.getf (pc := 1) d_X12_does_1 f_12_100 (by decide) (by decide) (ty_120 hS.1.1) ?_
  refine Tr.tp 138 (fx_120_29 hS.1.1) ?_
  refine Tr.iload_n (pc := 4) (i := 1) d_X12_does_4 rfl rfl ?_
  refine Tr.iald (pc := 5) d_X12_does_5 (ty_138 hS.1.1) (by omega) (by omega) ?_
  refine Tr.gen (P := fun v => 0 ≤ v ∧ v ≤ 59) (by have h9 := (ar_138 hS.1.2.1 (a1)); have h8 := hq4; omega) (fun r5 er5 br5 => ?_)
  refine Tr.istore_n (pc := 6) (i := 2) (ls2 := [(2, (0, r5)), (0, (2, 120)), (1, (0, a1))]) d_X12_does_6 rfl (by decide) rfl ?_
  refine Tr.aload_n (pc := 7) (i := 0) d_X12_does_7 rfl rfl ?_
  refine Tr.getf (pc := 8) d_X12_does_8 f_12_103 (by decide) (by decide) (ty_120 hS.1.1) ?_
  refine Tr.tp 139 (fx_120_30 hS.1.1) ?_
  refine Tr.iload_n (pc := 11) (i := 1) d_X12_does_11 rfl rfl ?_
  refine Tr.iald (pc := 12) d_X12_does_12 (ty_139 hS.1.1) (by omega) (by omega) ?_
  refine Tr.gen (P := fun v => 0 ≤ v ∧ v ≤ 5) (by have h9 := (ar_139 hS.1.2.1 (a1)); have e8 := eg136_0; have h8 := Bk0_wt (Bk0.of hF_Bk0 (fun j => (St.ka hS (by decide) (by decide) (by decide))) (fun j => (St.ka hS (by decide) (by decide) (by decide))) (fun j => (St.ka hS (by decide) (by decide) (by decide))) (fun j => (St.ka hS (by decide) (by decide) (by decide))) (fun j => (St.ka hS (by decide) (by decide) (by decide))) (fun j => (St.ka hS (by decide) (by decide) (by decide))) (fun j => (St.ka hS (by decide) (by decide) (by decide))) (fun j => (St.ka hS (by decide) (by decide) (by decide))) (St.kp hS (by decide) (by decide) (by decide)) (St.kp hS (by decide) (by decide) (by decide)) (St.kp hS (by decide) (by decide) (by decide)) (St.kp hS (by decide) (by decide) (by decide))) (i := a1) (by omega) (by omega); omega) (fun r12 er12 br12 => ?_)
  refine Tr.istore_n (pc := 13) (i := 3) (ls2 := [(3, (0, r12)), (2, (0, r5)), (0, (2, 120)), (1, (0, a1))]) d_X12_does_13 rfl (by decide) rfl ?_
  refine Tr.aload_n (pc := 14) (i := 0) d_X12_does_14 rfl rfl ?_
  refine Tr.getf (pc := 15) d_X12_does_15 f_12_97 (by decide) (by decide) (ty_120 hS.1.1) ?_
  refine Tr.tp 137 (fx_120_28 hS.1.1) ?_
  refine Tr.iload_n (pc := 18) (i := 1) d_X12_does_18 rfl rfl ?_
  refine Tr.iald (pc := 19) d_X12_does_19 (ty_137 hS.1.1) (by omega) (by omega) ?_
  refine Tr.gen (P := fun v => 0 ≤ v ∧ v ≤ 8) (ar_137 hS.1.2.1 _) (fun r19 er19 br19 => ?_)
  rcases (show (r19 < 1 ∨ 5 < r19) ∨ r19 = 1 ∨ r19 = 2 ∨ r19 = 3 ∨ r19 = 4 ∨ r19 = 5 by omega) with c20 | c20 | c20 | c20 | c20 | c20
  · refine Tr.tswOut (pc := 20) (tgt := 122) d_X12_does_20 c20 rfl ?_
    refine Tr.aload_n (pc := 122) (i := 0) d_X12_does_122 rfl rfl ?_
    refine Tr.iload_n (pc := 123) (i := 1) d_X12_does_123 rfl rfl ?_
    refine Tr.callV (pc := 124) (as := [_]) d_X12_does_124 s_12_614 ok_X12_works rfl rfl (Nat.le_of_ble_eq_true rfl) (Nat.le_of_ble_eq_true rfl) (by decide) (ty_120 hS.1.1) ?_
    have kb124_136_0 : rd M0 136 0 = g136_0 := eg136_0
    refine Tr.imp (Tr.deep (by decide) (sp_X12_works_120 hS.1.wk ((St.kp hS (by decide) (by decide) (by decide)).trans en_120_12) a1 (by omega) (by omega) (Bk0.of hF_Bk0 (fun j => (St.ka hS (by decide) (by decide) (by decide))) (fun j => (St.ka hS (by decide) (by decide) (by decide))) (fun j => (St.ka hS (by decide) (by decide) (by decide))) (fun j => (St.ka hS (by decide) (by decide) (by decide))) (fun j => (St.ka hS (by decide) (by decide) (by decide))) (fun j => (St.ka hS (by decide) (by decide) (by decide))) (fun j => (St.ka hS (by decide) (by decide) (by decide))) (fun j => (St.ka hS (by decide) (by decide) (by decide))) (St.kp hS (by decide) (by decide) (by decide)) (St.kp hS (by decide) (by decide) (by decide)) (St.kp hS (by decide) (by decide) (by decide)) (St.kp hS (by decide) (by decide) (by decide))))) ?_
    rintro M124 _ ⟨h124, r124, rfl, lr124, ur124⟩
    have h124 := St.rn h124 (Tb0.of hS.1.2.2.2.2 (fun _ => (St.ka h124 (by decide) (by decide) (by decide))) (St.kp h124 (by decide) (by decide) (by decide)))
    have hS := St.tr hS h124 (by decide) (by decide)
    refine Tr.sc [(1, r124)] rfl ?_
    refine Tr.lstore (pc := 127) (i := 4) (ls2 := [(4, (1, r124)), (3, (0, r12)), (2, (0, r5)), (0, (2, 120)), (1, (0, a1))]) d_X12_does_127 (by decide) rfl ?_
    refine Tr.aload_n (pc := 129) (i := 0) d_X12_does_129 rfl rfl ?_
    refine Tr.lload (pc := 130) (i := 4) d_X12_does_130 rfl ?_
    refine Tr.ldc2 (pc := 132) d_X12_does_132 kl_12_631 (by decide) ?_
    refine Tr.lload (pc := 135) (i := 4) d_X12_does_135 rfl ?_
    refine Tr.ldc2 (pc := 137) d_X12_does_137 kl_12_631 (by decide) ?_
    refine Tr.callS (pc := 140) (as := [_, _]) d_X12_does_140 s_12_602 ok_X12_floor rfl rfl (Nat.le_of_ble_eq_true rfl) (Nat.le_of_ble_eq_true rfl) ?_
    refine Tr.imp (Tr.deep (by decide) (sp_X12_floor hS.1.wk r124 (by omega) 1000 (by omega))) ?_
    rintro M140 _ ⟨h140, r140, rfl, lr140, ur140, wr140⟩
    have h140 := St.rn h140 (Tb0.of hS.1.2.2.2.2 (fun _ => (St.ka h140 (by decide) (by decide) (by decide))) (St.kp h140 (by decide) (by decide) (by decide)))
    have hS := St.tr hS h140 (by decide) (by decide)
    refine Tr.sc [(1, r140), (1, 1000), (1, r124), (2, 120)] rfl ?_
    refine Tr.lmul (pc := 143) d_X12_does_143 ?_
    refine Tr.gen (P := fun v => ((-9223372036854775808) ≤ v ∧ v ≤ 9223372036854775807) ∧ v % 18446744073709551616 = (1000 * r140) % 18446744073709551616) (mul1000 _) (fun r143 er143 br143 => ?_)
    refine Tr.lsub (pc := 144) d_X12_does_144 ?_
    refine Tr.gen (P := fun v => 0 ≤ v ∧ v ≤ 999) (sub1000 br143.2 (by omega)) (fun r144 er144 br144 => ?_)
    refine Tr.l2i (pc := 145) d_X12_does_145 ?_
    refine Tr.tp r144 (w32_id (by omega)) ?_
    refine Tr.iload_n (pc := 146) (i := 2) d_X12_does_146 rfl rfl ?_
    refine Tr.callV (pc := 147) (as := [_, _]) d_X12_does_147 s_12_633 ok_X12_touches rfl rfl (Nat.le_of_ble_eq_true rfl) (Nat.le_of_ble_eq_true rfl) (by decide) (ty_120 hS.1.1) ?_
    have kb147_120_59 : rd M140 120 59 = g120_59 := ((St.kp h140 (by decide) (by decide) (by decide)).trans ((St.kp h124 (by decide) (by decide) (by decide)).trans eg120_59))
    have kb147_120_62 : rd M140 120 62 = g120_62 := ((St.kp h140 (by decide) (by decide) (by decide)).trans ((St.kp h124 (by decide) (by decide) (by decide)).trans eg120_62))
    have kb147_120_75 : rd M140 120 75 = g120_75 := ((St.kp h140 (by decide) (by decide) (by decide)).trans ((St.kp h124 (by decide) (by decide) (by decide)).trans eg120_75))
    refine Tr.imp (Tr.deep (by decide) (sp_X12_touches_120 hS.1 ((St.kp hS (by decide) (by decide) (by decide)).trans en_120_12) r144 (by omega) r5 (by omega) (by omega) (by omega) (by omega) (Bk0.of hF_Bk0 (fun j => (St.ka hS (by decide) (by decide) (by decide))) (fun j => (St.ka hS (by decide) (by decide) (by decide))) (fun j => (St.ka hS (by decide) (by decide) (by decide))) (fun j => (St.ka hS (by decide) (by decide) (by decide))) (fun j => (St.ka hS (by decide) (by decide) (by decide))) (fun j => (St.ka hS (by decide) (by decide) (by decide))) (fun j => (St.ka hS (by decide) (by decide) (by decide))) (fun j => (St.ka hS (by decide) (by decide) (by decide))) (St.kp hS (by decide) (by decide) (by decide)) (St.kp hS (by decide) (by decide) (by decide)) (St.kp hS (by decide) (by decide) (by decide)) (St.kp hS (by decide) (by decide) (by decide))))) ?_
    rintro M147 _ ⟨h147, r147, rfl, lr147, ur147, z147_0, z147_1, z147_2, z147_3⟩
    have hS := St.tr hS h147 (by decide) (by decide)
    obtain ⟨s147_120_59, es147_120_59⟩ : ∃ v, rd M147 120 59 = v := ⟨_, rfl⟩
    have bs147_120_59 : (-1) ≤ s147_120_59 ∧ s147_120_59 ≤ 5 := by rw [← es147_120_59]; exact ir_120_59 hS.1.2.1
    obtain ⟨s147_120_62, es147_120_62⟩ : ∃ v, rd M147 120 62 = v := ⟨_, rfl⟩
    have bs147_120_62 : 0 ≤ s147_120_62 ∧ s147_120_62 ≤ 2060 := by rw [← es147_120_62]; exact ir_120_62 hS.1.2.1
    obtain ⟨s147_120_68, es147_120_68⟩ : ∃ v, rd M147 120 68 = v := ⟨_, rfl⟩
    have bs147_120_68 : 0 ≤ s147_120_68 ∧ s147_120_68 ≤ 2 := by rw [← es147_120_68]; exact ir_120_68 hS.1.2.1
    obtain ⟨s147_120_75, es147_120_75⟩ : ∃ v, rd M147 120 75 = v := ⟨_, rfl⟩
    have bs147_120_75 : 0 ≤ s147_120_75 ∧ s147_120_75 ≤ 2100 := by rw [← es147_120_75]; exact ir_120_75 hS.1.2.1
    refine Tr.sc [(0, r147)] rfl ?_
    have kr_120_59 : rd M147 120 59 = s147_120_59 := es147_120_59
    have kr_120_62 : rd M147 120 62 = s147_120_62 := es147_120_62
    have kr_120_68 : rd M147 120 68 = s147_120_68 := es147_120_68
    have kr_120_75 : rd M147 120 75 = s147_120_75 := es147_120_75
    have kr_120_79 : rd M147 120 79 = g120_79 := ((St.kp h147 (by decide) (by decide) (by decide)).trans ((St.kp h140 (by decide) (by decide) (by decide)).trans ((St.kp h124 (by decide) (by decide) (by decide)).trans eg120_79)))
    exact Tr.zret (pc := 150) d_X12_does_150 rfl (by omega) ⟨hS, _, rfl, by omega, by omega, by omega, by omega, by omega, by omega, by omega⟩
  · refine Tr.tp 1 c20 ?_
    refine Tr.tswIn (pc := 20) (off := 36) (tgt := 56) d_X12_does_20 (by decide) (by decide) rfl rfl ?_
    refine Tr.aload_n (pc := 56) (i := 0) d_X12_does_56 rfl rfl ?_
    refine Tr.getf (pc := 57) d_X12_does_57 f_12_174 (by decide) (by decide) (ty_120 hS.1.1) ?_
    refine Tr.tp 155 (fx_120_53 hS.1.1) ?_
    refine Tr.iload_n (pc := 60) (i := 3) d_X12_does_60 rfl rfl ?_
    refine Tr.aload_n (pc := 61) (i := 0) d_X12_does_61 rfl rfl ?_
    refine Tr.iload_n (pc := 62) (i := 1) d_X12_does_62 rfl rfl ?_
    refine Tr.callV (pc := 63) (as := [_]) d_X12_does_63 s_12_614 ok_X12_works rfl rfl (Nat.le_of_ble_eq_true rfl) (Nat.le_of_ble_eq_true rfl) (by decide) (ty_120 hS.1.1) ?_
    have kb63_136_0 : rd M0 136 0 = g136_0 := eg136_0
    refine Tr.imp (Tr.deep (by decide) (sp_X12_works_120 hS.1.wk ((St.kp hS (by decide) (by decide) (by decide)).trans en_120_12) a1 (by omega) (by omega) (Bk0.of hF_Bk0 (fun j => (St.ka hS (by decide) (by decide) (by decide))) (fun j => (St.ka hS (by decide) (by decide) (by decide))) (fun j => (St.ka hS (by decide) (by decide) (by decide))) (fun j => (St.ka hS (by decide) (by decide) (by decide))) (fun j => (St.ka hS (by decide) (by decide) (by decide))) (fun j => (St.ka hS (by decide) (by decide) (by decide))) (fun j => (St.ka hS (by decide) (by decide) (by decide))) (fun j => (St.ka hS (by decide) (by decide) (by decide))) (St.kp hS (by decide) (by decide) (by decide)) (St.kp hS (by decide) (by decide) (by decide)) (St.kp hS (by decide) (by decide) (by decide)) (St.kp hS (by decide) (by decide) (by decide))))) ?_
    rintro M63 _ ⟨h63, r63, rfl, lr63, ur63⟩
    have h63 := St.rn h63 (Tb0.of hS.1.2.2.2.2 (fun _ => (St.ka h63 (by decide) (by decide) (by decide))) (St.kp h63 (by decide) (by decide) (by decide)))
    have hS := St.tr hS h63 (by decide) (by decide)
    refine Tr.sc [(1, r63), (0, r12), (2, 155)] rfl ?_
    refine Tr.l2i (pc := 66) d_X12_does_66 ?_
    refine Tr.gen (P := fun v => (-2147483648) ≤ v ∧ v ≤ 2147483647) (w32_b _) (fun r66 er66 br66 => ?_)
    refine Tr.iastS (pc := 67) (P := St Tb0 ws_X12_does_120 as_X12_does_120 M0) d_X12_does_67 (ty_155 hS.1.1) (by omega) (by omega) (sa_155 hS (by decide) (by omega) (Tb0.of hS.1.2.2.2.2 (fun _ => rd_wb _ rfl) (rd_wb _ rfl))) (fun M67 hS w67 => ?_)
    refine Tr.iconst (pc := 68) d_X12_does_68 (by decide) ?_
    have kr_120_59 : rd M67 120 59 = g120_59 := ((Wr.b w67 rfl).trans ((St.kp h63 (by decide) (by decide) (by decide)).trans eg120_59))
    have kr_120_62 : rd M67 120 62 = g120_62 := ((Wr.b w67 rfl).trans ((St.kp h63 (by decide) (by decide) (by decide)).trans eg120_62))
    have kr_120_68 : rd M67 120 68 = g120_68 := ((Wr.b w67 rfl).trans ((St.kp h63 (by decide) (by decide) (by decide)).trans eg120_68))
    have kr_120_75 : rd M67 120 75 = g120_75 := ((Wr.b w67 rfl).trans ((St.kp h63 (by decide) (by decide) (by decide)).trans eg120_75))
    have kr_120_79 : rd M67 120 79 = g120_79 := ((Wr.b w67 rfl).trans ((St.kp h63 (by decide) (by decide) (by decide)).trans eg120_79))
    exact Tr.zret (pc := 69) d_X12_does_69 rfl (by omega) ⟨hS, _, rfl, by omega, by omega, by omega, by omega, by omega, by omega, by omega⟩
  · refine Tr.tp 2 c20 ?_
    refine Tr.tswIn (pc := 20) (off := 50) (tgt := 70) d_X12_does_20 (by decide) (by decide) rfl rfl ?_
    refine Tr.aload_n (pc := 70) (i := 0) d_X12_does_70 rfl rfl ?_
    refine Tr.iload_n (pc := 71) (i := 3) d_X12_does_71 rfl rfl ?_
    refine Tr.aload_n (pc := 72) (i := 0) d_X12_does_72 rfl rfl ?_
    refine Tr.iload_n (pc := 73) (i := 1) d_X12_does_73 rfl rfl ?_
    refine Tr.callV (pc := 74) (as := [_]) d_X12_does_74 s_12_614 ok_X12_works rfl rfl (Nat.le_of_ble_eq_true rfl) (Nat.le_of_ble_eq_true rfl) (by decide) (ty_120 hS.1.1) ?_
    have kb74_136_0 : rd M0 136 0 = g136_0 := eg136_0
    refine Tr.imp (Tr.deep (by decide) (sp_X12_works_120 hS.1.wk ((St.kp hS (by decide) (by decide) (by decide)).trans en_120_12) a1 (by omega) (by omega) (Bk0.of hF_Bk0 (fun j => (St.ka hS (by decide) (by decide) (by decide))) (fun j => (St.ka hS (by decide) (by decide) (by decide))) (fun j => (St.ka hS (by decide) (by decide) (by decide))) (fun j => (St.ka hS (by decide) (by decide) (by decide))) (fun j => (St.ka hS (by decide) (by decide) (by decide))) (fun j => (St.ka hS (by decide) (by decide) (by decide))) (fun j => (St.ka hS (by decide) (by decide) (by decide))) (fun j => (St.ka hS (by decide) (by decide) (by decide))) (St.kp hS (by decide) (by decide) (by decide)) (St.kp hS (by decide) (by decide) (by decide)) (St.kp hS (by decide) (by decide) (by decide)) (St.kp hS (by decide) (by decide) (by decide))))) ?_
    rintro M74 _ ⟨h74, r74, rfl, lr74, ur74⟩
    have h74 := St.rn h74 (Tb0.of hS.1.2.2.2.2 (fun _ => (St.ka h74 (by decide) (by decide) (by decide))) (St.kp h74 (by decide) (by decide) (by decide)))
    have hS := St.tr hS h74 (by decide) (by decide)
    refine Tr.sc [(1, r74), (0, r12), (2, 120)] rfl ?_
    refine Tr.bipush (pc := 77) d_X12_does_77 rfl (by decide) ?_
    refine Tr.callS (pc := 79) (as := [_, _]) d_X12_does_79 s_12_618 ok_X12_within rfl rfl (Nat.le_of_ble_eq_true rfl) (Nat.le_of_ble_eq_true rfl) ?_
    refine Tr.imp (Tr.deep (by decide) (sp_X12_within_v50 hS.1.wk r74 (by omega))) ?_
    rintro M79 _ ⟨h79, r79, rfl, lr79, ur79, z79_0⟩
    have h79 := St.rn h79 (Tb0.of hS.1.2.2.2.2 (fun _ => (St.ka h79 (by decide) (by decide) (by decide))) (St.kp h79 (by decide) (by decide) (by decide)))
    have hS := St.tr hS h79 (by decide) (by decide)
    refine Tr.sc [(0, r79), (0, r12), (2, 120)] rfl ?_
    refine Tr.iload_n (pc := 82) (i := 2) d_X12_does_82 rfl rfl ?_
    refine Tr.callV (pc := 83) (as := [_, _, _]) d_X12_does_83 s_12_621 ok_X12_uses rfl rfl (Nat.le_of_ble_eq_true rfl) (Nat.le_of_ble_eq_true rfl) (by decide) (ty_120 hS.1.1) ?_
    have kb83_120_62 : rd M79 120 62 = g120_62 := ((St.kp h79 (by decide) (by decide) (by decide)).trans ((St.kp h74 (by decide) (by decide) (by decide)).trans eg120_62))
    have kb83_120_75 : rd M79 120 75 = g120_75 := ((St.kp h79 (by decide) (by decide) (by decide)).trans ((St.kp h74 (by decide) (by decide) (by decide)).trans eg120_75))
    have kb83_120_79 : rd M79 120 79 = g120_79 := ((St.kp h79 (by decide) (by decide) (by decide)).trans ((St.kp h74 (by decide) (by decide) (by decide)).trans eg120_79))
    refine Tr.imp (Tr.deep (by decide) (sp_X12_uses_120 hS.1 ((St.kp hS (by decide) (by decide) (by decide)).trans en_120_12) r12 (by omega) r79 (by omega) r5 (by omega) (by omega) (by omega) (by omega) (Bk0.of hF_Bk0 (fun j => (St.ka hS (by decide) (by decide) (by decide))) (fun j => (St.ka hS (by decide) (by decide) (by decide))) (fun j => (St.ka hS (by decide) (by decide) (by decide))) (fun j => (St.ka hS (by decide) (by decide) (by decide))) (fun j => (St.ka hS (by decide) (by decide) (by decide))) (fun j => (St.ka hS (by decide) (by decide) (by decide))) (fun j => (St.ka hS (by decide) (by decide) (by decide))) (fun j => (St.ka hS (by decide) (by decide) (by decide))) (St.kp hS (by decide) (by decide) (by decide)) (St.kp hS (by decide) (by decide) (by decide)) (St.kp hS (by decide) (by decide) (by decide)) (St.kp hS (by decide) (by decide) (by decide))))) ?_
    rintro M83 _ ⟨h83, r83, rfl, lr83, ur83, z83_0, z83_1, z83_2, z83_3, z83_4⟩
    have hS := St.tr hS h83 (by decide) (by decide)
    obtain ⟨s83_120_59, es83_120_59⟩ : ∃ v, rd M83 120 59 = v := ⟨_, rfl⟩
    have bs83_120_59 : (-1) ≤ s83_120_59 ∧ s83_120_59 ≤ 5 := by rw [← es83_120_59]; exact ir_120_59 hS.1.2.1
    obtain ⟨s83_120_62, es83_120_62⟩ : ∃ v, rd M83 120 62 = v := ⟨_, rfl⟩
    have bs83_120_62 : 0 ≤ s83_120_62 ∧ s83_120_62 ≤ 2060 := by rw [← es83_120_62]; exact ir_120_62 hS.1.2.1
    obtain ⟨s83_120_68, es83_120_68⟩ : ∃ v, rd M83 120 68 = v := ⟨_, rfl⟩
    have bs83_120_68 : 0 ≤ s83_120_68 ∧ s83_120_68 ≤ 2 := by rw [← es83_120_68]; exact ir_120_68 hS.1.2.1
    obtain ⟨s83_120_75, es83_120_75⟩ : ∃ v, rd M83 120 75 = v := ⟨_, rfl⟩
    have bs83_120_75 : 0 ≤ s83_120_75 ∧ s83_120_75 ≤ 2100 := by rw [← es83_120_75]; exact ir_120_75 hS.1.2.1
    obtain ⟨s83_120_79, es83_120_79⟩ : ∃ v, rd M83 120 79 = v := ⟨_, rfl⟩
    have bs83_120_79 : 0 ≤ s83_120_79 ∧ s83_120_79 ≤ 2100 := by rw [← es83_120_79]; exact ir_120_79 hS.1.2.1
    refine Tr.sc [(0, r83)] rfl ?_
    have kr_120_59 : rd M83 120 59 = s83_120_59 := es83_120_59
    have kr_120_62 : rd M83 120 62 = s83_120_62 := es83_120_62
    have kr_120_68 : rd M83 120 68 = s83_120_68 := es83_120_68
    have kr_120_75 : rd M83 120 75 = s83_120_75 := es83_120_75
    have kr_120_79 : rd M83 120 79 = s83_120_79 := es83_120_79
    exact Tr.zret (pc := 86) d_X12_does_86 rfl (by omega) ⟨hS, _, rfl, by omega, by omega, by omega, by omega, by omega, by omega, by omega⟩
  · refine Tr.tp 3 c20 ?_
    refine Tr.tswIn (pc := 20) (off := 67) (tgt := 87) d_X12_does_20 (by decide) (by decide) rfl rfl ?_
    refine Tr.aload_n (pc := 87) (i := 0) d_X12_does_87 rfl rfl ?_
    refine Tr.iload_n (pc := 88) (i := 3) d_X12_does_88 rfl rfl ?_
    refine Tr.iload_n (pc := 89) (i := 2) d_X12_does_89 rfl rfl ?_
    refine Tr.callV (pc := 90) (as := [_, _]) d_X12_does_90 s_12_624 ok_X12_holds rfl rfl (Nat.le_of_ble_eq_true rfl) (Nat.le_of_ble_eq_true rfl) (by decide) (ty_120 hS.1.1) ?_
    have kb90_120_59 : rd M0 120 59 = g120_59 := eg120_59
    have kb90_120_62 : rd M0 120 62 = g120_62 := eg120_62
    have kb90_120_75 : rd M0 120 75 = g120_75 := eg120_75
    refine Tr.imp (Tr.deep (by decide) (sp_X12_holds_120 hS.1 ((St.kp hS (by decide) (by decide) (by decide)).trans en_120_12) r12 (by omega) r5 (by omega) (by omega) (by omega) (by omega) (Bk0.of hF_Bk0 (fun j => (St.ka hS (by decide) (by decide) (by decide))) (fun j => (St.ka hS (by decide) (by decide) (by decide))) (fun j => (St.ka hS (by decide) (by decide) (by decide))) (fun j => (St.ka hS (by decide) (by decide) (by decide))) (fun j => (St.ka hS (by decide) (by decide) (by decide))) (fun j => (St.ka hS (by decide) (by decide) (by decide))) (fun j => (St.ka hS (by decide) (by decide) (by decide))) (fun j => (St.ka hS (by decide) (by decide) (by decide))) (St.kp hS (by decide) (by decide) (by decide)) (St.kp hS (by decide) (by decide) (by decide)) (St.kp hS (by decide) (by decide) (by decide)) (St.kp hS (by decide) (by decide) (by decide))))) ?_
    rintro M90 _ ⟨h90, r90, rfl, lr90, ur90, z90_0, z90_1, z90_2, z90_3⟩
    have hS := St.tr hS h90 (by decide) (by decide)
    obtain ⟨s90_120_59, es90_120_59⟩ : ∃ v, rd M90 120 59 = v := ⟨_, rfl⟩
    have bs90_120_59 : (-1) ≤ s90_120_59 ∧ s90_120_59 ≤ 5 := by rw [← es90_120_59]; exact ir_120_59 hS.1.2.1
    obtain ⟨s90_120_62, es90_120_62⟩ : ∃ v, rd M90 120 62 = v := ⟨_, rfl⟩
    have bs90_120_62 : 0 ≤ s90_120_62 ∧ s90_120_62 ≤ 2060 := by rw [← es90_120_62]; exact ir_120_62 hS.1.2.1
    obtain ⟨s90_120_68, es90_120_68⟩ : ∃ v, rd M90 120 68 = v := ⟨_, rfl⟩
    have bs90_120_68 : 0 ≤ s90_120_68 ∧ s90_120_68 ≤ 2 := by rw [← es90_120_68]; exact ir_120_68 hS.1.2.1
    obtain ⟨s90_120_75, es90_120_75⟩ : ∃ v, rd M90 120 75 = v := ⟨_, rfl⟩
    have bs90_120_75 : 0 ≤ s90_120_75 ∧ s90_120_75 ≤ 2100 := by rw [← es90_120_75]; exact ir_120_75 hS.1.2.1
    refine Tr.sc [(0, r90)] rfl ?_
    have kr_120_59 : rd M90 120 59 = s90_120_59 := es90_120_59
    have kr_120_62 : rd M90 120 62 = s90_120_62 := es90_120_62
    have kr_120_68 : rd M90 120 68 = s90_120_68 := es90_120_68
    have kr_120_75 : rd M90 120 75 = s90_120_75 := es90_120_75
    have kr_120_79 : rd M90 120 79 = g120_79 := ((St.kp h90 (by decide) (by decide) (by decide)).trans eg120_79)
    exact Tr.zret (pc := 93) d_X12_does_93 rfl (by omega) ⟨hS, _, rfl, by omega, by omega, by omega, by omega, by omega, by omega, by omega⟩
  · refine Tr.tp 4 c20 ?_
    refine Tr.tswIn (pc := 20) (off := 74) (tgt := 94) d_X12_does_20 (by decide) (by decide) rfl rfl ?_
    refine Tr.aload_n (pc := 94) (i := 0) d_X12_does_94 rfl rfl ?_
    refine Tr.iload_n (pc := 95) (i := 3) d_X12_does_95 rfl rfl ?_
    refine Tr.iload_n (pc := 96) (i := 2) d_X12_does_96 rfl rfl ?_
    refine Tr.callV (pc := 97) (as := [_, _]) d_X12_does_97 s_12_628 ok_X12_frees rfl rfl (Nat.le_of_ble_eq_true rfl) (Nat.le_of_ble_eq_true rfl) (by decide) (ty_120 hS.1.1) ?_
    have kb97_120_62 : rd M0 120 62 = g120_62 := eg120_62
    have kb97_120_75 : rd M0 120 75 = g120_75 := eg120_75
    refine Tr.imp (Tr.deep (by decide) (sp_X12_frees_120 hS.1 ((St.kp hS (by decide) (by decide) (by decide)).trans en_120_12) r12 (by omega) r5 (by omega) (by omega) (Bk0.of hF_Bk0 (fun j => (St.ka hS (by decide) (by decide) (by decide))) (fun j => (St.ka hS (by decide) (by decide) (by decide))) (fun j => (St.ka hS (by decide) (by decide) (by decide))) (fun j => (St.ka hS (by decide) (by decide) (by decide))) (fun j => (St.ka hS (by decide) (by decide) (by decide))) (fun j => (St.ka hS (by decide) (by decide) (by decide))) (fun j => (St.ka hS (by decide) (by decide) (by decide))) (fun j => (St.ka hS (by decide) (by decide) (by decide))) (St.kp hS (by decide) (by decide) (by decide)) (St.kp hS (by decide) (by decide) (by decide)) (St.kp hS (by decide) (by decide) (by decide)) (St.kp hS (by decide) (by decide) (by decide))))) ?_
    rintro M97 _ ⟨h97, rfl, z97_0⟩
    have hS := St.tr hS h97 (by decide) (by decide)
    have ka97_120_62 : rd M97 120 62 = g120_62 := ((St.kp h97 (by decide) (by decide) (by decide)).trans eg120_62)
    obtain ⟨s97_120_75, es97_120_75⟩ : ∃ v, rd M97 120 75 = v := ⟨_, rfl⟩
    have bs97_120_75 : 0 ≤ s97_120_75 ∧ s97_120_75 ≤ 2100 := by rw [← es97_120_75]; exact ir_120_75 hS.1.2.1
    refine Tr.sc [] rfl ?_
    refine Tr.iconst (pc := 100) d_X12_does_100 (by decide) ?_
    have kr_120_59 : rd M97 120 59 = g120_59 := ((St.kp h97 (by decide) (by decide) (by decide)).trans eg120_59)
    have kr_120_62 : rd M97 120 62 = g120_62 := ((St.kp h97 (by decide) (by decide) (by decide)).trans eg120_62)
    have kr_120_68 : rd M97 120 68 = g120_68 := ((St.kp h97 (by decide) (by decide) (by decide)).trans eg120_68)
    have kr_120_75 : rd M97 120 75 = s97_120_75 := es97_120_75
    have kr_120_79 : rd M97 120 79 = g120_79 := ((St.kp h97 (by decide) (by decide) (by decide)).trans eg120_79)
    exact Tr.zret (pc := 101) d_X12_does_101 rfl (by omega) ⟨hS, _, rfl, by omega, by omega, by omega, by omega, by omega, by omega, by omega⟩
  · refine Tr.tp 5 c20 ?_
    refine Tr.tswIn (pc := 20) (off := 82) (tgt := 102) d_X12_does_20 (by decide) (by decide) rfl rfl ?_
    refine Tr.aload_n (pc := 102) (i := 0) d_X12_does_102 rfl rfl ?_
    refine Tr.iconst (pc := 103) d_X12_does_103 (by decide) ?_
    refine Tr.iconst (pc := 104) d_X12_does_104 (by decide) ?_
    refine Tr.aload_n (pc := 105) (i := 0) d_X12_does_105 rfl rfl ?_
    refine Tr.iload_n (pc := 106) (i := 1) d_X12_does_106 rfl rfl ?_
    refine Tr.callV (pc := 107) (as := [_]) d_X12_does_107 s_12_614 ok_X12_works rfl rfl (Nat.le_of_ble_eq_true rfl) (Nat.le_of_ble_eq_true rfl) (by decide) (ty_120 hS.1.1) ?_
    have kb107_136_0 : rd M0 136 0 = g136_0 := eg136_0
    refine Tr.imp (Tr.deep (by decide) (sp_X12_works_120 hS.1.wk ((St.kp hS (by decide) (by decide) (by decide)).trans en_120_12) a1 (by omega) (by omega) (Bk0.of hF_Bk0 (fun j => (St.ka hS (by decide) (by decide) (by decide))) (fun j => (St.ka hS (by decide) (by decide) (by decide))) (fun j => (St.ka hS (by decide) (by decide) (by decide))) (fun j => (St.ka hS (by decide) (by decide) (by decide))) (fun j => (St.ka hS (by decide) (by decide) (by decide))) (fun j => (St.ka hS (by decide) (by decide) (by decide))) (fun j => (St.ka hS (by decide) (by decide) (by decide))) (fun j => (St.ka hS (by decide) (by decide) (by decide))) (St.kp hS (by decide) (by decide) (by decide)) (St.kp hS (by decide) (by decide) (by decide)) (St.kp hS (by decide) (by decide) (by decide)) (St.kp hS (by decide) (by decide) (by decide))))) ?_
    rintro M107 _ ⟨h107, r107, rfl, lr107, ur107⟩
    have h107 := St.rn h107 (Tb0.of hS.1.2.2.2.2 (fun _ => (St.ka h107 (by decide) (by decide) (by decide))) (St.kp h107 (by decide) (by decide) (by decide)))
    have hS := St.tr hS h107 (by decide) (by decide)
    refine Tr.sc [(1, r107), (0, 0), (0, (-1)), (2, 120)] rfl ?_
    refine Tr.bipush (pc := 110) d_X12_does_110 rfl (by decide) ?_
    refine Tr.callS (pc := 112) (as := [_, _]) d_X12_does_112 s_12_618 ok_X12_within rfl rfl (Nat.le_of_ble_eq_true rfl) (Nat.le_of_ble_eq_true rfl) ?_
    refine Tr.imp (Tr.deep (by decide) (sp_X12_within_v100 hS.1.wk r107 (by omega))) ?_
    rintro M112 _ ⟨h112, r112, rfl, lr112, ur112, z112_0⟩
    have h112 := St.rn h112 (Tb0.of hS.1.2.2.2.2 (fun _ => (St.ka h112 (by decide) (by decide) (by decide))) (St.kp h112 (by decide) (by decide) (by decide)))
    have hS := St.tr hS h112 (by decide) (by decide)
    refine Tr.sc [(0, r112), (0, 0), (0, (-1)), (2, 120)] rfl ?_
    refine Tr.iload_n (pc := 115) (i := 2) d_X12_does_115 rfl rfl ?_
    refine Tr.iconst (pc := 116) d_X12_does_116 (by decide) ?_
    refine Tr.iconst (pc := 117) d_X12_does_117 (by decide) ?_
    refine Tr.callV (pc := 118) (as := [_, _, _, _, _, _]) d_X12_does_118 s_12_587 ok_X12_ticksOf rfl rfl (Nat.le_of_ble_eq_true rfl) (Nat.le_of_ble_eq_true rfl) (by decide) (ty_120 hS.1.1) ?_
    have kb118_120_62 : rd M112 120 62 = g120_62 := ((St.kp h112 (by decide) (by decide) (by decide)).trans ((St.kp h107 (by decide) (by decide) (by decide)).trans eg120_62))
    have kb118_120_75 : rd M112 120 75 = g120_75 := ((St.kp h112 (by decide) (by decide) (by decide)).trans ((St.kp h107 (by decide) (by decide) (by decide)).trans eg120_75))
    refine Tr.imp (Tr.deep (by decide) (sp_X12_ticksOf_120 hS.1 ((St.kp hS (by decide) (by decide) (by decide)).trans en_120_12) (-1) (by omega) 0 (by omega) r112 (by omega) r5 (by omega) 0 (by omega) 0 (by omega) (by omega) (by omega) (by omega) (by omega) (Bk0.of hF_Bk0 (fun j => (St.ka hS (by decide) (by decide) (by decide))) (fun j => (St.ka hS (by decide) (by decide) (by decide))) (fun j => (St.ka hS (by decide) (by decide) (by decide))) (fun j => (St.ka hS (by decide) (by decide) (by decide))) (fun j => (St.ka hS (by decide) (by decide) (by decide))) (fun j => (St.ka hS (by decide) (by decide) (by decide))) (fun j => (St.ka hS (by decide) (by decide) (by decide))) (fun j => (St.ka hS (by decide) (by decide) (by decide))) (St.kp hS (by decide) (by decide) (by decide)) (St.kp hS (by decide) (by decide) (by decide)) (St.kp hS (by decide) (by decide) (by decide)) (St.kp hS (by decide) (by decide) (by decide))))) ?_
    rintro M118 _ ⟨h118, r118, rfl, lr118, ur118, z118_0, z118_1, z118_2, z118_3⟩
    have hS := St.tr hS h118 (by decide) (by decide)
    obtain ⟨s118_120_59, es118_120_59⟩ : ∃ v, rd M118 120 59 = v := ⟨_, rfl⟩
    have bs118_120_59 : (-1) ≤ s118_120_59 ∧ s118_120_59 ≤ 5 := by rw [← es118_120_59]; exact ir_120_59 hS.1.2.1
    obtain ⟨s118_120_62, es118_120_62⟩ : ∃ v, rd M118 120 62 = v := ⟨_, rfl⟩
    have bs118_120_62 : 0 ≤ s118_120_62 ∧ s118_120_62 ≤ 2060 := by rw [← es118_120_62]; exact ir_120_62 hS.1.2.1
    obtain ⟨s118_120_68, es118_120_68⟩ : ∃ v, rd M118 120 68 = v := ⟨_, rfl⟩
    have bs118_120_68 : 0 ≤ s118_120_68 ∧ s118_120_68 ≤ 2 := by rw [← es118_120_68]; exact ir_120_68 hS.1.2.1
    obtain ⟨s118_120_75, es118_120_75⟩ : ∃ v, rd M118 120 75 = v := ⟨_, rfl⟩
    have bs118_120_75 : 0 ≤ s118_120_75 ∧ s118_120_75 ≤ 2100 := by rw [← es118_120_75]; exact ir_120_75 hS.1.2.1
    refine Tr.sc [(0, r118)] rfl ?_
    have kr_120_59 : rd M118 120 59 = s118_120_59 := es118_120_59
    have kr_120_62 : rd M118 120 62 = s118_120_62 := es118_120_62
    have kr_120_68 : rd M118 120 68 = s118_120_68 := es118_120_68
    have kr_120_75 : rd M118 120 75 = s118_120_75 := es118_120_75
    have kr_120_79 : rd M118 120 79 = g120_79 := ((St.kp h118 (by decide) (by decide) (by decide)).trans ((St.kp h112 (by decide) (by decide) (by decide)).trans ((St.kp h107 (by decide) (by decide) (by decide)).trans eg120_79)))
    exact Tr.zret (pc := 121) d_X12_does_121 rfl (by omega) ⟨hS, _, rfl, by omega, by omega, by omega, by omega, by omega, by omega, by omega⟩

def ws_X12_runs_120 : List (Int × Int) := [(120, 59), (120, 60), (120, 61), (120, 62), (120, 63), (120, 64), (120, 65), (120, 66), (120, 67), (120, 68), (120, 75), (120, 79), (120, 84)]
def as_X12_runs_120 : List Int := [155, 156, 157, 158, 159, 160, 161, 162, 163, 164, 165, 166, 167, 168, 169, 170, 171, 172]
def q_X12_runs_120 (a1 : Int) (M0 M' : Mem) (r : Option PV) : Prop := St Tru ws_X12_runs_120 as_X12_runs_120 M0 M' ∧ ∃ v : Int, r = some (0, v) ∧ 0 ≤ v ∧ v ≤ 2 ∧ (rd M' 120 59 = -1)
set_option maxRecDepth 100000 in
set_option maxHeartbeats 4000000 in
theorem sp_X12_runs_120 {l : Launch} {K : EC} {M0 : Mem} (hI : In Tru M0) (en_120_12 : rd M0 120 12 = 0) (a1 : Int) (ha1 : (-1) ≤ a1 ∧ a1 ≤ (-1))  (hq0 : rd M0 120 59 = -1) (hF_Bk0 : Bk0 M0) : Tr l K 7 mX12_runs 0 [(0, (2, 120)), (1, (1, a1))] [] M0 (q_X12_runs_120 a1 M0) := by
  have hS : St Tru ws_X12_runs_120 as_X12_runs_120 M0 M0 := St.rf hI
  obtain ⟨g120_62, eg120_62⟩ : ∃ v, rd M0 120 62 = v := ⟨_, rfl⟩
  have bg120_62 : 0 ≤ g120_62 ∧ g120_62 ≤ 2060 := by rw [← eg120_62]; exact ir_120_62 hI.2.1
  obtain ⟨g120_68, eg120_68⟩ : ∃ v, rd M0 120 68 = v := ⟨_, rfl⟩
  have bg120_68 : 0 ≤ g120_68 ∧ g120_68 ≤ 2 := by rw [← eg120_68]; exact ir_120_68 hI.2.1
  obtain ⟨g120_75, eg120_75⟩ : ∃ v, rd M0 120 75 = v := ⟨_, rfl⟩
  have bg120_75 : 0 ≤ g120_75 ∧ g120_75 ≤ 2100 := by rw [← eg120_75]; exact ir_120_75 hI.2.1
  obtain ⟨g120_79, eg120_79⟩ : ∃ v, rd M0 120 79 = v := ⟨_, rfl⟩
  have bg120_79 : 0 ≤ g120_79 ∧ g120_79 ≤ 2100 := by rw [← eg120_79]; exact ir_120_79 hI.2.1
  obtain ⟨g120_59, eg120_59⟩ : ∃ v, rd M0 120 59 = v := ⟨_, rfl⟩
  have bg120_59 : (-1) ≤ g120_59 ∧ g120_59 ≤ 5 := by rw [← eg120_59]; exact ir_120_59 hI.2.1
  obtain ⟨g136_0, eg136_0⟩ : ∃ v, rd M0 136 0 = v := ⟨_, rfl⟩
  have bg136_0 : 0 ≤ g136_0 ∧ g136_0 ≤ 200 := by rw [← eg136_0]; exact ir_136_0 hI.2.1
  obtain ⟨g126_0, eg126_0⟩ : ∃ v, rd M0 126 0 = v := ⟨_, rfl⟩
  have bg126_0 : 0 ≤ g126_0 ∧ g126_0 ≤ 6 := by rw [← eg126_0]; exact ir_126_0 hI.2.1
  refine Tr.iconst (pc := 0) d_X12_runs_0 (by decide) ?_
  refine Tr.istore_n (pc := 1) (i := 3) (ls2 := [(3, (0, 0)), (0, (2, 120)), (1, (1, a1))]) d_X12_runs_1 rfl (by decide) rfl ?_
  have J2 : ∀ (n2 : Nat) (M : Mem) (p2_3 : Int), St Tru ws_X12_runs_120 as_X12_runs_120 M0 M → (0 ≤ p2_3 ∧ p2_3 ≤ 6) → rd M 120 59 = g120_59 → rd M 120 62 = g120_62 → rd M 120 68 = g120_68 → rd M 120 75 = g120_75 → rd M 120 79 = g120_79 → rd M 126 0 = g126_0 → rd M 136 0 = g136_0 → (g120_59 = -1) → (6 - p2_3).toNat < n2 → Tr l K 7 mX12_runs 2 [(0, (2, 120)), (1, (1, a1)), (3, (0, p2_3))] [] M (q_X12_runs_120 a1 M0) := by
    intro n2
    induction n2 with
    | zero => intro M p2_3 hS bp2_3 k2_120_59 k2_120_62 k2_120_68 k2_120_75 k2_120_79 k2_126_0 k2_136_0 t2_0 hm2; exact absurd hm2 (Nat.not_lt_zero _)
    | succ n2 J2 =>
      intro M p2_3 hS bp2_3 k2_120_59 k2_120_62 k2_120_68 k2_120_75 k2_120_79 k2_126_0 k2_136_0 t2_0 hm2
      refine Tr.iload_n (pc := 2) (i := 3) d_X12_runs_2 rfl rfl ?_
      refine Tr.bipush (pc := 3) d_X12_runs_3 rfl (by decide) ?_
      refine Tr.icmp_ge (pc := 5) (tgt := 21) d_X12_runs_5 rfl (fun c5 => ?_) (fun c5 => ?_)
      · refine Tr.iconst (pc := 21) d_X12_runs_21 (by decide) ?_
        refine Tr.istore_n (pc := 22) (i := 3) (ls2 := [(3, (0, 0)), (0, (2, 120)), (1, (1, a1))]) d_X12_runs_22 rfl (by decide) rfl ?_
        have J23 : ∀ (n23 : Nat) (M : Mem) (p23_3 : Int), St Tru ws_X12_runs_120 as_X12_runs_120 M0 M → (0 ≤ p23_3 ∧ p23_3 ≤ 6) → rd M 120 59 = g120_59 → rd M 120 62 = g120_62 → rd M 120 68 = g120_68 → rd M 120 75 = g120_75 → rd M 120 79 = g120_79 → rd M 126 0 = g126_0 → rd M 136 0 = g136_0 → (g120_59 = -1) → (∀ p : Int, 0 ≤ p → p < p23_3 → rd M 158 p ≤ 50) → (6 - p23_3).toNat < n23 → Tr l K 7 mX12_runs 23 [(0, (2, 120)), (1, (1, a1)), (3, (0, p23_3))] [] M (q_X12_runs_120 a1 M0) := by
          intro n23
          induction n23 with
          | zero => intro M p23_3 hS bp23_3 k23_120_59 k23_120_62 k23_120_68 k23_120_75 k23_120_79 k23_126_0 k23_136_0 t23_0 tp23_0 hm23; exact absurd hm23 (Nat.not_lt_zero _)
          | succ n23 J23 =>
            intro M p23_3 hS bp23_3 k23_120_59 k23_120_62 k23_120_68 k23_120_75 k23_120_79 k23_126_0 k23_136_0 t23_0 tp23_0 hm23
            refine Tr.iload_n (pc := 23) (i := 3) d_X12_runs_23 rfl rfl ?_
            refine Tr.bipush (pc := 24) d_X12_runs_24 rfl (by decide) ?_
            refine Tr.icmp_ge (pc := 26) (tgt := 63) d_X12_runs_26 rfl (fun c26 => ?_) (fun c26 => ?_)
            · have kp63_126_0 : rd M 126 0 = g126_0 := k23_126_0
              have hS := St.rn (r := Tb0) hS (fun p p0 p1 => tp23_0 p p0 (by omega))
              refine Tr.iconst (pc := 63) d_X12_runs_63 (by decide) ?_
              refine Tr.istore_n (pc := 64) (i := 3) (ls2 := [(3, (0, 0)), (0, (2, 120)), (1, (1, a1))]) d_X12_runs_64 rfl (by decide) rfl ?_
              have J65 : ∀ (n65 : Nat) (M : Mem) (p65_3 : Int), St Tb0 ws_X12_runs_120 as_X12_runs_120 M0 M → (0 ≤ p65_3 ∧ p65_3 ≤ 8) → rd M 120 59 = g120_59 → rd M 120 62 = g120_62 → rd M 120 68 = g120_68 → rd M 120 75 = g120_75 → rd M 120 79 = g120_79 → rd M 126 0 = g126_0 → rd M 136 0 = g136_0 → (g120_59 = -1) → (8 - p65_3).toNat < n65 → Tr l K 7 mX12_runs 65 [(0, (2, 120)), (1, (1, a1)), (3, (0, p65_3))] [] M (q_X12_runs_120 a1 M0) := by
                intro n65
                induction n65 with
                | zero => intro M p65_3 hS bp65_3 k65_120_59 k65_120_62 k65_120_68 k65_120_75 k65_120_79 k65_126_0 k65_136_0 t65_0 hm65; exact absurd hm65 (Nat.not_lt_zero _)
                | succ n65 J65 =>
                  intro M p65_3 hS bp65_3 k65_120_59 k65_120_62 k65_120_68 k65_120_75 k65_120_79 k65_126_0 k65_136_0 t65_0 hm65
                  refine Tr.iload_n (pc := 65) (i := 3) d_X12_runs_65 rfl rfl ?_
                  refine Tr.bipush (pc := 66) d_X12_runs_66 rfl (by decide) ?_
                  refine Tr.icmp_ge (pc := 68) (tgt := 84) d_X12_runs_68 rfl (fun c68 => ?_) (fun c68 => ?_)
                  · refine Tr.iconst (pc := 84) d_X12_runs_84 (by decide) ?_
                    refine Tr.istore_n (pc := 85) (i := 3) (ls2 := [(3, (0, 0)), (0, (2, 120)), (1, (1, a1))]) d_X12_runs_85 rfl (by decide) rfl ?_
                    have J86 : ∀ (n86 : Nat) (M : Mem) (p86_3 : Int), St Tb0 ws_X12_runs_120 as_X12_runs_120 M0 M → (0 ≤ p86_3 ∧ p86_3 ≤ 24) → rd M 120 59 = g120_59 → rd M 120 62 = g120_62 → rd M 120 68 = g120_68 → rd M 120 75 = g120_75 → rd M 120 79 = g120_79 → rd M 126 0 = g126_0 → rd M 136 0 = g136_0 → (g120_59 = -1) → (24 - p86_3).toNat < n86 → Tr l K 7 mX12_runs 86 [(0, (2, 120)), (1, (1, a1)), (3, (0, p86_3))] [] M (q_X12_runs_120 a1 M0) := by
                      intro n86
                      induction n86 with
                      | zero => intro M p86_3 hS bp86_3 k86_120_59 k86_120_62 k86_120_68 k86_120_75 k86_120_79 k86_126_0 k86_136_0 t86_0 hm86; exact absurd hm86 (Nat.not_lt_zero _)
                      | succ n86 J86 =>
                        intro M p86_3 hS bp86_3 k86_120_59 k86_120_62 k86_120_68 k86_120_75 k86_120_79 k86_126_0 k86_136_0 t86_0 hm86
                        refine Tr.iload_n (pc := 86) (i := 3) d_X12_runs_86 rfl rfl ?_
                        refine Tr.bipush (pc := 87) d_X12_runs_87 rfl (by decide) ?_
                        refine Tr.icmp_ge (pc := 89) (tgt := 105) d_X12_runs_89 rfl (fun c89 => ?_) (fun c89 => ?_)
                        · refine Tr.aload_n (pc := 105) (i := 0) d_X12_runs_105 rfl rfl ?_
                          refine Tr.iconst (pc := 106) d_X12_runs_106 (by decide) ?_
                          refine Tr.putfS (pc := 107) (P := St Tb0 ws_X12_runs_120 as_X12_runs_120 M0) d_X12_runs_107 f_12_201 (by decide) (by decide) (ty_120 hS.1.1) (st_120_62 hS (by decide) (by omega) (Tb0.of hS.1.2.2.2.2 (fun _ => rd_wb _ rfl) (rd_wb _ rfl))) (fun M107 hS w107 => ?_)
                          refine Tr.aload_n (pc := 110) (i := 0) d_X12_runs_110 rfl rfl ?_
                          refine Tr.lconst (pc := 111) (v := 0) d_X12_runs_111 rfl (by decide) ?_
                          refine Tr.putfS (pc := 112) (P := St Tb0 ws_X12_runs_120 as_X12_runs_120 M0) d_X12_runs_112 f_12_204 (by decide) (by decide) (ty_120 hS.1.1) (st_120_63 hS (by decide) (by omega) (Tb0.of hS.1.2.2.2.2 (fun _ => rd_wb _ rfl) (rd_wb _ rfl))) (fun M112 hS w112 => ?_)
                          refine Tr.aload_n (pc := 115) (i := 0) d_X12_runs_115 rfl rfl ?_
                          refine Tr.lload_n (pc := 116) (i := 1) d_X12_runs_116 rfl rfl ?_
                          refine Tr.tp (-1) (by omega) ?_
                          refine Tr.putfS (pc := 117) (P := St Tb0 ws_X12_runs_120 as_X12_runs_120 M0) d_X12_runs_117 f_12_207 (by decide) (by decide) (ty_120 hS.1.1) (st_120_64 hS (by decide) (by omega) (Tb0.of hS.1.2.2.2.2 (fun _ => rd_wb _ rfl) (rd_wb _ rfl))) (fun M117 hS w117 => ?_)
                          refine Tr.aload_n (pc := 120) (i := 0) d_X12_runs_120 rfl rfl ?_
                          refine Tr.iconst (pc := 121) d_X12_runs_121 (by decide) ?_
                          refine Tr.putfS (pc := 122) (P := St Tb0 ws_X12_runs_120 as_X12_runs_120 M0) d_X12_runs_122 f_12_210 (by decide) (by decide) (ty_120 hS.1.1) (st_120_65 hS (by decide) (by omega) (Tb0.of hS.1.2.2.2.2 (fun _ => rd_wb _ rfl) (rd_wb _ rfl))) (fun M122 hS w122 => ?_)
                          refine Tr.aload_n (pc := 125) (i := 0) d_X12_runs_125 rfl rfl ?_
                          refine Tr.iconst (pc := 126) d_X12_runs_126 (by decide) ?_
                          refine Tr.putfS (pc := 127) (P := St Tb0 ws_X12_runs_120 as_X12_runs_120 M0) d_X12_runs_127 f_12_213 (by decide) (by decide) (ty_120 hS.1.1) (st_120_66 hS (by decide) (by omega) (Tb0.of hS.1.2.2.2.2 (fun _ => rd_wb _ rfl) (rd_wb _ rfl))) (fun M127 hS w127 => ?_)
                          refine Tr.aload_n (pc := 130) (i := 0) d_X12_runs_130 rfl rfl ?_
                          refine Tr.iconst (pc := 131) d_X12_runs_131 (by decide) ?_
                          refine Tr.putfS (pc := 132) (P := St Tb0 ws_X12_runs_120 as_X12_runs_120 M0) d_X12_runs_132 f_12_216 (by decide) (by decide) (ty_120 hS.1.1) (st_120_67 hS (by decide) (by omega) (Tb0.of hS.1.2.2.2.2 (fun _ => rd_wb _ rfl) (rd_wb _ rfl))) (fun M132 hS w132 => ?_)
                          refine Tr.aload_n (pc := 135) (i := 0) d_X12_runs_135 rfl rfl ?_
                          refine Tr.iconst (pc := 136) d_X12_runs_136 (by decide) ?_
                          refine Tr.putfS (pc := 137) (P := St Tb0 ws_X12_runs_120 as_X12_runs_120 M0) d_X12_runs_137 f_12_219 (by decide) (by decide) (ty_120 hS.1.1) (st_120_68 hS (by decide) (by omega) (Tb0.of hS.1.2.2.2.2 (fun _ => rd_wb _ rfl) (rd_wb _ rfl))) (fun M137 hS w137 => ?_)
                          refine Tr.aload_n (pc := 140) (i := 0) d_X12_runs_140 rfl rfl ?_
                          refine Tr.iconst (pc := 141) d_X12_runs_141 (by decide) ?_
                          refine Tr.putfS (pc := 142) (P := St Tb0 ws_X12_runs_120 as_X12_runs_120 M0) d_X12_runs_142 f_12_267 (by decide) (by decide) (ty_120 hS.1.1) (st_120_84 hS (by decide) (by omega) (Tb0.of hS.1.2.2.2.2 (fun _ => rd_wb _ rfl) (rd_wb _ rfl))) (fun M142 hS w142 => ?_)
                          refine Tr.aload_n (pc := 145) (i := 0) d_X12_runs_145 rfl rfl ?_
                          refine Tr.iconst (pc := 146) d_X12_runs_146 (by decide) ?_
                          refine Tr.putfS (pc := 147) (P := St Tb0 ws_X12_runs_120 as_X12_runs_120 M0) d_X12_runs_147 f_12_195 (by decide) (by decide) (ty_120 hS.1.1) (st_120_60 hS (by decide) (by omega) (Tb0.of hS.1.2.2.2.2 (fun _ => rd_wb _ rfl) (rd_wb _ rfl))) (fun M147 hS w147 => ?_)
                          refine Tr.aload_n (pc := 150) (i := 0) d_X12_runs_150 rfl rfl ?_
                          refine Tr.iconst (pc := 151) d_X12_runs_151 (by decide) ?_
                          refine Tr.putfS (pc := 152) (P := St Tb0 ws_X12_runs_120 as_X12_runs_120 M0) d_X12_runs_152 f_12_240 (by decide) (by decide) (ty_120 hS.1.1) (st_120_75 hS (by decide) (by omega) (Tb0.of hS.1.2.2.2.2 (fun _ => rd_wb _ rfl) (rd_wb _ rfl))) (fun M152 hS w152 => ?_)
                          refine Tr.aload_n (pc := 155) (i := 0) d_X12_runs_155 rfl rfl ?_
                          refine Tr.iconst (pc := 156) d_X12_runs_156 (by decide) ?_
                          refine Tr.putfS (pc := 157) (P := St Tb0 ws_X12_runs_120 as_X12_runs_120 M0) d_X12_runs_157 f_12_252 (by decide) (by decide) (ty_120 hS.1.1) (st_120_79 hS (by decide) (by omega) (Tb0.of hS.1.2.2.2.2 (fun _ => rd_wb _ rfl) (rd_wb _ rfl))) (fun M157 hS w157 => ?_)
                          refine Tr.iconst (pc := 160) d_X12_runs_160 (by decide) ?_
                          refine Tr.istore_n (pc := 161) (i := 3) (ls2 := [(3, (0, 0)), (0, (2, 120)), (1, (1, a1))]) d_X12_runs_161 rfl (by decide) rfl ?_
                          have J162 : ∀ (n162 : Nat) (M : Mem) (p162_3 u162_120_59 u162_120_62 u162_120_68 u162_120_75 u162_120_79 : Int), St Tb0 ws_X12_runs_120 as_X12_runs_120 M0 M → (0 ≤ p162_3 ∧ p162_3 ≤ 200) → ((-1) ≤ u162_120_59 ∧ u162_120_59 ≤ 5) → (0 ≤ u162_120_62 ∧ u162_120_62 ≤ 2060) → (0 ≤ u162_120_68 ∧ u162_120_68 ≤ 2) → (0 ≤ u162_120_75 ∧ u162_120_75 ≤ 2100) → (0 ≤ u162_120_79 ∧ u162_120_79 ≤ 2100) → rd M 120 59 = u162_120_59 → rd M 120 62 = u162_120_62 → rd M 120 64 = (-1) → rd M 120 68 = u162_120_68 → rd M 120 75 = u162_120_75 → rd M 120 79 = u162_120_79 → rd M 126 0 = g126_0 → rd M 136 0 = g136_0 → (u162_120_75 ≤ u162_120_62) → (u162_120_79 ≤ u162_120_62) → (u162_120_62 ≤ 2000) → (u162_120_59 = -1) → (0 ≤ p162_3 ∧ p162_3 ≤ 200) → ((2001 - u162_120_62) * 300 + 1000 * (2 - u162_120_68) + rkf (rd M0 137 (0 + p162_3)) p162_3).toNat < n162 → Tr l K 7 mX12_runs 162 [(0, (2, 120)), (3, (0, p162_3))] [] M (q_X12_runs_120 a1 M0) := by
                            intro n162
                            induction n162 with
                            | zero => intro M p162_3 u162_120_59 u162_120_62 u162_120_68 u162_120_75 u162_120_79 hS bp162_3 bu162_120_59 bu162_120_62 bu162_120_68 bu162_120_75 bu162_120_79 k162_120_59 k162_120_62 k162_120_64 k162_120_68 k162_120_75 k162_120_79 k162_126_0 k162_136_0 t162_0 t162_1 t162_2 t162_3 t162_4 hm162; exact absurd hm162 (Nat.not_lt_zero _)
                            | succ n162 J162 =>
                              intro M p162_3 u162_120_59 u162_120_62 u162_120_68 u162_120_75 u162_120_79 hS bp162_3 bu162_120_59 bu162_120_62 bu162_120_68 bu162_120_75 bu162_120_79 k162_120_59 k162_120_62 k162_120_64 k162_120_68 k162_120_75 k162_120_79 k162_126_0 k162_136_0 t162_0 t162_1 t162_2 t162_3 t162_4 hm162
                              refine Tr.iload_n (pc := 162) (i := 3) d_X12_runs_162 rfl rfl ?_
                              refine Tr.aload_n (pc := 163) (i := 0) d_X12_runs_163 rfl rfl ?_
                              refine Tr.getf (pc := 164) d_X12_runs_164 f_12_94 (by decide) (by decide) (ty_120 hS.1.1) ?_
                              refine Tr.tp 136 (fx_120_27 hS.1.1) ?_
                              refine Tr.aload_n (pc := 167) (i := 0) d_X12_runs_167 rfl rfl ?_
                              refine Tr.getf (pc := 168) d_X12_runs_168 f_12_48 (by decide) (by decide) (ty_120 hS.1.1) ?_
                              refine Tr.tp 0 ((St.kp hS (by decide) (by decide) (by decide)).trans en_120_12) ?_
                              refine Tr.iald (pc := 171) d_X12_runs_171 (ty_136 hS.1.1) (by omega) (by omega) ?_
                              refine Tr.tp g136_0 k162_136_0 ?_
                              have J317 : ∀ (M : Mem), St Tb0 ws_X12_runs_120 as_X12_runs_120 M0 M → rd M 120 59 = u162_120_59 → rd M 120 62 = u162_120_62 → rd M 120 64 = (-1) → rd M 120 68 = u162_120_68 → rd M 120 75 = u162_120_75 → rd M 120 79 = u162_120_79 → rd M 126 0 = g126_0 → rd M 136 0 = g136_0 → (u162_120_62 ≤ 2000) → (u162_120_59 = -1) → Tr l K 7 mX12_runs 317 [(0, (2, 120))] [] M (q_X12_runs_120 a1 M0) := by
                                intro M  hS  k317_120_59 k317_120_62 k317_120_64 k317_120_68 k317_120_75 k317_120_79 k317_126_0 k317_136_0 t317_0 t317_1
                                refine Tr.aload_n (pc := 317) (i := 0) d_X12_runs_317 rfl rfl ?_
                                refine Tr.getf (pc := 318) d_X12_runs_318 f_12_219 (by decide) (by decide) (ty_120 hS.1.1) ?_
                                refine Tr.tp u162_120_68 k317_120_68 ?_
                                refine Tr.if_le (pc := 321) (tgt := 329) d_X12_runs_321 rfl (fun c321 => ?_) (fun c321 => ?_)
                                · refine Tr.iconst (pc := 329) d_X12_runs_329 (by decide) ?_
                                  refine Tr.istore (pc := 330) (i := 4) (ls2 := [(4, (0, 1)), (0, (2, 120))]) d_X12_runs_330 (by decide) rfl ?_
                                  have J332 : ∀ (n332 : Nat) (M : Mem) (p332_4 u332_120_62 : Int), St Tb0 ws_X12_runs_120 as_X12_runs_120 M0 M → (0 ≤ p332_4 ∧ p332_4 ≤ 1) → (0 ≤ u332_120_62 ∧ u332_120_62 ≤ 2060) → rd M 120 59 = u162_120_59 → rd M 120 62 = u332_120_62 → rd M 120 64 = (-1) → rd M 120 68 = u162_120_68 → rd M 120 75 = u162_120_75 → rd M 120 79 = u162_120_79 → rd M 126 0 = g126_0 → rd M 136 0 = g136_0 → (u162_120_68 = 0) → (u332_120_62 ≤ 2050) → (u162_120_59 = -1) → (∀ p : Int, 0 ≤ p → p < rd M 126 0 → rd M 156 p = 0 → rd M 158 p ≤ 2050 - u332_120_62) → (2 * (2060 - u332_120_62) + p332_4).toNat < n332 → Tr l K 7 mX12_runs 332 [(0, (2, 120)), (4, (0, p332_4))] [] M (q_X12_runs_120 a1 M0) := by
                                    intro n332
                                    induction n332 with
                                    | zero => intro M p332_4 u332_120_62 hS bp332_4 bu332_120_62 k332_120_59 k332_120_62 k332_120_64 k332_120_68 k332_120_75 k332_120_79 k332_126_0 k332_136_0 t332_0 t332_1 t332_2 tp332_0 hm332; exact absurd hm332 (Nat.not_lt_zero _)
                                    | succ n332 J332 =>
                                      intro M p332_4 u332_120_62 hS bp332_4 bu332_120_62 k332_120_59 k332_120_62 k332_120_64 k332_120_68 k332_120_75 k332_120_79 k332_126_0 k332_136_0 t332_0 t332_1 t332_2 tp332_0 hm332
                                      refine Tr.iload (pc := 332) (i := 4) d_X12_runs_332 rfl ?_
                                      refine Tr.if_eq (pc := 334) (tgt := 409) d_X12_runs_334 rfl (fun c334 => ?_) (fun c334 => ?_)
                                      · refine Tr.iconst (pc := 409) d_X12_runs_409 (by decide) ?_
                                        have kr_120_59 : rd M 120 59 = u162_120_59 := k332_120_59
                                        have hS := hS.wk
                                        exact Tr.iret (pc := 410) d_X12_runs_410 rfl ⟨hS, _, rfl, by omega, by omega, by omega⟩
                                      · refine Tr.iconst (pc := 337) d_X12_runs_337 (by decide) ?_
                                        refine Tr.istore (pc := 338) (i := 4) (ls2 := [(4, (0, 0)), (0, (2, 120))]) d_X12_runs_338 (by decide) rfl ?_
                                        refine Tr.iconst (pc := 340) d_X12_runs_340 (by decide) ?_
                                        refine Tr.istore (pc := 341) (i := 5) (ls2 := [(5, (0, 0)), (4, (0, 0)), (0, (2, 120))]) d_X12_runs_341 (by decide) rfl ?_
                                        have J343 : ∀ (n343 : Nat) (M : Mem) (p343_4 p343_5 : Int), St Tb0 ws_X12_runs_120 as_X12_runs_120 M0 M → (0 ≤ p343_4 ∧ p343_4 ≤ 1) → (0 ≤ p343_5 ∧ p343_5 ≤ 6) → rd M 120 59 = u162_120_59 → rd M 120 62 = u332_120_62 → rd M 120 64 = (-1) → rd M 120 68 = u162_120_68 → rd M 120 75 = u162_120_75 → rd M 120 79 = u162_120_79 → rd M 126 0 = g126_0 → rd M 136 0 = g136_0 → (u162_120_68 = 0) → (u332_120_62 ≤ 2050) → (u162_120_59 = -1) → (p343_4 = 0 ∨ u332_120_62 ≤ 2049) → (∀ p : Int, 0 ≤ p → p < rd M 126 0 → rd M 156 p = 0 → rd M 158 p ≤ 2050 - u332_120_62) → (6 - p343_5).toNat < n343 → Tr l K 7 mX12_runs 343 [(0, (2, 120)), (4, (0, p343_4)), (5, (0, p343_5))] [] M (q_X12_runs_120 a1 M0) := by
                                          intro n343
                                          induction n343 with
                                          | zero => intro M p343_4 p343_5 hS bp343_4 bp343_5 k343_120_59 k343_120_62 k343_120_64 k343_120_68 k343_120_75 k343_120_79 k343_126_0 k343_136_0 t343_0 t343_1 t343_2 t343_3 tp343_0 hm343; exact absurd hm343 (Nat.not_lt_zero _)
                                          | succ n343 J343 =>
                                            intro M p343_4 p343_5 hS bp343_4 bp343_5 k343_120_59 k343_120_62 k343_120_64 k343_120_68 k343_120_75 k343_120_79 k343_126_0 k343_136_0 t343_0 t343_1 t343_2 t343_3 tp343_0 hm343
                                            refine Tr.iload (pc := 343) (i := 5) d_X12_runs_343 rfl ?_
                                            refine Tr.aload_n (pc := 345) (i := 0) d_X12_runs_345 rfl rfl ?_
                                            refine Tr.getf (pc := 346) d_X12_runs_346 f_12_63 (by decide) (by decide) (ty_120 hS.1.1) ?_
                                            refine Tr.tp 126 (fx_120_17 hS.1.1) ?_
                                            refine Tr.aload_n (pc := 349) (i := 0) d_X12_runs_349 rfl rfl ?_
                                            refine Tr.getf (pc := 350) d_X12_runs_350 f_12_48 (by decide) (by decide) (ty_120 hS.1.1) ?_
                                            refine Tr.tp 0 ((St.kp hS (by decide) (by decide) (by decide)).trans en_120_12) ?_
                                            refine Tr.iald (pc := 353) d_X12_runs_353 (ty_126 hS.1.1) (by omega) (by omega) ?_
                                            refine Tr.tp g126_0 k343_126_0 ?_
                                            refine Tr.icmp_ge (pc := 354) (tgt := 395) d_X12_runs_354 rfl (fun c354 => ?_) (fun c354 => ?_)
                                            · refine Tr.iload (pc := 395) (i := 4) d_X12_runs_395 rfl ?_
                                              refine Tr.if_eq (pc := 397) (tgt := 332) d_X12_runs_397 rfl (fun c397 => ?_) (fun c397 => ?_)
                                              · refine Tr.pick [0, 1] (ls2 := [(0, (2, 120)), (4, (0, p343_4))]) rfl ?_
                                                exact J332 _ _ _ hS (by omega) (by omega) k343_120_59 k343_120_62 k343_120_64 k343_120_68 k343_120_75 k343_120_79 k343_126_0 k343_136_0 (by omega) (by omega) (by omega) tp343_0 (by omega)
                                              · refine Tr.aload_n (pc := 400) (i := 0) d_X12_runs_400 rfl rfl ?_
                                                refine Tr.iconst (pc := 401) d_X12_runs_401 (by decide) ?_
                                                refine Tr.callV (pc := 402) (as := [_]) d_X12_runs_402 s_12_577 ok_X12_tick rfl rfl (Nat.le_of_ble_eq_true rfl) (Nat.le_of_ble_eq_true rfl) (by decide) (ty_120 hS.1.1) ?_
                                                have kb402_120_59 : rd M 120 59 = u162_120_59 := k343_120_59
                                                obtain ⟨w402_120_61, ew402_120_61⟩ : ∃ v, rd M 120 61 = v := ⟨_, rfl⟩
                                                have bw402_120_61 : 0 ≤ w402_120_61 ∧ w402_120_61 ≤ 3 := by rw [← ew402_120_61]; exact ir_120_61 hS.1.2.1
                                                have kb402_120_61 : rd M 120 61 = w402_120_61 := ew402_120_61
                                                have kb402_120_62 : rd M 120 62 = u332_120_62 := k343_120_62
                                                have kb402_120_68 : rd M 120 68 = u162_120_68 := k343_120_68
                                                refine Tr.imp (Tr.deep (by decide) (sp_X12_tick_120_w1 hS.1 ((St.kp hS (by decide) (by decide) (by decide)).trans en_120_12) (-1) (by omega) (by omega) (by omega) (by omega) (Bk0.of hF_Bk0 (fun j => (St.ka hS (by decide) (by decide) (by decide))) (fun j => (St.ka hS (by decide) (by decide) (by decide))) (fun j => (St.ka hS (by decide) (by decide) (by decide))) (fun j => (St.ka hS (by decide) (by decide) (by decide))) (fun j => (St.ka hS (by decide) (by decide) (by decide))) (fun j => (St.ka hS (by decide) (by decide) (by decide))) (fun j => (St.ka hS (by decide) (by decide) (by decide))) (fun j => (St.ka hS (by decide) (by decide) (by decide))) (St.kp hS (by decide) (by decide) (by decide)) (St.kp hS (by decide) (by decide) (by decide)) (St.kp hS (by decide) (by decide) (by decide)) (St.kp hS (by decide) (by decide) (by decide))))) ?_
                                                rintro M402 _ ⟨h402, r402, rfl, lr402, ur402, z402_0, z402_1, z402_2, z402_3⟩
                                                have hS := St.tr hS h402 (by decide) (by decide)
                                                have ka402_120_59 : rd M402 120 59 = u162_120_59 := ((St.kp h402 (by decide) (by decide) (by decide)).trans k343_120_59)
                                                obtain ⟨s402_120_62, es402_120_62⟩ : ∃ v, rd M402 120 62 = v := ⟨_, rfl⟩
                                                have bs402_120_62 : 0 ≤ s402_120_62 ∧ s402_120_62 ≤ 2060 := by rw [← es402_120_62]; exact ir_120_62 hS.1.2.1
                                                have ka402_120_68 : rd M402 120 68 = u162_120_68 := ((St.kp h402 (by decide) (by decide) (by decide)).trans k343_120_68)
                                                refine Tr.sc [(0, r402)] rfl ?_
                                                refine Tr.pop (pc := 405) d_X12_runs_405 ne01 ?_
                                                refine Tr.goto (pc := 406) (tgt := 332) d_X12_runs_406 rfl ?_
                                                refine Tr.pick [0, 1] (ls2 := [(0, (2, 120)), (4, (0, p343_4))]) rfl ?_
                                                exact J332 _ _ _ hS (by omega) (by omega) ((St.kp h402 (by decide) (by decide) (by decide)).trans k343_120_59) es402_120_62 ((St.kp h402 (by decide) (by decide) (by decide)).trans k343_120_64) ((St.kp h402 (by decide) (by decide) (by decide)).trans k343_120_68) ((St.kp h402 (by decide) (by decide) (by decide)).trans k343_120_75) ((St.kp h402 (by decide) (by decide) (by decide)).trans k343_120_79) ((St.kp h402 (by decide) (by decide) (by decide)).trans k343_126_0) ((St.kp h402 (by decide) (by decide) (by decide)).trans k343_136_0) (by omega) (by omega) (by omega) (fun p p0 p1 p2 => by have h8 := z402_3 (by omega) (2050 - u332_120_62) (by omega) tp343_0 p p0 p1 p2; omega) (by omega)
                                            · refine Tr.iload (pc := 357) (i := 4) d_X12_runs_357 rfl ?_
                                              have J387 : ∀ (M : Mem) (q387_0 : Int), St Tb0 ws_X12_runs_120 as_X12_runs_120 M0 M → (0 ≤ q387_0 ∧ q387_0 ≤ 1) → rd M 120 59 = u162_120_59 → rd M 120 62 = u332_120_62 → rd M 120 64 = (-1) → rd M 120 68 = u162_120_68 → rd M 120 75 = u162_120_75 → rd M 120 79 = u162_120_79 → rd M 126 0 = g126_0 → rd M 136 0 = g136_0 → (u162_120_68 = 0) → (u332_120_62 ≤ 2050) → (u162_120_59 = -1) → (q387_0 = 0 ∨ u332_120_62 ≤ 2049) → (∀ p : Int, 0 ≤ p → p < rd M 126 0 → rd M 156 p = 0 → rd M 158 p ≤ 2050 - u332_120_62) → Tr l K 7 mX12_runs 387 [(0, (2, 120)), (5, (0, p343_5))] [(0, q387_0)] M (q_X12_runs_120 a1 M0) := by
                                                intro M q387_0 hS bq387_0 k387_120_59 k387_120_62 k387_120_64 k387_120_68 k387_120_75 k387_120_79 k387_126_0 k387_136_0 t387_0 t387_1 t387_2 t387_3 tp387_0
                                                refine Tr.istore (pc := 387) (i := 4) (ls2 := [(4, (0, q387_0)), (0, (2, 120)), (5, (0, p343_5))]) d_X12_runs_387 (by decide) rfl ?_
                                                refine Tr.iincV (pc := 389) (n2 := (p343_5 + 1)) (ls2 := [(5, (0, (p343_5 + 1))), (4, (0, q387_0)), (0, (2, 120))]) d_X12_runs_389 rfl (by decide) ((w32_id (by omega)).trans (by omega)) rfl ?_
                                                refine Tr.goto (pc := 392) (tgt := 343) d_X12_runs_392 rfl ?_
                                                refine Tr.pick [2, 1, 0] (ls2 := [(0, (2, 120)), (4, (0, q387_0)), (5, (0, (p343_5 + 1)))]) rfl ?_
                                                exact J343 _ _ _ hS (by omega) (by omega) k387_120_59 k387_120_62 k387_120_64 k387_120_68 k387_120_75 k387_120_79 k387_126_0 k387_136_0 (by omega) (by omega) (by omega) (by first | assumption | omega) tp387_0 (by omega)
                                              have J382 : ∀ (M : Mem), St Tb0 ws_X12_runs_120 as_X12_runs_120 M0 M → rd M 120 59 = u162_120_59 → rd M 120 62 = u332_120_62 → rd M 120 64 = (-1) → rd M 120 68 = u162_120_68 → rd M 120 75 = u162_120_75 → rd M 120 79 = u162_120_79 → rd M 126 0 = g126_0 → rd M 136 0 = g136_0 → (u162_120_68 = 0) → (u332_120_62 ≤ 2050) → (u162_120_59 = -1) → (u332_120_62 ≤ 2049) → (∀ p : Int, 0 ≤ p → p < rd M 126 0 → rd M 156 p = 0 → rd M 158 p ≤ 2050 - u332_120_62) → Tr l K 7 mX12_runs 382 [(0, (2, 120)), (5, (0, p343_5))] [] M (q_X12_runs_120 a1 M0) := by
                                                intro M  hS  k382_120_59 k382_120_62 k382_120_64 k382_120_68 k382_120_75 k382_120_79 k382_126_0 k382_136_0 t382_0 t382_1 t382_2 t382_3 tp382_0
                                                refine Tr.iconst (pc := 382) d_X12_runs_382 (by decide) ?_
                                                refine Tr.goto (pc := 383) (tgt := 387) d_X12_runs_383 rfl ?_
                                                refine Tr.pick [0, 1] (ls2 := [(0, (2, 120)), (5, (0, p343_5))]) rfl ?_
                                                exact J387 _ _ hS (by omega) k382_120_59 k382_120_62 k382_120_64 k382_120_68 k382_120_75 k382_120_79 k382_126_0 k382_136_0 (by omega) (by omega) (by omega) (by first | assumption | omega) tp382_0
                                              refine Tr.if_ne (pc := 359) (tgt := 382) d_X12_runs_359 rfl (fun c359 => ?_) (fun c359 => ?_)
                                              · refine Tr.pick [0, 2] (ls2 := [(0, (2, 120)), (5, (0, p343_5))]) rfl ?_
                                                exact J382 _ hS k343_120_59 k343_120_62 k343_120_64 k343_120_68 k343_120_75 k343_120_79 k343_126_0 k343_136_0 (by omega) (by omega) (by omega) (by omega) tp343_0
                                              · refine Tr.aload_n (pc := 362) (i := 0) d_X12_runs_362 rfl rfl ?_
                                                refine Tr.getf (pc := 363) d_X12_runs_363 f_12_177 (by decide) (by decide) (ty_120 hS.1.1) ?_
                                                refine Tr.tp 156 (fx_120_54 hS.1.1) ?_
                                                refine Tr.iload (pc := 366) (i := 5) d_X12_runs_366 rfl ?_
                                                refine Tr.zald (pc := 368) d_X12_runs_368 (ty_156 hS.1.1) (by omega) (by omega) ?_
                                                refine Tr.gen (P := fun v => 0 ≤ v ∧ v ≤ 1) (ar_156 hS.1.2.1 _) (fun r368 er368 br368 => ?_)
                                                have J386 : ∀ (M : Mem), St Tb0 ws_X12_runs_120 as_X12_runs_120 M0 M → rd M 120 59 = u162_120_59 → rd M 120 62 = u332_120_62 → rd M 120 64 = (-1) → rd M 120 68 = u162_120_68 → rd M 120 75 = u162_120_75 → rd M 120 79 = u162_120_79 → rd M 126 0 = g126_0 → rd M 136 0 = g136_0 → rd M 156 p343_5 = r368 → (u162_120_68 = 0) → (u332_120_62 ≤ 2050) → (u162_120_59 = -1) → (∀ p : Int, 0 ≤ p → p < rd M 126 0 → rd M 156 p = 0 → rd M 158 p ≤ 2050 - u332_120_62) → Tr l K 7 mX12_runs 386 [(0, (2, 120)), (5, (0, p343_5))] [] M (q_X12_runs_120 a1 M0) := by
                                                  intro M  hS  k386_120_59 k386_120_62 k386_120_64 k386_120_68 k386_120_75 k386_120_79 k386_126_0 k386_136_0 k386_156_p343_510 t386_0 t386_1 t386_2 tp386_0
                                                  refine Tr.iconst (pc := 386) d_X12_runs_386 (by decide) ?_
                                                  refine Tr.pick [0, 1] (ls2 := [(0, (2, 120)), (5, (0, p343_5))]) rfl ?_
                                                  exact J387 _ _ hS (by omega) k386_120_59 k386_120_62 k386_120_64 k386_120_68 k386_120_75 k386_120_79 k386_126_0 k386_136_0 (by omega) (by omega) (by omega) (by first | assumption | omega) tp386_0
                                                refine Tr.if_ne (pc := 369) (tgt := 386) d_X12_runs_369 rfl (fun c369 => ?_) (fun c369 => ?_)
                                                · refine Tr.pick [0, 2] (ls2 := [(0, (2, 120)), (5, (0, p343_5))]) rfl ?_
                                                  exact J386 _ hS k343_120_59 k343_120_62 k343_120_64 k343_120_68 k343_120_75 k343_120_79 k343_126_0 k343_136_0 er368 (by omega) (by omega) (by omega) tp343_0
                                                · refine Tr.aload_n (pc := 372) (i := 0) d_X12_runs_372 rfl rfl ?_
                                                  refine Tr.getf (pc := 373) d_X12_runs_373 f_12_183 (by decide) (by decide) (ty_120 hS.1.1) ?_
                                                  refine Tr.tp 158 (fx_120_56 hS.1.1) ?_
                                                  refine Tr.iload (pc := 376) (i := 5) d_X12_runs_376 rfl ?_
                                                  refine Tr.iald (pc := 378) d_X12_runs_378 (ty_158 hS.1.1) (by omega) (by omega) ?_
                                                  refine Tr.gen (P := fun v => ((-2147483648) ≤ v ∧ v ≤ 2147483647) ∧ v ≤ 2050 - u332_120_62) (by have h9 := (ar_158 hS.1.2.1 (p343_5)); have e8 := k343_126_0; have h8 := tp343_0 p343_5 (by omega) (by omega) (by omega); omega) (fun r378 er378 br378 => ?_)
                                                  refine Tr.if_le (pc := 379) (tgt := 386) d_X12_runs_379 rfl (fun c379 => ?_) (fun c379 => ?_)
                                                  · refine Tr.pick [0, 2] (ls2 := [(0, (2, 120)), (5, (0, p343_5))]) rfl ?_
                                                    exact J386 _ hS k343_120_59 k343_120_62 k343_120_64 k343_120_68 k343_120_75 k343_120_79 k343_126_0 k343_136_0 er368 (by omega) (by omega) (by omega) tp343_0
                                                  · refine Tr.pick [0, 2] (ls2 := [(0, (2, 120)), (5, (0, p343_5))]) rfl ?_
                                                    exact J382 _ hS k343_120_59 k343_120_62 k343_120_64 k343_120_68 k343_120_75 k343_120_79 k343_126_0 k343_136_0 (by omega) (by omega) (by omega) (by omega) tp343_0
                                        refine Tr.pick [2, 1, 0] (ls2 := [(0, (2, 120)), (4, (0, 0)), (5, (0, 0))]) rfl ?_
                                        exact J343 _ _ _ _ hS (by omega) (by omega) k332_120_59 k332_120_62 k332_120_64 k332_120_68 k332_120_75 k332_120_79 k332_126_0 k332_136_0 (by omega) (by omega) (by omega) (by first | assumption | omega) tp332_0 (Nat.lt_succ_self _)
                                  refine Tr.pick [1, 0] (ls2 := [(0, (2, 120)), (4, (0, 1))]) rfl ?_
                                  exact J332 _ _ _ _ hS (by omega) (by omega) k317_120_59 k317_120_62 k317_120_64 k317_120_68 k317_120_75 k317_120_79 k317_126_0 k317_136_0 (by omega) (by omega) (by omega) (fun p p0 p1 _ => by have h8 := hS.1.2.2.2.2 p p0 p1; omega) (Nat.lt_succ_self _)
                                · refine Tr.aload_n (pc := 324) (i := 0) d_X12_runs_324 rfl rfl ?_
                                  refine Tr.getf (pc := 325) d_X12_runs_325 f_12_219 (by decide) (by decide) (ty_120 hS.1.1) ?_
                                  refine Tr.tp u162_120_68 k317_120_68 ?_
                                  have kr_120_59 : rd M 120 59 = u162_120_59 := k317_120_59
                                  have hS := hS.wk
                                  exact Tr.iret (pc := 328) d_X12_runs_328 rfl ⟨hS, _, rfl, by omega, by omega, by omega⟩
                              refine Tr.icmp_ge (pc := 172) (tgt := 317) d_X12_runs_172 rfl (fun c172 => ?_) (fun c172 => ?_)
                              · refine Tr.pick [0] (ls2 := [(0, (2, 120))]) rfl ?_
                                exact J317 _ hS k162_120_59 k162_120_62 k162_120_64 k162_120_68 k162_120_75 k162_120_79 k162_126_0 k162_136_0 (by omega) (by omega)
                              · refine Tr.aload_n (pc := 175) (i := 0) d_X12_runs_175 rfl rfl ?_
                                refine Tr.getf (pc := 176) d_X12_runs_176 f_12_219 (by decide) (by decide) (ty_120 hS.1.1) ?_
                                refine Tr.tp u162_120_68 k162_120_68 ?_
                                refine Tr.if_ne (pc := 179) (tgt := 317) d_X12_runs_179 rfl (fun c179 => ?_) (fun c179 => ?_)
                                · refine Tr.pick [0] (ls2 := [(0, (2, 120))]) rfl ?_
                                  exact J317 _ hS k162_120_59 k162_120_62 k162_120_64 k162_120_68 k162_120_75 k162_120_79 k162_126_0 k162_136_0 (by omega) (by omega)
                                · refine Tr.sipush (pc := 182) d_X12_runs_182 rfl (by decide) ?_
                                  refine Tr.aload_n (pc := 185) (i := 0) d_X12_runs_185 rfl rfl ?_
                                  refine Tr.getf (pc := 186) d_X12_runs_186 f_12_48 (by decide) (by decide) (ty_120 hS.1.1) ?_
                                  refine Tr.tp 0 ((St.kp hS (by decide) (by decide) (by decide)).trans en_120_12) ?_
                                  refine Tr.imul (pc := 189) d_X12_runs_189 ?_
                                  refine Tr.tp 0 (by decide) ?_
                                  refine Tr.iload_n (pc := 190) (i := 3) d_X12_runs_190 rfl rfl ?_
                                  refine Tr.iadd (pc := 191) d_X12_runs_191 ?_
                                  refine Tr.tp p162_3 ((w32_id (by omega)).trans (by omega)) ?_
                                  refine Tr.istore (pc := 192) (i := 4) (ls2 := [(4, (0, p162_3)), (0, (2, 120)), (3, (0, p162_3))]) d_X12_runs_192 (by decide) rfl ?_
                                  refine Tr.iincV (pc := 194) (n2 := (p162_3 + 1)) (ls2 := [(3, (0, (p162_3 + 1))), (4, (0, p162_3)), (0, (2, 120))]) d_X12_runs_194 rfl (by decide) ((w32_id (by omega)).trans (by omega)) rfl ?_
                                  refine Tr.aload_n (pc := 197) (i := 0) d_X12_runs_197 rfl rfl ?_
                                  refine Tr.getf (pc := 198) d_X12_runs_198 f_12_97 (by decide) (by decide) (ty_120 hS.1.1) ?_
                                  refine Tr.tp 137 (fx_120_28 hS.1.1) ?_
                                  refine Tr.iload (pc := 201) (i := 4) d_X12_runs_201 rfl ?_
                                  refine Tr.iald (pc := 203) d_X12_runs_203 (ty_137 hS.1.1) (by omega) (by omega) ?_
                                  refine Tr.gen (P := fun v => 0 ≤ v ∧ v ≤ 8) (ar_137 hS.1.2.1 _) (fun r203 er203 br203 => ?_)
                                  refine Tr.if_ne (pc := 204) (tgt := 218) d_X12_runs_204 rfl (fun c204 => ?_) (fun c204 => ?_)
                                  · refine Tr.aload_n (pc := 218) (i := 0) d_X12_runs_218 rfl rfl ?_
                                    refine Tr.aload_n (pc := 219) (i := 0) d_X12_runs_219 rfl rfl ?_
                                    refine Tr.getf (pc := 220) d_X12_runs_220 f_12_100 (by decide) (by decide) (ty_120 hS.1.1) ?_
                                    refine Tr.tp 138 (fx_120_29 hS.1.1) ?_
                                    refine Tr.iload (pc := 223) (i := 4) d_X12_runs_223 rfl ?_
                                    refine Tr.iald (pc := 225) d_X12_runs_225 (ty_138 hS.1.1) (by omega) (by omega) ?_
                                    refine Tr.gen (P := fun v => 0 ≤ v ∧ v ≤ 59) (by have h9 := (ar_138 hS.1.2.1 (p162_3)); have e8 := k162_136_0; have e7 := er203; have h8 := Bk0_ln (Bk0.of hF_Bk0 (fun j => (St.ka hS (by decide) (by decide) (by decide))) (fun j => (St.ka hS (by decide) (by decide) (by decide))) (fun j => (St.ka hS (by decide) (by decide) (by decide))) (fun j => (St.ka hS (by decide) (by decide) (by decide))) (fun j => (St.ka hS (by decide) (by decide) (by decide))) (fun j => (St.ka hS (by decide) (by decide) (by decide))) (fun j => (St.ka hS (by decide) (by decide) (by decide))) (fun j => (St.ka hS (by decide) (by decide) (by decide))) (St.kp hS (by decide) (by decide) (by decide)) (St.kp hS (by decide) (by decide) (by decide)) (St.kp hS (by decide) (by decide) (by decide)) (St.kp hS (by decide) (by decide) (by decide))) (i := p162_3) (by omega) (by omega) (by omega); omega) (fun r225 er225 br225 => ?_)
                                    refine Tr.callV (pc := 226) (as := [_]) d_X12_runs_226 s_12_577 ok_X12_tick rfl rfl (Nat.le_of_ble_eq_true rfl) (Nat.le_of_ble_eq_true rfl) (by decide) (ty_120 hS.1.1) ?_
                                    have kb226_120_59 : rd M 120 59 = u162_120_59 := k162_120_59
                                    obtain ⟨w226_120_61, ew226_120_61⟩ : ∃ v, rd M 120 61 = v := ⟨_, rfl⟩
                                    have bw226_120_61 : 0 ≤ w226_120_61 ∧ w226_120_61 ≤ 3 := by rw [← ew226_120_61]; exact ir_120_61 hS.1.2.1
                                    have kb226_120_61 : rd M 120 61 = w226_120_61 := ew226_120_61
                                    have kb226_120_62 : rd M 120 62 = u162_120_62 := k162_120_62
                                    have kb226_120_68 : rd M 120 68 = u162_120_68 := k162_120_68
                                    refine Tr.imp (Tr.deep (by decide) (sp_X12_tick_120 hS.1 ((St.kp hS (by decide) (by decide) (by decide)).trans en_120_12) r225 (by omega) (by omega) (by omega) (Bk0.of hF_Bk0 (fun j => (St.ka hS (by decide) (by decide) (by decide))) (fun j => (St.ka hS (by decide) (by decide) (by decide))) (fun j => (St.ka hS (by decide) (by decide) (by decide))) (fun j => (St.ka hS (by decide) (by decide) (by decide))) (fun j => (St.ka hS (by decide) (by decide) (by decide))) (fun j => (St.ka hS (by decide) (by decide) (by decide))) (fun j => (St.ka hS (by decide) (by decide) (by decide))) (fun j => (St.ka hS (by decide) (by decide) (by decide))) (St.kp hS (by decide) (by decide) (by decide)) (St.kp hS (by decide) (by decide) (by decide)) (St.kp hS (by decide) (by decide) (by decide)) (St.kp hS (by decide) (by decide) (by decide))))) ?_
                                    rintro M226 _ ⟨h226, r226, rfl, lr226, ur226, z226_0, z226_1, z226_2⟩
                                    have hS := St.tr hS h226 (by decide) (by decide)
                                    have ka226_120_59 : rd M226 120 59 = u162_120_59 := ((St.kp h226 (by decide) (by decide) (by decide)).trans k162_120_59)
                                    obtain ⟨s226_120_62, es226_120_62⟩ : ∃ v, rd M226 120 62 = v := ⟨_, rfl⟩
                                    have bs226_120_62 : 0 ≤ s226_120_62 ∧ s226_120_62 ≤ 2060 := by rw [← es226_120_62]; exact ir_120_62 hS.1.2.1
                                    obtain ⟨s226_120_68, es226_120_68⟩ : ∃ v, rd M226 120 68 = v := ⟨_, rfl⟩
                                    have bs226_120_68 : 0 ≤ s226_120_68 ∧ s226_120_68 ≤ 2 := by rw [← es226_120_68]; exact ir_120_68 hS.1.2.1
                                    refine Tr.sc [(0, r226)] rfl ?_
                                    refine Tr.istore (pc := 229) (i := 5) (ls2 := [(5, (0, r226)), (3, (0, (p162_3 + 1))), (4, (0, p162_3)), (0, (2, 120))]) d_X12_runs_229 (by decide) rfl ?_
                                    refine Tr.iload (pc := 231) (i := 5) d_X12_runs_231 rfl ?_
                                    have J246 : ∀ (M : Mem), St Tb0 ws_X12_runs_120 as_X12_runs_120 M0 M → rd M 120 59 = u162_120_59 → rd M 120 61 = w226_120_61 → rd M 120 62 = s226_120_62 → rd M 120 64 = (-1) → rd M 120 68 = s226_120_68 → rd M 120 75 = u162_120_75 → rd M 120 79 = u162_120_79 → rd M 126 0 = g126_0 → rd M 136 0 = g136_0 → rd M 137 p162_3 = r203 → rd M 138 p162_3 = r225 → (s226_120_62 ≤ 2000) → (u162_120_59 = -1) → (0 ≤ (p162_3 + 1) ∧ (p162_3 + 1) ≤ 200) → ((r226 = 1 ∧ u162_120_75 + 1 ≤ s226_120_62 ∧ u162_120_79 + 1 ≤ s226_120_62 ∧ s226_120_62 = u162_120_62 + 1) ∨ (r226 = 0 ∧ u162_120_75 ≤ s226_120_62 ∧ u162_120_79 ≤ s226_120_62 ∧ 1 ≤ s226_120_68 ∧ s226_120_62 = u162_120_62)) → Tr l K 7 mX12_runs 246 [(0, (2, 120)), (3, (0, (p162_3 + 1))), (4, (0, p162_3)), (5, (0, r226))] [] M (q_X12_runs_120 a1 M0) := by
                                      intro M  hS  k246_120_59 k246_120_61 k246_120_62 k246_120_64 k246_120_68 k246_120_75 k246_120_79 k246_126_0 k246_136_0 k246_137_p162_310 k246_138_p162_310 t246_0 t246_1 t246_2 t246_3
                                      refine Tr.iload (pc := 246) (i := 5) d_X12_runs_246 rfl ?_
                                      have J298 : ∀ (M : Mem) (p298_3 p298_5 u298_120_59 u298_120_62 u298_120_68 u298_120_75 u298_120_79 : Int), St Tb0 ws_X12_runs_120 as_X12_runs_120 M0 M → (0 ≤ p298_3 ∧ p298_3 ≤ 200) → (0 ≤ p298_5 ∧ p298_5 ≤ 1) → ((-1) ≤ u298_120_59 ∧ u298_120_59 ≤ 5) → (0 ≤ u298_120_62 ∧ u298_120_62 ≤ 2060) → (0 ≤ u298_120_68 ∧ u298_120_68 ≤ 2) → (0 ≤ u298_120_75 ∧ u298_120_75 ≤ 2100) → (0 ≤ u298_120_79 ∧ u298_120_79 ≤ 2100) → rd M 120 59 = u298_120_59 → rd M 120 62 = u298_120_62 → rd M 120 64 = (-1) → rd M 120 68 = u298_120_68 → rd M 120 75 = u298_120_75 → rd M 120 79 = u298_120_79 → rd M 126 0 = g126_0 → rd M 136 0 = g136_0 → rd M 137 p162_3 = r203 → rd M 138 p162_3 = r225 → (u298_120_62 ≤ 2000) → (u298_120_59 = -1) → (0 ≤ p298_3 ∧ p298_3 ≤ 200) → (u298_120_75 ≤ u298_120_62 ∧ u298_120_79 ≤ u298_120_62) → ((1 ≤ u298_120_68 ∧ u162_120_62 ≤ u298_120_62) ∨ u162_120_62 + 1 ≤ u298_120_62) → Tr l K 7 mX12_runs 298 [(0, (2, 120)), (3, (0, p298_3)), (4, (0, p162_3)), (5, (0, p298_5))] [] M (q_X12_runs_120 a1 M0) := by
                                        intro M p298_3 p298_5 u298_120_59 u298_120_62 u298_120_68 u298_120_75 u298_120_79 hS bp298_3 bp298_5 bu298_120_59 bu298_120_62 bu298_120_68 bu298_120_75 bu298_120_79 k298_120_59 k298_120_62 k298_120_64 k298_120_68 k298_120_75 k298_120_79 k298_126_0 k298_136_0 k298_137_p162_310 k298_138_p162_310 t298_0 t298_1 t298_2 t298_3 t298_4
                                        refine Tr.iload (pc := 298) (i := 5) d_X12_runs_298 rfl ?_
                                        have J314 : ∀ (M : Mem), St Tb0 ws_X12_runs_120 as_X12_runs_120 M0 M → rd M 120 59 = u298_120_59 → rd M 120 62 = u298_120_62 → rd M 120 64 = (-1) → rd M 120 68 = u298_120_68 → rd M 120 75 = u298_120_75 → rd M 120 79 = u298_120_79 → rd M 126 0 = g126_0 → rd M 136 0 = g136_0 → rd M 137 p162_3 = r203 → rd M 138 p162_3 = r225 → Tr l K 7 mX12_runs 314 [(0, (2, 120)), (3, (0, p298_3))] [] M (q_X12_runs_120 a1 M0) := by
                                          intro M  hS  k314_120_59 k314_120_62 k314_120_64 k314_120_68 k314_120_75 k314_120_79 k314_126_0 k314_136_0 k314_137_p162_310 k314_138_p162_310
                                          refine Tr.goto (pc := 314) (tgt := 162) d_X12_runs_314 rfl ?_
                                          refine Tr.pick [0, 1] (ls2 := [(0, (2, 120)), (3, (0, p298_3))]) rfl ?_
                                          have jr := rkf_b (rd M0 137 (0 + p298_3)) (a := p298_3) (by omega) (by omega)
                                          have jo := rkf_b (rd M0 137 (0 + p162_3)) (a := p162_3) (by omega) (by omega)
                                          exact J162 _ _ _ _ _ _ _ hS (by omega) (by omega) (by omega) (by omega) (by omega) (by omega) k314_120_59 k314_120_62 k314_120_64 k314_120_68 k314_120_75 k314_120_79 k314_126_0 k314_136_0 (by omega) (by omega) (by omega) (by omega) (by omega) (by omega)
                                        refine Tr.if_ne (pc := 300) (tgt := 314) d_X12_runs_300 rfl (fun c300 => ?_) (fun c300 => ?_)
                                        · refine Tr.pick [0, 1] (ls2 := [(0, (2, 120)), (3, (0, p298_3))]) rfl ?_
                                          exact J314 _ hS k298_120_59 k298_120_62 k298_120_64 k298_120_68 k298_120_75 k298_120_79 k298_126_0 k298_136_0 k298_137_p162_310 k298_138_p162_310
                                        · refine Tr.aload_n (pc := 303) (i := 0) d_X12_runs_303 rfl rfl ?_
                                          refine Tr.aload_n (pc := 304) (i := 0) d_X12_runs_304 rfl rfl ?_
                                          refine Tr.getf (pc := 305) d_X12_runs_305 f_12_100 (by decide) (by decide) (ty_120 hS.1.1) ?_
                                          refine Tr.tp 138 (fx_120_29 hS.1.1) ?_
                                          refine Tr.iload (pc := 308) (i := 4) d_X12_runs_308 rfl ?_
                                          refine Tr.iald (pc := 310) d_X12_runs_310 (ty_138 hS.1.1) (by omega) (by omega) ?_
                                          refine Tr.tp r225 k298_138_p162_310 ?_
                                          refine Tr.putfS (pc := 311) (P := St Tb0 ws_X12_runs_120 as_X12_runs_120 M0) d_X12_runs_311 f_12_267 (by decide) (by decide) (ty_120 hS.1.1) (st_120_84 hS (by decide) (by omega) (Tb0.of hS.1.2.2.2.2 (fun _ => rd_wb _ rfl) (rd_wb _ rfl))) (fun M311 hS w311 => ?_)
                                          refine Tr.pick [0, 1] (ls2 := [(0, (2, 120)), (3, (0, p298_3))]) rfl ?_
                                          exact J314 _ hS ((Wr.b w311 rfl).trans k298_120_59) ((Wr.b w311 rfl).trans k298_120_62) ((Wr.b w311 rfl).trans k298_120_64) ((Wr.b w311 rfl).trans k298_120_68) ((Wr.b w311 rfl).trans k298_120_75) ((Wr.b w311 rfl).trans k298_120_79) ((Wr.b w311 rfl).trans k298_126_0) ((Wr.b w311 rfl).trans k298_136_0) ((Wr.b w311 rfl).trans k298_137_p162_310) ((Wr.b w311 rfl).trans k298_138_p162_310)
                                      have J285 : ∀ (M : Mem), St Tb0 ws_X12_runs_120 as_X12_runs_120 M0 M → rd M 120 59 = u162_120_59 → rd M 120 61 = w226_120_61 → rd M 120 62 = s226_120_62 → rd M 120 64 = (-1) → rd M 120 68 = s226_120_68 → rd M 120 75 = u162_120_75 → rd M 120 79 = u162_120_79 → rd M 126 0 = g126_0 → rd M 136 0 = g136_0 → rd M 137 p162_3 = r203 → rd M 138 p162_3 = r225 → (s226_120_62 ≤ 2000) → (u162_120_59 = -1) → (0 ≤ (p162_3 + 1) ∧ (p162_3 + 1) ≤ 200) → ((r226 = 1 ∧ u162_120_75 + 1 ≤ s226_120_62 ∧ u162_120_79 + 1 ≤ s226_120_62 ∧ s226_120_62 = u162_120_62 + 1) ∨ (r226 = 0 ∧ u162_120_75 ≤ s226_120_62 ∧ u162_120_79 ≤ s226_120_62 ∧ 1 ≤ s226_120_68 ∧ s226_120_62 = u162_120_62)) → Tr l K 7 mX12_runs 285 [(0, (2, 120)), (3, (0, (p162_3 + 1))), (4, (0, p162_3)), (5, (0, r226))] [] M (q_X12_runs_120 a1 M0) := by
                                        intro M  hS  k285_120_59 k285_120_61 k285_120_62 k285_120_64 k285_120_68 k285_120_75 k285_120_79 k285_126_0 k285_136_0 k285_137_p162_310 k285_138_p162_310 t285_0 t285_1 t285_2 t285_3
                                        refine Tr.iload (pc := 285) (i := 5) d_X12_runs_285 rfl ?_
                                        refine Tr.if_eq (pc := 287) (tgt := 298) d_X12_runs_287 rfl (fun c287 => ?_) (fun c287 => ?_)
                                        · refine Tr.pick [0, 1, 2, 3] (ls2 := [(0, (2, 120)), (3, (0, (p162_3 + 1))), (4, (0, p162_3)), (5, (0, r226))]) rfl ?_
                                          exact J298 _ _ _ _ _ _ _ _ hS (by omega) (by omega) (by omega) (by omega) (by omega) (by omega) (by omega) k285_120_59 k285_120_62 k285_120_64 k285_120_68 k285_120_75 k285_120_79 k285_126_0 k285_136_0 k285_137_p162_310 k285_138_p162_310 (by omega) (by omega) (by omega) (by omega) (by first | assumption | omega)
                                        · refine Tr.aload_n (pc := 290) (i := 0) d_X12_runs_290 rfl rfl ?_
                                          refine Tr.iload (pc := 291) (i := 4) d_X12_runs_291 rfl ?_
                                          refine Tr.callV (pc := 293) (as := [_]) d_X12_runs_293 s_12_635 ok_X12_does rfl rfl (Nat.le_of_ble_eq_true rfl) (Nat.le_of_ble_eq_true rfl) (by decide) (ty_120 hS.1.1) ?_
                                          have kb293_120_59 : rd M 120 59 = u162_120_59 := k285_120_59
                                          have kb293_120_62 : rd M 120 62 = s226_120_62 := k285_120_62
                                          have kb293_120_75 : rd M 120 75 = u162_120_75 := k285_120_75
                                          have kb293_120_79 : rd M 120 79 = u162_120_79 := k285_120_79
                                          have kb293_136_0 : rd M 136 0 = g136_0 := k285_136_0
                                          have kp293_138 : rd M 138 p162_3 = r225 := k285_138_p162_310
                                          refine Tr.imp (Tr.deep (by decide) (sp_X12_does_120 hS.1 ((St.kp hS (by decide) (by decide) (by decide)).trans en_120_12) p162_3 (by omega) (by omega) (by omega) (by omega) (by omega) (by omega) (by omega) (Bk0.of hF_Bk0 (fun j => (St.ka hS (by decide) (by decide) (by decide))) (fun j => (St.ka hS (by decide) (by decide) (by decide))) (fun j => (St.ka hS (by decide) (by decide) (by decide))) (fun j => (St.ka hS (by decide) (by decide) (by decide))) (fun j => (St.ka hS (by decide) (by decide) (by decide))) (fun j => (St.ka hS (by decide) (by decide) (by decide))) (fun j => (St.ka hS (by decide) (by decide) (by decide))) (fun j => (St.ka hS (by decide) (by decide) (by decide))) (St.kp hS (by decide) (by decide) (by decide)) (St.kp hS (by decide) (by decide) (by decide)) (St.kp hS (by decide) (by decide) (by decide)) (St.kp hS (by decide) (by decide) (by decide))))) ?_
                                          rintro M293 _ ⟨h293, r293, rfl, lr293, ur293, z293_0, z293_1, z293_2, z293_3, z293_4⟩
                                          have hS := St.tr hS h293 (by decide) (by decide)
                                          obtain ⟨s293_120_59, es293_120_59⟩ : ∃ v, rd M293 120 59 = v := ⟨_, rfl⟩
                                          have bs293_120_59 : (-1) ≤ s293_120_59 ∧ s293_120_59 ≤ 5 := by rw [← es293_120_59]; exact ir_120_59 hS.1.2.1
                                          obtain ⟨s293_120_62, es293_120_62⟩ : ∃ v, rd M293 120 62 = v := ⟨_, rfl⟩
                                          have bs293_120_62 : 0 ≤ s293_120_62 ∧ s293_120_62 ≤ 2060 := by rw [← es293_120_62]; exact ir_120_62 hS.1.2.1
                                          obtain ⟨s293_120_68, es293_120_68⟩ : ∃ v, rd M293 120 68 = v := ⟨_, rfl⟩
                                          have bs293_120_68 : 0 ≤ s293_120_68 ∧ s293_120_68 ≤ 2 := by rw [← es293_120_68]; exact ir_120_68 hS.1.2.1
                                          obtain ⟨s293_120_75, es293_120_75⟩ : ∃ v, rd M293 120 75 = v := ⟨_, rfl⟩
                                          have bs293_120_75 : 0 ≤ s293_120_75 ∧ s293_120_75 ≤ 2100 := by rw [← es293_120_75]; exact ir_120_75 hS.1.2.1
                                          obtain ⟨s293_120_79, es293_120_79⟩ : ∃ v, rd M293 120 79 = v := ⟨_, rfl⟩
                                          have bs293_120_79 : 0 ≤ s293_120_79 ∧ s293_120_79 ≤ 2100 := by rw [← es293_120_79]; exact ir_120_79 hS.1.2.1
                                          refine Tr.sc [(0, r293)] rfl ?_
                                          refine Tr.istore (pc := 296) (i := 5) (ls2 := [(5, (0, r293)), (0, (2, 120)), (3, (0, (p162_3 + 1))), (4, (0, p162_3))]) d_X12_runs_296 (by decide) rfl ?_
                                          refine Tr.pick [1, 2, 3, 0] (ls2 := [(0, (2, 120)), (3, (0, (p162_3 + 1))), (4, (0, p162_3)), (5, (0, r293))]) rfl ?_
                                          exact J298 _ _ _ _ _ _ _ _ hS (by omega) (by omega) (by omega) (by omega) (by omega) (by omega) (by omega) es293_120_59 es293_120_62 ((St.kp h293 (by decide) (by decide) (by decide)).trans k285_120_64) es293_120_68 es293_120_75 es293_120_79 ((St.kp h293 (by decide) (by decide) (by decide)).trans k285_126_0) ((St.kp h293 (by decide) (by decide) (by decide)).trans k285_136_0) ((St.ka h293 (by decide) (by decide) (by decide)).trans k285_137_p162_310) ((St.ka h293 (by decide) (by decide) (by decide)).trans k285_138_p162_310) (by omega) (by omega) (by omega) (by omega) (by first | assumption | omega)
                                      refine Tr.if_eq (pc := 248) (tgt := 285) d_X12_runs_248 rfl (fun c248 => ?_) (fun c248 => ?_)
                                      · refine Tr.pick [0, 1, 2, 3] (ls2 := [(0, (2, 120)), (3, (0, (p162_3 + 1))), (4, (0, p162_3)), (5, (0, r226))]) rfl ?_
                                        exact J285 _ hS k246_120_59 k246_120_61 k246_120_62 k246_120_64 k246_120_68 k246_120_75 k246_120_79 k246_126_0 k246_136_0 k246_137_p162_310 k246_138_p162_310 (by omega) (by omega) (by omega) (by first | assumption | omega)
                                      · refine Tr.aload_n (pc := 251) (i := 0) d_X12_runs_251 rfl rfl ?_
                                        refine Tr.getf (pc := 252) d_X12_runs_252 f_12_97 (by decide) (by decide) (ty_120 hS.1.1) ?_
                                        refine Tr.tp 137 (fx_120_28 hS.1.1) ?_
                                        refine Tr.iload (pc := 255) (i := 4) d_X12_runs_255 rfl ?_
                                        refine Tr.iald (pc := 257) d_X12_runs_257 (ty_137 hS.1.1) (by omega) (by omega) ?_
                                        refine Tr.tp r203 k246_137_p162_310 ?_
                                        refine Tr.bipush (pc := 258) d_X12_runs_258 rfl (by decide) ?_
                                        refine Tr.icmp_lt (pc := 260) (tgt := 285) d_X12_runs_260 rfl (fun c260 => ?_) (fun c260 => ?_)
                                        · refine Tr.pick [0, 1, 2, 3] (ls2 := [(0, (2, 120)), (3, (0, (p162_3 + 1))), (4, (0, p162_3)), (5, (0, r226))]) rfl ?_
                                          exact J285 _ hS k246_120_59 k246_120_61 k246_120_62 k246_120_64 k246_120_68 k246_120_75 k246_120_79 k246_126_0 k246_136_0 k246_137_p162_310 k246_138_p162_310 (by omega) (by omega) (by omega) (by first | assumption | omega)
                                        · refine Tr.aload_n (pc := 263) (i := 0) d_X12_runs_263 rfl rfl ?_
                                          refine Tr.iload (pc := 264) (i := 4) d_X12_runs_264 rfl ?_
                                          refine Tr.callV (pc := 266) (as := [_]) d_X12_runs_266 s_12_614 ok_X12_works rfl rfl (Nat.le_of_ble_eq_true rfl) (Nat.le_of_ble_eq_true rfl) (by decide) (ty_120 hS.1.1) ?_
                                          have kb266_136_0 : rd M 136 0 = g136_0 := k246_136_0
                                          refine Tr.imp (Tr.deep (by decide) (sp_X12_works_120 hS.1.wk ((St.kp hS (by decide) (by decide) (by decide)).trans en_120_12) p162_3 (by omega) (by omega) (Bk0.of hF_Bk0 (fun j => (St.ka hS (by decide) (by decide) (by decide))) (fun j => (St.ka hS (by decide) (by decide) (by decide))) (fun j => (St.ka hS (by decide) (by decide) (by decide))) (fun j => (St.ka hS (by decide) (by decide) (by decide))) (fun j => (St.ka hS (by decide) (by decide) (by decide))) (fun j => (St.ka hS (by decide) (by decide) (by decide))) (fun j => (St.ka hS (by decide) (by decide) (by decide))) (fun j => (St.ka hS (by decide) (by decide) (by decide))) (St.kp hS (by decide) (by decide) (by decide)) (St.kp hS (by decide) (by decide) (by decide)) (St.kp hS (by decide) (by decide) (by decide)) (St.kp hS (by decide) (by decide) (by decide))))) ?_
                                          rintro M266 _ ⟨h266, r266, rfl, lr266, ur266⟩
                                          have h266 := St.rn h266 (Tb0.of hS.1.2.2.2.2 (fun _ => (St.ka h266 (by decide) (by decide) (by decide))) (St.kp h266 (by decide) (by decide) (by decide)))
                                          have hS := St.tr hS h266 (by decide) (by decide)
                                          refine Tr.sc [(1, r266)] rfl ?_
                                          refine Tr.lconst (pc := 269) (v := 0) d_X12_runs_269 rfl (by decide) ?_
                                          refine Tr.lcmp (pc := 270) d_X12_runs_270 ?_
                                          refine Tr.gen (P := fun v => (v = 1 ∧ 0 < r266) ∨ (v = 0 ∧ r266 = 0) ∨ (v = -1 ∧ r266 < 0)) (f_lcmp_c _ _) (fun r270 er270 br270 => ?_)
                                          refine Tr.if_ne (pc := 271) (tgt := 298) d_X12_runs_271 rfl (fun c271 => ?_) (fun c271 => ?_)
                                          · refine Tr.pick [0, 1, 2, 3] (ls2 := [(0, (2, 120)), (3, (0, (p162_3 + 1))), (4, (0, p162_3)), (5, (0, r226))]) rfl ?_
                                            exact J298 _ _ _ _ _ _ _ _ hS (by omega) (by omega) (by omega) (by omega) (by omega) (by omega) (by omega) ((St.kp h266 (by decide) (by decide) (by decide)).trans k246_120_59) ((St.kp h266 (by decide) (by decide) (by decide)).trans k246_120_62) ((St.kp h266 (by decide) (by decide) (by decide)).trans k246_120_64) ((St.kp h266 (by decide) (by decide) (by decide)).trans k246_120_68) ((St.kp h266 (by decide) (by decide) (by decide)).trans k246_120_75) ((St.kp h266 (by decide) (by decide) (by decide)).trans k246_120_79) ((St.kp h266 (by decide) (by decide) (by decide)).trans k246_126_0) ((St.kp h266 (by decide) (by decide) (by decide)).trans k246_136_0) ((St.ka h266 (by decide) (by decide) (by decide)).trans k246_137_p162_310) ((St.ka h266 (by decide) (by decide) (by decide)).trans k246_138_p162_310) (by omega) (by omega) (by omega) (by omega) (by first | assumption | omega)
                                          · refine Tr.aload_n (pc := 274) (i := 0) d_X12_runs_274 rfl rfl ?_
                                            refine Tr.getf (pc := 275) d_X12_runs_275 f_12_112 (by decide) (by decide) (ty_120 hS.1.1) ?_
                                            refine Tr.tp 142 (fx_120_33 hS.1.1) ?_
                                            refine Tr.iload (pc := 278) (i := 4) d_X12_runs_278 rfl ?_
                                            refine Tr.iald (pc := 280) d_X12_runs_280 (ty_142 hS.1.1) (by omega) (by omega) ?_
                                            refine Tr.gen (P := fun v => 0 ≤ v ∧ v ≤ 200) (ar_142 hS.1.2.1 _) (fun r280 er280 br280 => ?_)
                                            refine Tr.istore_n (pc := 281) (i := 3) (ls2 := [(3, (0, r280)), (0, (2, 120)), (4, (0, p162_3)), (5, (0, r226))]) d_X12_runs_281 rfl (by decide) rfl ?_
                                            refine Tr.goto (pc := 282) (tgt := 298) d_X12_runs_282 rfl ?_
                                            refine Tr.pick [1, 0, 2, 3] (ls2 := [(0, (2, 120)), (3, (0, r280)), (4, (0, p162_3)), (5, (0, r226))]) rfl ?_
                                            exact J298 _ _ _ _ _ _ _ _ hS (by omega) (by omega) (by omega) (by omega) (by omega) (by omega) (by omega) ((St.kp h266 (by decide) (by decide) (by decide)).trans k246_120_59) ((St.kp h266 (by decide) (by decide) (by decide)).trans k246_120_62) ((St.kp h266 (by decide) (by decide) (by decide)).trans k246_120_64) ((St.kp h266 (by decide) (by decide) (by decide)).trans k246_120_68) ((St.kp h266 (by decide) (by decide) (by decide)).trans k246_120_75) ((St.kp h266 (by decide) (by decide) (by decide)).trans k246_120_79) ((St.kp h266 (by decide) (by decide) (by decide)).trans k246_126_0) ((St.kp h266 (by decide) (by decide) (by decide)).trans k246_136_0) ((St.ka h266 (by decide) (by decide) (by decide)).trans k246_137_p162_310) ((St.ka h266 (by decide) (by decide) (by decide)).trans k246_138_p162_310) (by omega) (by omega) (by omega) (by omega) (by first | assumption | omega)
                                    refine Tr.if_eq (pc := 233) (tgt := 246) d_X12_runs_233 rfl (fun c233 => ?_) (fun c233 => ?_)
                                    · refine Tr.pick [3, 1, 2, 0] (ls2 := [(0, (2, 120)), (3, (0, (p162_3 + 1))), (4, (0, p162_3)), (5, (0, r226))]) rfl ?_
                                      exact J246 _ hS ((St.kp h226 (by decide) (by decide) (by decide)).trans k162_120_59) ((St.kp h226 (by decide) (by decide) (by decide)).trans ew226_120_61) es226_120_62 ((St.kp h226 (by decide) (by decide) (by decide)).trans k162_120_64) es226_120_68 ((St.kp h226 (by decide) (by decide) (by decide)).trans k162_120_75) ((St.kp h226 (by decide) (by decide) (by decide)).trans k162_120_79) ((St.kp h226 (by decide) (by decide) (by decide)).trans k162_126_0) ((St.kp h226 (by decide) (by decide) (by decide)).trans k162_136_0) ((St.ka h226 (by decide) (by decide) (by decide)).trans er203) ((St.ka h226 (by decide) (by decide) (by decide)).trans er225) (by omega) (by omega) (by omega) (by first | assumption | omega)
                                    · refine Tr.aload_n (pc := 236) (i := 0) d_X12_runs_236 rfl rfl ?_
                                      refine Tr.dup (pc := 237) d_X12_runs_237 ne21 ?_
                                      refine Tr.getf (pc := 238) d_X12_runs_238 f_12_216 (by decide) (by decide) (ty_120 hS.1.1) ?_
                                      refine Tr.gen (P := fun v => (-2147483648) ≤ v ∧ v ≤ 2147483647) (ir_120_67 hS.1.2.1) (fun r238 er238 br238 => ?_)
                                      refine Tr.iconst (pc := 241) d_X12_runs_241 (by decide) ?_
                                      refine Tr.iadd (pc := 242) d_X12_runs_242 ?_
                                      refine Tr.gen (P := fun v => (-2147483648) ≤ v ∧ v ≤ 2147483647) (w32_b _) (fun r242 er242 br242 => ?_)
                                      refine Tr.putfS (pc := 243) (P := St Tb0 ws_X12_runs_120 as_X12_runs_120 M0) d_X12_runs_243 f_12_216 (by decide) (by decide) (ty_120 hS.1.1) (st_120_67 hS (by decide) (by omega) (Tb0.of hS.1.2.2.2.2 (fun _ => rd_wb _ rfl) (rd_wb _ rfl))) (fun M243 hS w243 => ?_)
                                      refine Tr.pick [3, 1, 2, 0] (ls2 := [(0, (2, 120)), (3, (0, (p162_3 + 1))), (4, (0, p162_3)), (5, (0, r226))]) rfl ?_
                                      exact J246 _ hS ((Wr.b w243 rfl).trans ((St.kp h226 (by decide) (by decide) (by decide)).trans k162_120_59)) ((Wr.b w243 rfl).trans ((St.kp h226 (by decide) (by decide) (by decide)).trans ew226_120_61)) ((Wr.b w243 rfl).trans es226_120_62) ((Wr.b w243 rfl).trans ((St.kp h226 (by decide) (by decide) (by decide)).trans k162_120_64)) ((Wr.b w243 rfl).trans es226_120_68) ((Wr.b w243 rfl).trans ((St.kp h226 (by decide) (by decide) (by decide)).trans k162_120_75)) ((Wr.b w243 rfl).trans ((St.kp h226 (by decide) (by decide) (by decide)).trans k162_120_79)) ((Wr.b w243 rfl).trans ((St.kp h226 (by decide) (by decide) (by decide)).trans k162_126_0)) ((Wr.b w243 rfl).trans ((St.kp h226 (by decide) (by decide) (by decide)).trans k162_136_0)) ((Wr.b w243 rfl).trans ((St.ka h226 (by decide) (by decide) (by decide)).trans er203)) ((Wr.b w243 rfl).trans ((St.ka h226 (by decide) (by decide) (by decide)).trans er225)) (by omega) (by omega) (by omega) (by first | assumption | omega)
                                  · refine Tr.aload_n (pc := 207) (i := 0) d_X12_runs_207 rfl rfl ?_
                                    refine Tr.getf (pc := 208) d_X12_runs_208 f_12_112 (by decide) (by decide) (ty_120 hS.1.1) ?_
                                    refine Tr.tp 142 (fx_120_33 hS.1.1) ?_
                                    refine Tr.iload (pc := 211) (i := 4) d_X12_runs_211 rfl ?_
                                    refine Tr.iald (pc := 213) d_X12_runs_213 (ty_142 hS.1.1) (by omega) (by omega) ?_
                                    refine Tr.gen (P := fun v => 0 ≤ v ∧ v ≤ 200) (ar_142 hS.1.2.1 _) (fun r213 er213 br213 => ?_)
                                    refine Tr.istore_n (pc := 214) (i := 3) (ls2 := [(3, (0, r213)), (4, (0, p162_3)), (0, (2, 120))]) d_X12_runs_214 rfl (by decide) rfl ?_
                                    refine Tr.goto (pc := 215) (tgt := 162) d_X12_runs_215 rfl ?_
                                    refine Tr.pick [2, 0] (ls2 := [(0, (2, 120)), (3, (0, r213))]) rfl ?_
                                    have jr := rkf_b (rd M0 137 (0 + r213)) (a := r213) (by omega) (by omega)
                                    have jo := rkf_b (rd M0 137 (0 + p162_3)) (a := p162_3) (by omega) (by omega)
                                    have h7 : (0 : Int) + p162_3 = p162_3 := by omega
                                    have je : rd M0 137 (0 + p162_3) = 0 := by have h8 : rd M 137 (0 + p162_3) = rd M0 137 (0 + p162_3) := St.ka hS (by decide) (by decide) (by decide); rw [h7] at h8 ⊢; omega
                                    have jg : rd M0 142 (0 + p162_3) = r213 := by rw [h7]; exact (St.ka hS (by decide) (by decide) (by decide)).symm.trans er213
                                    have jj := Bk0_jm hF_Bk0 (k := p162_3) (by omega) (by omega) je jg
                                    exact J162 _ _ _ _ _ _ _ hS (by omega) (by omega) (by omega) (by omega) (by omega) (by omega) k162_120_59 k162_120_62 k162_120_64 k162_120_68 k162_120_75 k162_120_79 k162_126_0 k162_136_0 (by omega) (by omega) (by omega) (by omega) (by omega) (by omega)
                          refine Tr.pick [1, 0] (ls2 := [(0, (2, 120)), (3, (0, 0))]) rfl ?_
                          have jr := rkf_b (rd M0 137 (0 + 0)) (a := 0) (by omega) (by omega)
                          exact J162 _ _ _ _ _ _ _ _ hS (by omega) (by omega) (by omega) (by omega) (by omega) (by omega) ((Wr.b w157 rfl).trans ((Wr.b w152 rfl).trans ((Wr.b w147 rfl).trans ((Wr.b w142 rfl).trans ((Wr.b w137 rfl).trans ((Wr.b w132 rfl).trans ((Wr.b w127 rfl).trans ((Wr.b w122 rfl).trans ((Wr.b w117 rfl).trans ((Wr.b w112 rfl).trans ((Wr.b w107 rfl).trans k86_120_59))))))))))) ((Wr.b w157 rfl).trans ((Wr.b w152 rfl).trans ((Wr.b w147 rfl).trans ((Wr.b w142 rfl).trans ((Wr.b w137 rfl).trans ((Wr.b w132 rfl).trans ((Wr.b w127 rfl).trans ((Wr.b w122 rfl).trans ((Wr.b w117 rfl).trans ((Wr.b w112 rfl).trans w107.1)))))))))) ((Wr.b w157 rfl).trans ((Wr.b w152 rfl).trans ((Wr.b w147 rfl).trans ((Wr.b w142 rfl).trans ((Wr.b w137 rfl).trans ((Wr.b w132 rfl).trans ((Wr.b w127 rfl).trans ((Wr.b w122 rfl).trans w117.1)))))))) ((Wr.b w157 rfl).trans ((Wr.b w152 rfl).trans ((Wr.b w147 rfl).trans ((Wr.b w142 rfl).trans w137.1)))) ((Wr.b w157 rfl).trans w152.1) w157.1 ((Wr.b w157 rfl).trans ((Wr.b w152 rfl).trans ((Wr.b w147 rfl).trans ((Wr.b w142 rfl).trans ((Wr.b w137 rfl).trans ((Wr.b w132 rfl).trans ((Wr.b w127 rfl).trans ((Wr.b w122 rfl).trans ((Wr.b w117 rfl).trans ((Wr.b w112 rfl).trans ((Wr.b w107 rfl).trans k86_126_0))))))))))) ((Wr.b w157 rfl).trans ((Wr.b w152 rfl).trans ((Wr.b w147 rfl).trans ((Wr.b w142 rfl).trans ((Wr.b w137 rfl).trans ((Wr.b w132 rfl).trans ((Wr.b w127 rfl).trans ((Wr.b w122 rfl).trans ((Wr.b w117 rfl).trans ((Wr.b w112 rfl).trans ((Wr.b w107 rfl).trans k86_136_0))))))))))) (by omega) (by omega) (by omega) (by omega) (by omega) (Nat.lt_succ_self _)
                        · refine Tr.aload_n (pc := 92) (i := 0) d_X12_runs_92 rfl rfl ?_
                          refine Tr.getf (pc := 93) d_X12_runs_93 f_12_222 (by decide) (by decide) (ty_120 hS.1.1) ?_
                          refine Tr.tp 161 (fx_120_69 hS.1.1) ?_
                          refine Tr.iload_n (pc := 96) (i := 3) d_X12_runs_96 rfl rfl ?_
                          refine Tr.iconst (pc := 97) d_X12_runs_97 (by decide) ?_
                          refine Tr.iastS (pc := 98) (P := St Tb0 ws_X12_runs_120 as_X12_runs_120 M0) d_X12_runs_98 (ty_161 hS.1.1) (by omega) (by omega) (sa_161 hS (by decide) (by omega) (Tb0.of hS.1.2.2.2.2 (fun _ => rd_wb _ rfl) (rd_wb _ rfl))) (fun M98 hS w98 => ?_)
                          refine Tr.iincV (pc := 99) (n2 := (p86_3 + 1)) (ls2 := [(3, (0, (p86_3 + 1))), (0, (2, 120)), (1, (1, a1))]) d_X12_runs_99 rfl (by decide) ((w32_id (by omega)).trans (by omega)) rfl ?_
                          refine Tr.goto (pc := 102) (tgt := 86) d_X12_runs_102 rfl ?_
                          refine Tr.pick [1, 2, 0] (ls2 := [(0, (2, 120)), (1, (1, a1)), (3, (0, (p86_3 + 1)))]) rfl ?_
                          exact J86 _ _ hS (by omega) ((Wr.b w98 rfl).trans k86_120_59) ((Wr.b w98 rfl).trans k86_120_62) ((Wr.b w98 rfl).trans k86_120_68) ((Wr.b w98 rfl).trans k86_120_75) ((Wr.b w98 rfl).trans k86_120_79) ((Wr.b w98 rfl).trans k86_126_0) ((Wr.b w98 rfl).trans k86_136_0) (by omega) (by omega)
                    refine Tr.pick [1, 2, 0] (ls2 := [(0, (2, 120)), (1, (1, a1)), (3, (0, 0))]) rfl ?_
                    exact J86 _ _ _ hS (by omega) k65_120_59 k65_120_62 k65_120_68 k65_120_75 k65_120_79 k65_126_0 k65_136_0 (by omega) (Nat.lt_succ_self _)
                  · refine Tr.aload_n (pc := 71) (i := 0) d_X12_runs_71 rfl rfl ?_
                    refine Tr.getf (pc := 72) d_X12_runs_72 f_12_189 (by decide) (by decide) (ty_120 hS.1.1) ?_
                    refine Tr.tp 160 (fx_120_58 hS.1.1) ?_
                    refine Tr.iload_n (pc := 75) (i := 3) d_X12_runs_75 rfl rfl ?_
                    refine Tr.iconst (pc := 76) d_X12_runs_76 (by decide) ?_
                    refine Tr.iastS (pc := 77) (P := St Tb0 ws_X12_runs_120 as_X12_runs_120 M0) d_X12_runs_77 (ty_160 hS.1.1) (by omega) (by omega) (sa_160 hS (by decide) (by omega) (Tb0.of hS.1.2.2.2.2 (fun _ => rd_wb _ rfl) (rd_wb _ rfl))) (fun M77 hS w77 => ?_)
                    refine Tr.iincV (pc := 78) (n2 := (p65_3 + 1)) (ls2 := [(3, (0, (p65_3 + 1))), (0, (2, 120)), (1, (1, a1))]) d_X12_runs_78 rfl (by decide) ((w32_id (by omega)).trans (by omega)) rfl ?_
                    refine Tr.goto (pc := 81) (tgt := 65) d_X12_runs_81 rfl ?_
                    refine Tr.pick [1, 2, 0] (ls2 := [(0, (2, 120)), (1, (1, a1)), (3, (0, (p65_3 + 1)))]) rfl ?_
                    exact J65 _ _ hS (by omega) ((Wr.b w77 rfl).trans k65_120_59) ((Wr.b w77 rfl).trans k65_120_62) ((Wr.b w77 rfl).trans k65_120_68) ((Wr.b w77 rfl).trans k65_120_75) ((Wr.b w77 rfl).trans k65_120_79) ((Wr.b w77 rfl).trans k65_126_0) ((Wr.b w77 rfl).trans k65_136_0) (by omega) (by omega)
              refine Tr.pick [1, 2, 0] (ls2 := [(0, (2, 120)), (1, (1, a1)), (3, (0, 0))]) rfl ?_
              exact J65 _ _ _ hS (by omega) k23_120_59 k23_120_62 k23_120_68 k23_120_75 k23_120_79 k23_126_0 k23_136_0 (by omega) (Nat.lt_succ_self _)
            · refine Tr.aload_n (pc := 29) (i := 0) d_X12_runs_29 rfl rfl ?_
              refine Tr.getf (pc := 30) d_X12_runs_30 f_12_177 (by decide) (by decide) (ty_120 hS.1.1) ?_
              refine Tr.tp 156 (fx_120_54 hS.1.1) ?_
              refine Tr.iload_n (pc := 33) (i := 3) d_X12_runs_33 rfl rfl ?_
              refine Tr.iconst (pc := 34) d_X12_runs_34 (by decide) ?_
              refine Tr.zastS (pc := 35) (P := St Tru ws_X12_runs_120 as_X12_runs_120 M0) d_X12_runs_35 (ty_156 hS.1.1) (by omega) (by omega) (by omega) (sa_156 hS (by decide) (by omega) trivial) (fun M35 hS w35 => ?_)
              refine Tr.aload_n (pc := 36) (i := 0) d_X12_runs_36 rfl rfl ?_
              refine Tr.getf (pc := 37) d_X12_runs_37 f_12_180 (by decide) (by decide) (ty_120 hS.1.1) ?_
              refine Tr.tp 157 (fx_120_55 hS.1.1) ?_
              refine Tr.iload_n (pc := 40) (i := 3) d_X12_runs_40 rfl rfl ?_
              refine Tr.iconst (pc := 41) d_X12_runs_41 (by decide) ?_
              refine Tr.iastS (pc := 42) (P := St Tru ws_X12_runs_120 as_X12_runs_120 M0) d_X12_runs_42 (ty_157 hS.1.1) (by omega) (by omega) (sa_157 hS (by decide) (by omega) trivial) (fun M42 hS w42 => ?_)
              refine Tr.aload_n (pc := 43) (i := 0) d_X12_runs_43 rfl rfl ?_
              refine Tr.getf (pc := 44) d_X12_runs_44 f_12_183 (by decide) (by decide) (ty_120 hS.1.1) ?_
              refine Tr.tp 158 (fx_120_56 hS.1.1) ?_
              refine Tr.iload_n (pc := 47) (i := 3) d_X12_runs_47 rfl rfl ?_
              refine Tr.iconst (pc := 48) d_X12_runs_48 (by decide) ?_
              refine Tr.iastS (pc := 49) (P := St Tru ws_X12_runs_120 as_X12_runs_120 M0) d_X12_runs_49 (ty_158 hS.1.1) (by omega) (by omega) (sa_158 hS (by decide) (by omega) trivial) (fun M49 hS w49 => ?_)
              refine Tr.aload_n (pc := 50) (i := 0) d_X12_runs_50 rfl rfl ?_
              refine Tr.getf (pc := 51) d_X12_runs_51 f_12_186 (by decide) (by decide) (ty_120 hS.1.1) ?_
              refine Tr.tp 159 (fx_120_57 hS.1.1) ?_
              refine Tr.iload_n (pc := 54) (i := 3) d_X12_runs_54 rfl rfl ?_
              refine Tr.iconst (pc := 55) d_X12_runs_55 (by decide) ?_
              refine Tr.iastS (pc := 56) (P := St Tru ws_X12_runs_120 as_X12_runs_120 M0) d_X12_runs_56 (ty_159 hS.1.1) (by omega) (by omega) (sa_159 hS (by decide) (by omega) trivial) (fun M56 hS w56 => ?_)
              refine Tr.iincV (pc := 57) (n2 := (p23_3 + 1)) (ls2 := [(3, (0, (p23_3 + 1))), (0, (2, 120)), (1, (1, a1))]) d_X12_runs_57 rfl (by decide) ((w32_id (by omega)).trans (by omega)) rfl ?_
              refine Tr.goto (pc := 60) (tgt := 23) d_X12_runs_60 rfl ?_
              refine Tr.pick [1, 2, 0] (ls2 := [(0, (2, 120)), (1, (1, a1)), (3, (0, (p23_3 + 1)))]) rfl ?_
              exact J23 _ _ hS (by omega) ((Wr.b w56 rfl).trans ((Wr.b w49 rfl).trans ((Wr.b w42 rfl).trans ((Wr.b w35 rfl).trans k23_120_59)))) ((Wr.b w56 rfl).trans ((Wr.b w49 rfl).trans ((Wr.b w42 rfl).trans ((Wr.b w35 rfl).trans k23_120_62)))) ((Wr.b w56 rfl).trans ((Wr.b w49 rfl).trans ((Wr.b w42 rfl).trans ((Wr.b w35 rfl).trans k23_120_68)))) ((Wr.b w56 rfl).trans ((Wr.b w49 rfl).trans ((Wr.b w42 rfl).trans ((Wr.b w35 rfl).trans k23_120_75)))) ((Wr.b w56 rfl).trans ((Wr.b w49 rfl).trans ((Wr.b w42 rfl).trans ((Wr.b w35 rfl).trans k23_120_79)))) ((Wr.b w56 rfl).trans ((Wr.b w49 rfl).trans ((Wr.b w42 rfl).trans ((Wr.b w35 rfl).trans k23_126_0)))) ((Wr.b w56 rfl).trans ((Wr.b w49 rfl).trans ((Wr.b w42 rfl).trans ((Wr.b w35 rfl).trans k23_136_0)))) (by omega) (fun p p0 p1 => by rw [Wr.b w56 rfl]; by_cases c : p = p23_3; (rw [c, w49.1]; omega); (rw [w49.2 _ _ (fun d => c d.2), Wr.b w42 rfl, Wr.b w35 rfl]; exact tp23_0 p p0 (by omega))) (by omega)
        refine Tr.pick [1, 2, 0] (ls2 := [(0, (2, 120)), (1, (1, a1)), (3, (0, 0))]) rfl ?_
        exact J23 _ _ _ hS (by omega) k2_120_59 k2_120_62 k2_120_68 k2_120_75 k2_120_79 k2_126_0 k2_136_0 (by omega) (fun p p0 p1 => absurd p1 (by omega)) (Nat.lt_succ_self _)
      · refine Tr.aload_n (pc := 8) (i := 0) d_X12_runs_8 rfl rfl ?_
        refine Tr.getf (pc := 9) d_X12_runs_9 f_12_174 (by decide) (by decide) (ty_120 hS.1.1) ?_
        refine Tr.tp 155 (fx_120_53 hS.1.1) ?_
        refine Tr.iload_n (pc := 12) (i := 3) d_X12_runs_12 rfl rfl ?_
        refine Tr.iconst (pc := 13) d_X12_runs_13 (by decide) ?_
        refine Tr.iastS (pc := 14) (P := St Tru ws_X12_runs_120 as_X12_runs_120 M0) d_X12_runs_14 (ty_155 hS.1.1) (by omega) (by omega) (sa_155 hS (by decide) (by omega) trivial) (fun M14 hS w14 => ?_)
        refine Tr.iincV (pc := 15) (n2 := (p2_3 + 1)) (ls2 := [(3, (0, (p2_3 + 1))), (0, (2, 120)), (1, (1, a1))]) d_X12_runs_15 rfl (by decide) ((w32_id (by omega)).trans (by omega)) rfl ?_
        refine Tr.goto (pc := 18) (tgt := 2) d_X12_runs_18 rfl ?_
        refine Tr.pick [1, 2, 0] (ls2 := [(0, (2, 120)), (1, (1, a1)), (3, (0, (p2_3 + 1)))]) rfl ?_
        exact J2 _ _ hS (by omega) ((Wr.b w14 rfl).trans k2_120_59) ((Wr.b w14 rfl).trans k2_120_62) ((Wr.b w14 rfl).trans k2_120_68) ((Wr.b w14 rfl).trans k2_120_75) ((Wr.b w14 rfl).trans k2_120_79) ((Wr.b w14 rfl).trans k2_126_0) ((Wr.b w14 rfl).trans k2_136_0) (by omega) (by omega)
  refine Tr.pick [1, 2, 0] (ls2 := [(0, (2, 120)), (1, (1, a1)), (3, (0, 0))]) rfl ?_
  exact J2 _ _ _ hS (by omega) eg120_59 eg120_62 eg120_68 eg120_75 eg120_79 eg126_0 eg136_0 (by omega) (Nat.lt_succ_self _)
end
/-! 36.06 -/
section
def ws_X12_fit_120 : List (Int × Int) := [(120, 59), (120, 60), (120, 61), (120, 62), (120, 63), (120, 64), (120, 65), (120, 66), (120, 67), (120, 68), (120, 75), (120, 79), (120, 84), (120, 109)]
def as_X12_fit_120 : List Int := [154, 155, 156, 157, 158, 159, 160, 161, 162, 163, 164, 165, 166, 167, 168, 169, 170, 171, 172, 182, 183, 184]
def q_X12_fit_120 (a1 : Int) (M0 M' : Mem) (r : Option PV) : Prop := St Tru ws_X12_fit_120 as_X12_fit_120 M0 M' ∧ ∃ v : Int, r = some (0, v) ∧ (-2147483648) ≤ v ∧ v ≤ 2147483647 ∧ (rd M' 120 59 = -1)
set_option maxRecDepth 100000 in
set_option maxHeartbeats 4000000 in
theorem sp_X12_fit_120 {l : Launch} {K : EC} {M0 : Mem} (hI : In Tru M0) (en_120_12 : rd M0 120 12 = 0) (a1 : Int) (ha1 : (-2147483648) ≤ a1 ∧ a1 ≤ 2147483647)  (hq0 : rd M0 120 59 = -1) (hF_Bk0 : Bk0 M0) : Tr l K 8 mX12_fit 0 [(0, (2, 120)), (1, (0, a1))] [] M0 (q_X12_fit_120 a1 M0) := by
  have hS : St Tru ws_X12_fit_120 as_X12_fit_120 M0 M0 := St.rf hI
  obtain ⟨g120_59, eg120_59⟩ : ∃ v, rd M0 120 59 = v := ⟨_, rfl⟩
  have bg120_59 : (-1) ≤ g120_59 ∧ g120_59 ≤ 5 := by rw [← eg120_59]; exact ir_120_59 hI.2.1
  refine Tr.aload_n (pc := 0) (i := 0) d_X12_fit_0 rfl rfl ?_
  refine Tr.iload_n (pc := 1) (i := 1) d_X12_fit_1 rfl rfl ?_
  refine Tr.callV (pc := 2) (as := [_]) d_X12_fit_2 s_12_555 ok_X12_isPart rfl rfl (Nat.le_of_ble_eq_true rfl) (Nat.le_of_ble_eq_true rfl) (by decide) (ty_120 hS.1.1) ?_
  refine Tr.imp (Tr.deep (by decide) (sp_X12_isPart_120 hS.1 ((St.kp hS (by decide) (by decide) (by decide)).trans en_120_12) a1 (by omega))) ?_
  rintro M2 _ ⟨h2, r2, rfl, lr2, ur2, z2_0⟩
  have hS := St.tr hS h2 (by decide) (by decide)
  obtain ⟨w2_126_0, ew2_126_0⟩ : ∃ v, rd M2 126 0 = v := ⟨_, rfl⟩
  have bw2_126_0 : 0 ≤ w2_126_0 ∧ w2_126_0 ≤ 6 := by rw [← ew2_126_0]; exact ir_126_0 hS.1.2.1
  have ka2_126_0 : rd M2 126 0 = w2_126_0 := ew2_126_0
  refine Tr.sc [(0, r2)] rfl ?_
  refine Tr.if_eq (pc := 5) (tgt := 15) d_X12_fit_5 rfl (fun c5 => ?_) (fun c5 => ?_)
  · refine Tr.iconst (pc := 15) d_X12_fit_15 (by decide) ?_
    have kr_120_59 : rd M2 120 59 = g120_59 := ((St.kp h2 (by decide) (by decide) (by decide)).trans eg120_59)
    exact Tr.iret (pc := 16) d_X12_fit_16 rfl ⟨hS, _, rfl, by omega, by omega, by omega⟩
  · refine Tr.aload_n (pc := 8) (i := 0) d_X12_fit_8 rfl rfl ?_
    refine Tr.getf (pc := 9) d_X12_fit_9 f_12_333 (by decide) (by decide) (ty_120 hS.1.1) ?_
    refine Tr.gen (P := fun v => 0 ≤ v ∧ v ≤ 12) (ir_120_106 hS.1.2.1) (fun r9 er9 br9 => ?_)
    refine Tr.if_ne (pc := 12) (tgt := 17) d_X12_fit_12 rfl (fun c12 => ?_) (fun c12 => ?_)
    · refine Tr.iconst (pc := 17) d_X12_fit_17 (by decide) ?_
      refine Tr.istore_n (pc := 18) (i := 2) (ls2 := [(2, (0, 0)), (0, (2, 120)), (1, (0, a1))]) d_X12_fit_18 rfl (by decide) rfl ?_
      have J19 : ∀ (n19 : Nat) (M : Mem) (p19_2 u19_120_59 : Int), St Tru ws_X12_fit_120 as_X12_fit_120 M0 M → (0 ≤ p19_2 ∧ p19_2 ≤ 12) → ((-1) ≤ u19_120_59 ∧ u19_120_59 ≤ 5) → rd M 120 106 = r9 → rd M 120 59 = u19_120_59 → rd M 126 0 = w2_126_0 → (u19_120_59 = -1) → (12 - p19_2).toNat < n19 → Tr l K 8 mX12_fit 19 [(0, (2, 120)), (1, (0, a1)), (2, (0, p19_2))] [] M (q_X12_fit_120 a1 M0) := by
        intro n19
        induction n19 with
        | zero => intro M p19_2 u19_120_59 hS bp19_2 bu19_120_59 k19_120_106 k19_120_59 k19_126_0 t19_0 hm19; exact absurd hm19 (Nat.not_lt_zero _)
        | succ n19 J19 =>
          intro M p19_2 u19_120_59 hS bp19_2 bu19_120_59 k19_120_106 k19_120_59 k19_126_0 t19_0 hm19
          refine Tr.iload_n (pc := 19) (i := 2) d_X12_fit_19 rfl rfl ?_
          refine Tr.aload_n (pc := 20) (i := 0) d_X12_fit_20 rfl rfl ?_
          refine Tr.getf (pc := 21) d_X12_fit_21 f_12_333 (by decide) (by decide) (ty_120 hS.1.1) ?_
          refine Tr.tp r9 k19_120_106 ?_
          refine Tr.icmp_ge (pc := 24) (tgt := 196) d_X12_fit_24 rfl (fun c24 => ?_) (fun c24 => ?_)
          · refine Tr.lconst (pc := 196) (v := 0) d_X12_fit_196 rfl (by decide) ?_
            refine Tr.lstore_n (pc := 197) (i := 2) (ls2 := [(2, (1, 0)), (0, (2, 120)), (1, (0, a1))]) d_X12_fit_197 rfl (by decide) rfl ?_
            refine Tr.aload_n (pc := 198) (i := 0) d_X12_fit_198 rfl rfl ?_
            refine Tr.getf (pc := 199) d_X12_fit_199 f_12_345 (by decide) (by decide) (ty_120 hS.1.1) ?_
            refine Tr.tp 182 (fx_120_110 hS.1.1) ?_
            refine Tr.iconst (pc := 202) d_X12_fit_202 (by decide) ?_
            refine Tr.iconst (pc := 203) d_X12_fit_203 (by decide) ?_
            refine Tr.iastS (pc := 204) (P := St Tru ws_X12_fit_120 as_X12_fit_120 M0) d_X12_fit_204 (ty_182 hS.1.1) (by omega) (by omega) (sa_182 hS (by decide) (by omega) trivial) (fun M204 hS w204 => ?_)
            refine Tr.iconst (pc := 205) d_X12_fit_205 (by decide) ?_
            refine Tr.istore (pc := 206) (i := 4) (ls2 := [(4, (0, 0)), (2, (1, 0)), (0, (2, 120)), (1, (0, a1))]) d_X12_fit_206 (by decide) rfl ?_
            have J208 : ∀ (n208 : Nat) (M : Mem) (p208_2 p208_4 : Int), St Tru ws_X12_fit_120 as_X12_fit_120 M0 M → ((-9223372036854775808) ≤ p208_2 ∧ p208_2 ≤ 9223372036854775807) → (0 ≤ p208_4 ∧ p208_4 ≤ 4097) → rd M 120 106 = r9 → rd M 120 59 = u19_120_59 → rd M 126 0 = w2_126_0 → (u19_120_59 = -1) → (4097 - p208_4).toNat < n208 → Tr l K 8 mX12_fit 208 [(0, (2, 120)), (2, (1, p208_2)), (4, (0, p208_4))] [] M (q_X12_fit_120 a1 M0) := by
              intro n208
              induction n208 with
              | zero => intro M p208_2 p208_4 hS bp208_2 bp208_4 k208_120_106 k208_120_59 k208_126_0 t208_0 hm208; exact absurd hm208 (Nat.not_lt_zero _)
              | succ n208 J208 =>
                intro M p208_2 p208_4 hS bp208_2 bp208_4 k208_120_106 k208_120_59 k208_126_0 t208_0 hm208
                refine Tr.iload (pc := 208) (i := 4) d_X12_fit_208 rfl ?_
                refine Tr.sipush (pc := 210) d_X12_fit_210 rfl (by decide) ?_
                refine Tr.icmp_ge (pc := 213) (tgt := 431) d_X12_fit_213 rfl (fun c213 => ?_) (fun c213 => ?_)
                · refine Tr.aload_n (pc := 431) (i := 0) d_X12_fit_431 rfl rfl ?_
                  refine Tr.iconst (pc := 432) d_X12_fit_432 (by decide) ?_
                  refine Tr.putzS (pc := 433) (P := St Tru ws_X12_fit_120 as_X12_fit_120 M0) d_X12_fit_433 f_12_342 (by decide) (ty_120 hS.1.1) (by omega) (st_120_109 hS (by decide) (by omega) trivial) (fun M433 hS w433 => ?_)
                  refine Tr.lload_n (pc := 436) (i := 2) d_X12_fit_436 rfl rfl ?_
                  refine Tr.l2i (pc := 437) d_X12_fit_437 ?_
                  refine Tr.gen (P := fun v => (-2147483648) ≤ v ∧ v ≤ 2147483647) (w32_b _) (fun r437 er437 br437 => ?_)
                  have kr_120_59 : rd M433 120 59 = u19_120_59 := ((Wr.b w433 rfl).trans k208_120_59)
                  exact Tr.iret (pc := 438) d_X12_fit_438 rfl ⟨hS, _, rfl, by omega, by omega, by omega⟩
                · refine Tr.lconst (pc := 216) (v := 0) d_X12_fit_216 rfl (by decide) ?_
                  refine Tr.lstore (pc := 217) (i := 5) (ls2 := [(5, (1, 0)), (0, (2, 120)), (2, (1, p208_2)), (4, (0, p208_4))]) d_X12_fit_217 (by decide) rfl ?_
                  refine Tr.iconst (pc := 219) d_X12_fit_219 (by decide) ?_
                  refine Tr.istore (pc := 220) (i := 7) (ls2 := [(7, (0, 0)), (5, (1, 0)), (0, (2, 120)), (2, (1, p208_2)), (4, (0, p208_4))]) d_X12_fit_220 (by decide) rfl ?_
                  have J222 : ∀ (n222 : Nat) (M : Mem) (p222_5 p222_7 : Int), St Tru ws_X12_fit_120 as_X12_fit_120 M0 M → ((-9223372036854775808) ≤ p222_5 ∧ p222_5 ≤ 9223372036854775807) → (0 ≤ p222_7 ∧ p222_7 ≤ 12) → (0 ≤ p208_4 ∧ p208_4 ≤ 4096) → rd M 120 106 = r9 → rd M 120 59 = u19_120_59 → rd M 126 0 = w2_126_0 → (u19_120_59 = -1) → (12 - p222_7).toNat < n222 → Tr l K 8 mX12_fit 222 [(0, (2, 120)), (2, (1, p208_2)), (4, (0, p208_4)), (5, (1, p222_5)), (7, (0, p222_7))] [] M (q_X12_fit_120 a1 M0) := by
                    intro n222
                    induction n222 with
                    | zero => intro M p222_5 p222_7 hS bp222_5 bp222_7 z222p208_4 k222_120_106 k222_120_59 k222_126_0 t222_0 hm222; exact absurd hm222 (Nat.not_lt_zero _)
                    | succ n222 J222 =>
                      intro M p222_5 p222_7 hS bp222_5 bp222_7 z222p208_4 k222_120_106 k222_120_59 k222_126_0 t222_0 hm222
                      refine Tr.iload (pc := 222) (i := 7) d_X12_fit_222 rfl ?_
                      refine Tr.aload_n (pc := 224) (i := 0) d_X12_fit_224 rfl rfl ?_
                      refine Tr.getf (pc := 225) d_X12_fit_225 f_12_333 (by decide) (by decide) (ty_120 hS.1.1) ?_
                      refine Tr.tp r9 k222_120_106 ?_
                      refine Tr.icmp_ge (pc := 228) (tgt := 335) d_X12_fit_228 rfl (fun c228 => ?_) (fun c228 => ?_)
                      · refine Tr.aload_n (pc := 335) (i := 0) d_X12_fit_335 rfl rfl ?_
                        refine Tr.getf (pc := 336) d_X12_fit_336 f_12_345 (by decide) (by decide) (ty_120 hS.1.1) ?_
                        refine Tr.tp 182 (fx_120_110 hS.1.1) ?_
                        refine Tr.iconst (pc := 339) d_X12_fit_339 (by decide) ?_
                        refine Tr.iald (pc := 340) d_X12_fit_340 (ty_182 hS.1.1) (by omega) (by omega) ?_
                        refine Tr.gen (P := fun v => (-2147483648) ≤ v ∧ v ≤ 2147483647) (ar_182 hS.1.2.1 _) (fun r340 er340 br340 => ?_)
                        have J361 : ∀ (M : Mem), St Tru ws_X12_fit_120 as_X12_fit_120 M0 M → rd M 120 106 = r9 → rd M 120 59 = u19_120_59 → rd M 126 0 = w2_126_0 → (u19_120_59 = -1) → Tr l K 8 mX12_fit 361 [(0, (2, 120)), (2, (1, p208_2)), (4, (0, p208_4)), (5, (1, p222_5))] [] M (q_X12_fit_120 a1 M0) := by
                          intro M  hS  k361_120_106 k361_120_59 k361_126_0 t361_0
                          refine Tr.aload_n (pc := 361) (i := 0) d_X12_fit_361 rfl rfl ?_
                          refine Tr.getf (pc := 362) d_X12_fit_362 f_12_345 (by decide) (by decide) (ty_120 hS.1.1) ?_
                          refine Tr.tp 182 (fx_120_110 hS.1.1) ?_
                          refine Tr.iconst (pc := 365) d_X12_fit_365 (by decide) ?_
                          refine Tr.iald (pc := 366) d_X12_fit_366 (ty_182 hS.1.1) (by omega) (by omega) ?_
                          refine Tr.gen (P := fun v => (-2147483648) ≤ v ∧ v ≤ 2147483647) (ar_182 hS.1.2.1 _) (fun r366 er366 br366 => ?_)
                          have J425 : ∀ (M : Mem) (p425_2 : Int), St Tru ws_X12_fit_120 as_X12_fit_120 M0 M → ((-9223372036854775808) ≤ p425_2 ∧ p425_2 ≤ 9223372036854775807) → rd M 120 106 = r9 → rd M 120 59 = u19_120_59 → rd M 126 0 = w2_126_0 → (u19_120_59 = -1) → Tr l K 8 mX12_fit 425 [(0, (2, 120)), (2, (1, p425_2)), (4, (0, p208_4))] [] M (q_X12_fit_120 a1 M0) := by
                            intro M p425_2 hS bp425_2 k425_120_106 k425_120_59 k425_126_0 t425_0
                            refine Tr.iincV (pc := 425) (n2 := (p208_4 + 1)) (ls2 := [(4, (0, (p208_4 + 1))), (0, (2, 120)), (2, (1, p425_2))]) d_X12_fit_425 rfl (by decide) ((w32_id (by omega)).trans (by omega)) rfl ?_
                            refine Tr.goto (pc := 428) (tgt := 208) d_X12_fit_428 rfl ?_
                            refine Tr.pick [1, 2, 0] (ls2 := [(0, (2, 120)), (2, (1, p425_2)), (4, (0, (p208_4 + 1)))]) rfl ?_
                            exact J208 _ _ _ hS (by omega) (by omega) k425_120_106 k425_120_59 k425_126_0 (by omega) (by omega)
                          have J380 : ∀ (M : Mem), St Tru ws_X12_fit_120 as_X12_fit_120 M0 M → rd M 120 106 = r9 → rd M 120 59 = u19_120_59 → rd M 126 0 = w2_126_0 → rd M 182 3 = r366 → (u19_120_59 = -1) → Tr l K 8 mX12_fit 380 [(0, (2, 120)), (4, (0, p208_4)), (5, (1, p222_5))] [] M (q_X12_fit_120 a1 M0) := by
                            intro M  hS  k380_120_106 k380_120_59 k380_126_0 k380_182_3 t380_0
                            refine Tr.lload (pc := 380) (i := 5) d_X12_fit_380 rfl ?_
                            refine Tr.lstore_n (pc := 382) (i := 2) (ls2 := [(2, (1, p222_5)), (0, (2, 120)), (4, (0, p208_4)), (5, (1, p222_5))]) d_X12_fit_382 rfl (by decide) rfl ?_
                            refine Tr.aload_n (pc := 383) (i := 0) d_X12_fit_383 rfl rfl ?_
                            refine Tr.getf (pc := 384) d_X12_fit_384 f_12_345 (by decide) (by decide) (ty_120 hS.1.1) ?_
                            refine Tr.tp 182 (fx_120_110 hS.1.1) ?_
                            refine Tr.iconst (pc := 387) d_X12_fit_387 (by decide) ?_
                            refine Tr.iload (pc := 388) (i := 4) d_X12_fit_388 rfl ?_
                            refine Tr.bipush (pc := 390) d_X12_fit_390 rfl (by decide) ?_
                            refine Tr.ishr (pc := 392) d_X12_fit_392 ?_
                            refine Tr.gen (P := fun v => (-2147483648) ≤ v ∧ v ≤ 2147483647) (i32_b _) (fun r392 er392 br392 => ?_)
                            refine Tr.iastS (pc := 393) (P := St Tru ws_X12_fit_120 as_X12_fit_120 M0) d_X12_fit_393 (ty_182 hS.1.1) (by omega) (by omega) (sa_182 hS (by decide) (by omega) trivial) (fun M393 hS w393 => ?_)
                            refine Tr.aload_n (pc := 394) (i := 0) d_X12_fit_394 rfl rfl ?_
                            refine Tr.getf (pc := 395) d_X12_fit_395 f_12_345 (by decide) (by decide) (ty_120 hS.1.1) ?_
                            refine Tr.tp 182 (fx_120_110 hS.1.1) ?_
                            refine Tr.iconst (pc := 398) d_X12_fit_398 (by decide) ?_
                            refine Tr.iload (pc := 399) (i := 4) d_X12_fit_399 rfl ?_
                            refine Tr.iconst (pc := 401) d_X12_fit_401 (by decide) ?_
                            refine Tr.ishr (pc := 402) d_X12_fit_402 ?_
                            refine Tr.gen (P := fun v => (-2147483648) ≤ v ∧ v ≤ 2147483647) (i32_b _) (fun r402 er402 br402 => ?_)
                            refine Tr.bipush (pc := 403) d_X12_fit_403 rfl (by decide) ?_
                            refine Tr.iand (pc := 405) d_X12_fit_405 ?_
                            refine Tr.gen (P := fun v => 0 ≤ v ∧ v ≤ 15) (f_iand_m 4 (by decide +kernel) (by decide) (by decide +kernel)) (fun r405 er405 br405 => ?_)
                            refine Tr.iastS (pc := 406) (P := St Tru ws_X12_fit_120 as_X12_fit_120 M0) d_X12_fit_406 (ty_182 hS.1.1) (by omega) (by omega) (sa_182 hS (by decide) (by omega) trivial) (fun M406 hS w406 => ?_)
                            refine Tr.aload_n (pc := 407) (i := 0) d_X12_fit_407 rfl rfl ?_
                            refine Tr.getf (pc := 408) d_X12_fit_408 f_12_345 (by decide) (by decide) (ty_120 hS.1.1) ?_
                            refine Tr.tp 182 (fx_120_110 hS.1.1) ?_
                            refine Tr.iconst (pc := 411) d_X12_fit_411 (by decide) ?_
                            refine Tr.iload (pc := 412) (i := 4) d_X12_fit_412 rfl ?_
                            refine Tr.bipush (pc := 414) d_X12_fit_414 rfl (by decide) ?_
                            refine Tr.iand (pc := 416) d_X12_fit_416 ?_
                            refine Tr.gen (P := fun v => 0 ≤ v ∧ v ≤ 15) (f_iand_m 4 (by decide +kernel) (by decide) (by decide +kernel)) (fun r416 er416 br416 => ?_)
                            refine Tr.iastS (pc := 417) (P := St Tru ws_X12_fit_120 as_X12_fit_120 M0) d_X12_fit_417 (ty_182 hS.1.1) (by omega) (by omega) (sa_182 hS (by decide) (by omega) trivial) (fun M417 hS w417 => ?_)
                            refine Tr.aload_n (pc := 418) (i := 0) d_X12_fit_418 rfl rfl ?_
                            refine Tr.getf (pc := 419) d_X12_fit_419 f_12_345 (by decide) (by decide) (ty_120 hS.1.1) ?_
                            refine Tr.tp 182 (fx_120_110 hS.1.1) ?_
                            refine Tr.iconst (pc := 422) d_X12_fit_422 (by decide) ?_
                            refine Tr.iconst (pc := 423) d_X12_fit_423 (by decide) ?_
                            refine Tr.iastS (pc := 424) (P := St Tru ws_X12_fit_120 as_X12_fit_120 M0) d_X12_fit_424 (ty_182 hS.1.1) (by omega) (by omega) (sa_182 hS (by decide) (by omega) trivial) (fun M424 hS w424 => ?_)
                            refine Tr.pick [1, 0, 2] (ls2 := [(0, (2, 120)), (2, (1, p222_5)), (4, (0, p208_4))]) rfl ?_
                            exact J425 _ _ hS (by omega) ((Wr.b w424 rfl).trans ((Wr.b w417 rfl).trans ((Wr.b w406 rfl).trans ((Wr.b w393 rfl).trans k380_120_106)))) ((Wr.b w424 rfl).trans ((Wr.b w417 rfl).trans ((Wr.b w406 rfl).trans ((Wr.b w393 rfl).trans k380_120_59)))) ((Wr.b w424 rfl).trans ((Wr.b w417 rfl).trans ((Wr.b w406 rfl).trans ((Wr.b w393 rfl).trans k380_126_0)))) (by omega)
                          refine Tr.if_le (pc := 367) (tgt := 380) d_X12_fit_367 rfl (fun c367 => ?_) (fun c367 => ?_)
                          · refine Tr.pick [0, 2, 3] (ls2 := [(0, (2, 120)), (4, (0, p208_4)), (5, (1, p222_5))]) rfl ?_
                            exact J380 _ hS k361_120_106 k361_120_59 k361_126_0 er366 (by omega)
                          · refine Tr.lload (pc := 370) (i := 5) d_X12_fit_370 rfl ?_
                            refine Tr.lload_n (pc := 372) (i := 2) d_X12_fit_372 rfl rfl ?_
                            refine Tr.lcmp (pc := 373) d_X12_fit_373 ?_
                            refine Tr.gen (P := fun v => (v = 1 ∧ p208_2 < p222_5) ∨ (v = 0 ∧ p222_5 = p208_2) ∨ (v = -1 ∧ p222_5 < p208_2)) (f_lcmp_c _ _) (fun r373 er373 br373 => ?_)
                            refine Tr.if_lt (pc := 374) (tgt := 380) d_X12_fit_374 rfl (fun c374 => ?_) (fun c374 => ?_)
                            · refine Tr.pick [0, 2, 3] (ls2 := [(0, (2, 120)), (4, (0, p208_4)), (5, (1, p222_5))]) rfl ?_
                              exact J380 _ hS k361_120_106 k361_120_59 k361_126_0 er366 (by omega)
                            · refine Tr.goto (pc := 377) (tgt := 425) d_X12_fit_377 rfl ?_
                              refine Tr.pick [0, 1, 2] (ls2 := [(0, (2, 120)), (2, (1, p208_2)), (4, (0, p208_4))]) rfl ?_
                              exact J425 _ _ hS (by omega) k361_120_106 k361_120_59 k361_126_0 (by omega)
                        refine Tr.if_le (pc := 341) (tgt := 361) d_X12_fit_341 rfl (fun c341 => ?_) (fun c341 => ?_)
                        · refine Tr.pick [0, 1, 2, 3] (ls2 := [(0, (2, 120)), (2, (1, p208_2)), (4, (0, p208_4)), (5, (1, p222_5))]) rfl ?_
                          exact J361 _ hS k222_120_106 k222_120_59 k222_126_0 (by omega)
                        · refine Tr.lload (pc := 344) (i := 5) d_X12_fit_344 rfl ?_
                          refine Tr.lload_n (pc := 346) (i := 2) d_X12_fit_346 rfl rfl ?_
                          refine Tr.lcmp (pc := 347) d_X12_fit_347 ?_
                          refine Tr.gen (P := fun v => (v = 1 ∧ p208_2 < p222_5) ∨ (v = 0 ∧ p222_5 = p208_2) ∨ (v = -1 ∧ p222_5 < p208_2)) (f_lcmp_c _ _) (fun r347 er347 br347 => ?_)
                          refine Tr.if_ne (pc := 348) (tgt := 361) d_X12_fit_348 rfl (fun c348 => ?_) (fun c348 => ?_)
                          · refine Tr.pick [0, 1, 2, 3] (ls2 := [(0, (2, 120)), (2, (1, p208_2)), (4, (0, p208_4)), (5, (1, p222_5))]) rfl ?_
                            exact J361 _ hS k222_120_106 k222_120_59 k222_126_0 (by omega)
                          · refine Tr.aload_n (pc := 351) (i := 0) d_X12_fit_351 rfl rfl ?_
                            refine Tr.getf (pc := 352) d_X12_fit_352 f_12_345 (by decide) (by decide) (ty_120 hS.1.1) ?_
                            refine Tr.tp 182 (fx_120_110 hS.1.1) ?_
                            refine Tr.iconst (pc := 355) d_X12_fit_355 (by decide) ?_
                            refine Tr.dup2 (pc := 356) d_X12_fit_356 ne01 ne21 ?_
                            refine Tr.iald (pc := 357) d_X12_fit_357 (ty_182 hS.1.1) (by omega) (by omega) ?_
                            refine Tr.tp r340 er340 ?_
                            refine Tr.iconst (pc := 358) d_X12_fit_358 (by decide) ?_
                            refine Tr.iadd (pc := 359) d_X12_fit_359 ?_
                            refine Tr.gen (P := fun v => (-2147483648) ≤ v ∧ v ≤ 2147483647) (w32_b _) (fun r359 er359 br359 => ?_)
                            refine Tr.iastS (pc := 360) (P := St Tru ws_X12_fit_120 as_X12_fit_120 M0) d_X12_fit_360 (ty_182 hS.1.1) (by omega) (by omega) (sa_182 hS (by decide) (by omega) trivial) (fun M360 hS w360 => ?_)
                            refine Tr.pick [0, 1, 2, 3] (ls2 := [(0, (2, 120)), (2, (1, p208_2)), (4, (0, p208_4)), (5, (1, p222_5))]) rfl ?_
                            exact J361 _ hS ((Wr.b w360 rfl).trans k222_120_106) ((Wr.b w360 rfl).trans k222_120_59) ((Wr.b w360 rfl).trans k222_126_0) (by omega)
                      · refine Tr.aload_n (pc := 231) (i := 0) d_X12_fit_231 rfl rfl ?_
                        refine Tr.getf (pc := 232) d_X12_fit_232 f_12_348 (by decide) (by decide) (ty_120 hS.1.1) ?_
                        refine Tr.tp 183 (fx_120_111 hS.1.1) ?_
                        refine Tr.iload (pc := 235) (i := 7) d_X12_fit_235 rfl ?_
                        refine Tr.lald (pc := 237) d_X12_fit_237 (ty_183 hS.1.1) (by omega) (by omega) ?_
                        refine Tr.gen (P := fun v => (-9223372036854775808) ≤ v ∧ v ≤ 9223372036854775807) (ar_183 hS.1.2.1 _) (fun r237 er237 br237 => ?_)
                        refine Tr.aload_n (pc := 238) (i := 0) d_X12_fit_238 rfl rfl ?_
                        refine Tr.getf (pc := 239) d_X12_fit_239 f_12_351 (by decide) (by decide) (ty_120 hS.1.1) ?_
                        refine Tr.tp 184 (fx_120_112 hS.1.1) ?_
                        refine Tr.iconst (pc := 242) d_X12_fit_242 (by decide) ?_
                        refine Tr.iload (pc := 243) (i := 7) d_X12_fit_243 rfl ?_
                        refine Tr.imul (pc := 245) d_X12_fit_245 ?_
                        refine Tr.tp (3 * p222_7) ((w32_id (by omega)).trans (by omega)) ?_
                        refine Tr.iald (pc := 246) d_X12_fit_246 (ty_184 hS.1.1) (by omega) (by omega) ?_
                        refine Tr.gen (P := fun v => (-2147483648) ≤ v ∧ v ≤ 2147483647) (ar_184 hS.1.2.1 _) (fun r246 er246 br246 => ?_)
                        refine Tr.i2l (pc := 247) d_X12_fit_247 ?_
                        refine Tr.iload (pc := 248) (i := 4) d_X12_fit_248 rfl ?_
                        refine Tr.bipush (pc := 250) d_X12_fit_250 rfl (by decide) ?_
                        refine Tr.ishr (pc := 252) d_X12_fit_252 ?_
                        refine Tr.gen (P := fun v => (-2147483648) ≤ v ∧ v ≤ 2147483647) (i32_b _) (fun r252 er252 br252 => ?_)
                        refine Tr.i2l (pc := 253) d_X12_fit_253 ?_
                        refine Tr.lmul (pc := 254) d_X12_fit_254 ?_
                        refine Tr.gen (P := fun v => (-9223372036854775808) ≤ v ∧ v ≤ 9223372036854775807) (w64_b _) (fun r254 er254 br254 => ?_)
                        refine Tr.ladd (pc := 255) d_X12_fit_255 ?_
                        refine Tr.gen (P := fun v => (-9223372036854775808) ≤ v ∧ v ≤ 9223372036854775807) (w64_b _) (fun r255 er255 br255 => ?_)
                        refine Tr.aload_n (pc := 256) (i := 0) d_X12_fit_256 rfl rfl ?_
                        refine Tr.getf (pc := 257) d_X12_fit_257 f_12_351 (by decide) (by decide) (ty_120 hS.1.1) ?_
                        refine Tr.tp 184 (fx_120_112 hS.1.1) ?_
                        refine Tr.iconst (pc := 260) d_X12_fit_260 (by decide) ?_
                        refine Tr.iload (pc := 261) (i := 7) d_X12_fit_261 rfl ?_
                        refine Tr.imul (pc := 263) d_X12_fit_263 ?_
                        refine Tr.tp (3 * p222_7) ((w32_id (by omega)).trans (by omega)) ?_
                        refine Tr.iconst (pc := 264) d_X12_fit_264 (by decide) ?_
                        refine Tr.iadd (pc := 265) d_X12_fit_265 ?_
                        refine Tr.tp (3 * p222_7 + 1) ((w32_id (by omega)).trans (by omega)) ?_
                        refine Tr.iald (pc := 266) d_X12_fit_266 (ty_184 hS.1.1) (by omega) (by omega) ?_
                        refine Tr.gen (P := fun v => (-2147483648) ≤ v ∧ v ≤ 2147483647) (ar_184 hS.1.2.1 _) (fun r266 er266 br266 => ?_)
                        refine Tr.i2l (pc := 267) d_X12_fit_267 ?_
                        refine Tr.iload (pc := 268) (i := 4) d_X12_fit_268 rfl ?_
                        refine Tr.iconst (pc := 270) d_X12_fit_270 (by decide) ?_
                        refine Tr.ishr (pc := 271) d_X12_fit_271 ?_
                        refine Tr.gen (P := fun v => (-2147483648) ≤ v ∧ v ≤ 2147483647) (i32_b _) (fun r271 er271 br271 => ?_)
                        refine Tr.bipush (pc := 272) d_X12_fit_272 rfl (by decide) ?_
                        refine Tr.iand (pc := 274) d_X12_fit_274 ?_
                        refine Tr.gen (P := fun v => 0 ≤ v ∧ v ≤ 15) (f_iand_m 4 (by decide +kernel) (by decide) (by decide +kernel)) (fun r274 er274 br274 => ?_)
                        refine Tr.i2l (pc := 275) d_X12_fit_275 ?_
                        refine Tr.lmul (pc := 276) d_X12_fit_276 ?_
                        refine Tr.gen (P := fun v => (-9223372036854775808) ≤ v ∧ v ≤ 9223372036854775807) (w64_b _) (fun r276 er276 br276 => ?_)
                        refine Tr.ladd (pc := 277) d_X12_fit_277 ?_
                        refine Tr.gen (P := fun v => (-9223372036854775808) ≤ v ∧ v ≤ 9223372036854775807) (w64_b _) (fun r277 er277 br277 => ?_)
                        refine Tr.aload_n (pc := 278) (i := 0) d_X12_fit_278 rfl rfl ?_
                        refine Tr.getf (pc := 279) d_X12_fit_279 f_12_351 (by decide) (by decide) (ty_120 hS.1.1) ?_
                        refine Tr.tp 184 (fx_120_112 hS.1.1) ?_
                        refine Tr.iconst (pc := 282) d_X12_fit_282 (by decide) ?_
                        refine Tr.iload (pc := 283) (i := 7) d_X12_fit_283 rfl ?_
                        refine Tr.imul (pc := 285) d_X12_fit_285 ?_
                        refine Tr.tp (3 * p222_7) ((w32_id (by omega)).trans (by omega)) ?_
                        refine Tr.iconst (pc := 286) d_X12_fit_286 (by decide) ?_
                        refine Tr.iadd (pc := 287) d_X12_fit_287 ?_
                        refine Tr.tp (3 * p222_7 + 2) ((w32_id (by omega)).trans (by omega)) ?_
                        refine Tr.iald (pc := 288) d_X12_fit_288 (ty_184 hS.1.1) (by omega) (by omega) ?_
                        refine Tr.gen (P := fun v => (-2147483648) ≤ v ∧ v ≤ 2147483647) (ar_184 hS.1.2.1 _) (fun r288 er288 br288 => ?_)
                        refine Tr.i2l (pc := 289) d_X12_fit_289 ?_
                        refine Tr.iload (pc := 290) (i := 4) d_X12_fit_290 rfl ?_
                        refine Tr.bipush (pc := 292) d_X12_fit_292 rfl (by decide) ?_
                        refine Tr.iand (pc := 294) d_X12_fit_294 ?_
                        refine Tr.gen (P := fun v => 0 ≤ v ∧ v ≤ 15) (f_iand_m 4 (by decide +kernel) (by decide) (by decide +kernel)) (fun r294 er294 br294 => ?_)
                        refine Tr.i2l (pc := 295) d_X12_fit_295 ?_
                        refine Tr.lmul (pc := 296) d_X12_fit_296 ?_
                        refine Tr.gen (P := fun v => (-9223372036854775808) ≤ v ∧ v ≤ 9223372036854775807) (w64_b _) (fun r296 er296 br296 => ?_)
                        refine Tr.ladd (pc := 297) d_X12_fit_297 ?_
                        refine Tr.gen (P := fun v => (-9223372036854775808) ≤ v ∧ v ≤ 9223372036854775807) (w64_b _) (fun r297 er297 br297 => ?_)
                        refine Tr.aload_n (pc := 298) (i := 0) d_X12_fit_298 rfl rfl ?_
                        refine Tr.getf (pc := 299) d_X12_fit_299 f_12_339 (by decide) (by decide) (ty_120 hS.1.1) ?_
                        refine Tr.tp 181 (fx_120_108 hS.1.1) ?_
                        refine Tr.iload (pc := 302) (i := 7) d_X12_fit_302 rfl ?_
                        refine Tr.iald (pc := 304) d_X12_fit_304 (ty_181 hS.1.1) (by omega) (by omega) ?_
                        refine Tr.gen (P := fun v => (-2147483648) ≤ v ∧ v ≤ 2147483647) (ar_181 hS.1.2.1 _) (fun r304 er304 br304 => ?_)
                        refine Tr.i2l (pc := 305) d_X12_fit_305 ?_
                        refine Tr.lsub (pc := 306) d_X12_fit_306 ?_
                        refine Tr.gen (P := fun v => (-9223372036854775808) ≤ v ∧ v ≤ 9223372036854775807) (w64_b _) (fun r306 er306 br306 => ?_)
                        refine Tr.lstore (pc := 307) (i := 8) (ls2 := [(8, (1, r306)), (0, (2, 120)), (2, (1, p208_2)), (4, (0, p208_4)), (5, (1, p222_5)), (7, (0, p222_7))]) d_X12_fit_307 (by decide) rfl ?_
                        refine Tr.lload (pc := 309) (i := 5) d_X12_fit_309 rfl ?_
                        refine Tr.lload (pc := 311) (i := 8) d_X12_fit_311 rfl ?_
                        refine Tr.lconst (pc := 313) (v := 0) d_X12_fit_313 rfl (by decide) ?_
                        refine Tr.lcmp (pc := 314) d_X12_fit_314 ?_
                        refine Tr.gen (P := fun v => (v = 1 ∧ 0 < r306) ∨ (v = 0 ∧ r306 = 0) ∨ (v = -1 ∧ r306 < 0)) (f_lcmp_c _ _) (fun r314 er314 br314 => ?_)
                        have J326 : ∀ (M : Mem) (q326_1 : Int), St Tru ws_X12_fit_120 as_X12_fit_120 M0 M → ((-9223372036854775808) ≤ q326_1 ∧ q326_1 ≤ 9223372036854775807) → rd M 120 106 = r9 → rd M 120 59 = u19_120_59 → rd M 126 0 = w2_126_0 → rd M 181 p222_7 = r304 → rd M 183 p222_7 = r237 → rd M 184 (3 * p222_7) = r246 → rd M 184 (3 * p222_7 + 1) = r266 → rd M 184 (3 * p222_7 + 2) = r288 → (u19_120_59 = -1) → Tr l K 8 mX12_fit 326 [(0, (2, 120)), (2, (1, p208_2)), (4, (0, p208_4)), (7, (0, p222_7))] [(1, q326_1), (1, p222_5)] M (q_X12_fit_120 a1 M0) := by
                          intro M q326_1 hS bq326_1 k326_120_106 k326_120_59 k326_126_0 k326_181_p222_710 k326_183_p222_710 k326_184_p222_730 k326_184_p222_731 k326_184_p222_732 t326_0
                          refine Tr.ladd (pc := 326) d_X12_fit_326 ?_
                          refine Tr.gen (P := fun v => (-9223372036854775808) ≤ v ∧ v ≤ 9223372036854775807) (w64_b _) (fun r326 er326 br326 => ?_)
                          refine Tr.lstore (pc := 327) (i := 5) (ls2 := [(5, (1, r326)), (0, (2, 120)), (2, (1, p208_2)), (4, (0, p208_4)), (7, (0, p222_7))]) d_X12_fit_327 (by decide) rfl ?_
                          refine Tr.iincV (pc := 329) (n2 := (p222_7 + 1)) (ls2 := [(7, (0, (p222_7 + 1))), (5, (1, r326)), (0, (2, 120)), (2, (1, p208_2)), (4, (0, p208_4))]) d_X12_fit_329 rfl (by decide) ((w32_id (by omega)).trans (by omega)) rfl ?_
                          refine Tr.goto (pc := 332) (tgt := 222) d_X12_fit_332 rfl ?_
                          refine Tr.pick [2, 3, 4, 1, 0] (ls2 := [(0, (2, 120)), (2, (1, p208_2)), (4, (0, p208_4)), (5, (1, r326)), (7, (0, (p222_7 + 1)))]) rfl ?_
                          exact J222 _ _ _ hS (by omega) (by omega) (by omega) k326_120_106 k326_120_59 k326_126_0 (by omega) (by omega)
                        refine Tr.if_ge (pc := 315) (tgt := 324) d_X12_fit_315 rfl (fun c315 => ?_) (fun c315 => ?_)
                        · refine Tr.lload (pc := 324) (i := 8) d_X12_fit_324 rfl ?_
                          refine Tr.pick [1, 2, 3, 5] (ls2 := [(0, (2, 120)), (2, (1, p208_2)), (4, (0, p208_4)), (7, (0, p222_7))]) rfl ?_
                          exact J326 _ _ hS (by omega) k222_120_106 k222_120_59 k222_126_0 er304 er237 er246 er266 er288 (by omega)
                        · refine Tr.lload (pc := 318) (i := 8) d_X12_fit_318 rfl ?_
                          refine Tr.lneg (pc := 320) d_X12_fit_320 ?_
                          refine Tr.gen (P := fun v => (-9223372036854775808) ≤ v ∧ v ≤ 9223372036854775807) (w64_b _) (fun r320 er320 br320 => ?_)
                          refine Tr.goto (pc := 321) (tgt := 326) d_X12_fit_321 rfl ?_
                          refine Tr.pick [1, 2, 3, 5] (ls2 := [(0, (2, 120)), (2, (1, p208_2)), (4, (0, p208_4)), (7, (0, p222_7))]) rfl ?_
                          exact J326 _ _ hS (by omega) k222_120_106 k222_120_59 k222_126_0 er304 er237 er246 er266 er288 (by omega)
                  refine Tr.pick [2, 3, 4, 1, 0] (ls2 := [(0, (2, 120)), (2, (1, p208_2)), (4, (0, p208_4)), (5, (1, 0)), (7, (0, 0))]) rfl ?_
                  exact J222 _ _ _ _ hS (by omega) (by omega) (by omega) k208_120_106 k208_120_59 k208_126_0 (by omega) (Nat.lt_succ_self _)
            refine Tr.pick [2, 1, 0] (ls2 := [(0, (2, 120)), (2, (1, 0)), (4, (0, 0))]) rfl ?_
            exact J208 _ _ _ _ hS (by omega) (by omega) ((Wr.b w204 rfl).trans k19_120_106) ((Wr.b w204 rfl).trans k19_120_59) ((Wr.b w204 rfl).trans k19_126_0) (by omega) (Nat.lt_succ_self _)
          · refine Tr.iconst (pc := 27) d_X12_fit_27 (by decide) ?_
            refine Tr.istore_n (pc := 28) (i := 3) (ls2 := [(3, (0, 0)), (0, (2, 120)), (1, (0, a1)), (2, (0, p19_2))]) d_X12_fit_28 rfl (by decide) rfl ?_
            have J29 : ∀ (n29 : Nat) (M : Mem) (p29_3 : Int), St Tru ws_X12_fit_120 as_X12_fit_120 M0 M → (0 ≤ p29_3 ∧ p29_3 ≤ 3) → rd M 120 106 = r9 → rd M 120 59 = u19_120_59 → rd M 126 0 = w2_126_0 → (u19_120_59 = -1) → (3 - p29_3).toNat < n29 → Tr l K 8 mX12_fit 29 [(0, (2, 120)), (1, (0, a1)), (2, (0, p19_2)), (3, (0, p29_3))] [] M (q_X12_fit_120 a1 M0) := by
              intro n29
              induction n29 with
              | zero => intro M p29_3 hS bp29_3 k29_120_106 k29_120_59 k29_126_0 t29_0 hm29; exact absurd hm29 (Nat.not_lt_zero _)
              | succ n29 J29 =>
                intro M p29_3 hS bp29_3 k29_120_106 k29_120_59 k29_126_0 t29_0 hm29
                refine Tr.iload_n (pc := 29) (i := 3) d_X12_fit_29 rfl rfl ?_
                refine Tr.iconst (pc := 30) d_X12_fit_30 (by decide) ?_
                refine Tr.icmp_ge (pc := 31) (tgt := 56) d_X12_fit_31 rfl (fun c31 => ?_) (fun c31 => ?_)
                · refine Tr.aload_n (pc := 56) (i := 0) d_X12_fit_56 rfl rfl ?_
                  refine Tr.ldc2 (pc := 57) d_X12_fit_57 kl_12_686 (by decide) ?_
                  refine Tr.callV (pc := 60) (as := [_]) d_X12_fit_60 s_12_637 ok_X12_runs rfl rfl (Nat.le_of_ble_eq_true rfl) (Nat.le_of_ble_eq_true rfl) (by decide) (ty_120 hS.1.1) ?_
                  have kb60_120_59 : rd M 120 59 = u19_120_59 := k29_120_59
                  refine Tr.imp (Tr.deep (by decide) (sp_X12_runs_120 hS.1 ((St.kp hS (by decide) (by decide) (by decide)).trans en_120_12) (-1) (by omega) (by omega) (Bk0.of hF_Bk0 (fun j => (St.ka hS (by decide) (by decide) (by decide))) (fun j => (St.ka hS (by decide) (by decide) (by decide))) (fun j => (St.ka hS (by decide) (by decide) (by decide))) (fun j => (St.ka hS (by decide) (by decide) (by decide))) (fun j => (St.ka hS (by decide) (by decide) (by decide))) (fun j => (St.ka hS (by decide) (by decide) (by decide))) (fun j => (St.ka hS (by decide) (by decide) (by decide))) (fun j => (St.ka hS (by decide) (by decide) (by decide))) (St.kp hS (by decide) (by decide) (by decide)) (St.kp hS (by decide) (by decide) (by decide)) (St.kp hS (by decide) (by decide) (by decide)) (St.kp hS (by decide) (by decide) (by decide))))) ?_
                  rintro M60 _ ⟨h60, r60, rfl, lr60, ur60, z60_0⟩
                  have hS := St.tr hS h60 (by decide) (by decide)
                  obtain ⟨s60_120_59, es60_120_59⟩ : ∃ v, rd M60 120 59 = v := ⟨_, rfl⟩
                  have bs60_120_59 : (-1) ≤ s60_120_59 ∧ s60_120_59 ≤ 5 := by rw [← es60_120_59]; exact ir_120_59 hS.1.2.1
                  refine Tr.sc [(0, r60)] rfl ?_
                  refine Tr.istore_n (pc := 63) (i := 3) (ls2 := [(3, (0, r60)), (0, (2, 120)), (1, (0, a1)), (2, (0, p19_2))]) d_X12_fit_63 rfl (by decide) rfl ?_
                  refine Tr.aload_n (pc := 64) (i := 0) d_X12_fit_64 rfl rfl ?_
                  refine Tr.getf (pc := 65) d_X12_fit_65 f_12_351 (by decide) (by decide) (ty_120 hS.1.1) ?_
                  refine Tr.tp 184 (fx_120_112 hS.1.1) ?_
                  refine Tr.iconst (pc := 68) d_X12_fit_68 (by decide) ?_
                  refine Tr.iload_n (pc := 69) (i := 2) d_X12_fit_69 rfl rfl ?_
                  refine Tr.imul (pc := 70) d_X12_fit_70 ?_
                  refine Tr.tp (3 * p19_2) ((w32_id (by omega)).trans (by omega)) ?_
                  refine Tr.aload_n (pc := 71) (i := 0) d_X12_fit_71 rfl rfl ?_
                  refine Tr.getf (pc := 72) d_X12_fit_72 f_12_222 (by decide) (by decide) (ty_120 hS.1.1) ?_
                  refine Tr.tp 161 (fx_120_69 hS.1.1) ?_
                  refine Tr.iconst (pc := 75) d_X12_fit_75 (by decide) ?_
                  refine Tr.iload_n (pc := 76) (i := 1) d_X12_fit_76 rfl rfl ?_
                  refine Tr.imul (pc := 77) d_X12_fit_77 ?_
                  refine Tr.tp (4 * a1) ((w32_id (by omega)).trans (by omega)) ?_
                  refine Tr.iconst (pc := 78) d_X12_fit_78 (by decide) ?_
                  refine Tr.iadd (pc := 79) d_X12_fit_79 ?_
                  refine Tr.tp (4 * a1) ((w32_id (by omega)).trans (by omega)) ?_
                  refine Tr.iald (pc := 80) d_X12_fit_80 (ty_161 hS.1.1) (by omega) (by omega) ?_
                  refine Tr.gen (P := fun v => (-2147483648) ≤ v ∧ v ≤ 2147483647) (ar_161 hS.1.2.1 _) (fun r80 er80 br80 => ?_)
                  refine Tr.iastS (pc := 81) (P := St Tru ws_X12_fit_120 as_X12_fit_120 M0) d_X12_fit_81 (ty_184 hS.1.1) (by omega) (by omega) (sa_184 hS (by decide) (by omega) trivial) (fun M81 hS w81 => ?_)
                  refine Tr.aload_n (pc := 82) (i := 0) d_X12_fit_82 rfl rfl ?_
                  refine Tr.getf (pc := 83) d_X12_fit_83 f_12_351 (by decide) (by decide) (ty_120 hS.1.1) ?_
                  refine Tr.tp 184 (fx_120_112 hS.1.1) ?_
                  refine Tr.iconst (pc := 86) d_X12_fit_86 (by decide) ?_
                  refine Tr.iload_n (pc := 87) (i := 2) d_X12_fit_87 rfl rfl ?_
                  refine Tr.imul (pc := 88) d_X12_fit_88 ?_
                  refine Tr.tp (3 * p19_2) ((w32_id (by omega)).trans (by omega)) ?_
                  refine Tr.iconst (pc := 89) d_X12_fit_89 (by decide) ?_
                  refine Tr.iadd (pc := 90) d_X12_fit_90 ?_
                  refine Tr.tp (3 * p19_2 + 1) ((w32_id (by omega)).trans (by omega)) ?_
                  refine Tr.aload_n (pc := 91) (i := 0) d_X12_fit_91 rfl rfl ?_
                  refine Tr.getf (pc := 92) d_X12_fit_92 f_12_222 (by decide) (by decide) (ty_120 hS.1.1) ?_
                  refine Tr.tp 161 (fx_120_69 hS.1.1) ?_
                  refine Tr.iconst (pc := 95) d_X12_fit_95 (by decide) ?_
                  refine Tr.iload_n (pc := 96) (i := 1) d_X12_fit_96 rfl rfl ?_
                  refine Tr.imul (pc := 97) d_X12_fit_97 ?_
                  refine Tr.tp (4 * a1) ((w32_id (by omega)).trans (by omega)) ?_
                  refine Tr.iconst (pc := 98) d_X12_fit_98 (by decide) ?_
                  refine Tr.iadd (pc := 99) d_X12_fit_99 ?_
                  refine Tr.tp (4 * a1 + 2) ((w32_id (by omega)).trans (by omega)) ?_
                  refine Tr.iald (pc := 100) d_X12_fit_100 (ty_161 hS.1.1) (by omega) (by omega) ?_
                  refine Tr.gen (P := fun v => (-2147483648) ≤ v ∧ v ≤ 2147483647) (ar_161 hS.1.2.1 _) (fun r100 er100 br100 => ?_)
                  refine Tr.iastS (pc := 101) (P := St Tru ws_X12_fit_120 as_X12_fit_120 M0) d_X12_fit_101 (ty_184 hS.1.1) (by omega) (by omega) (sa_184 hS (by decide) (by omega) trivial) (fun M101 hS w101 => ?_)
                  refine Tr.aload_n (pc := 102) (i := 0) d_X12_fit_102 rfl rfl ?_
                  refine Tr.getf (pc := 103) d_X12_fit_103 f_12_351 (by decide) (by decide) (ty_120 hS.1.1) ?_
                  refine Tr.tp 184 (fx_120_112 hS.1.1) ?_
                  refine Tr.iconst (pc := 106) d_X12_fit_106 (by decide) ?_
                  refine Tr.iload_n (pc := 107) (i := 2) d_X12_fit_107 rfl rfl ?_
                  refine Tr.imul (pc := 108) d_X12_fit_108 ?_
                  refine Tr.tp (3 * p19_2) ((w32_id (by omega)).trans (by omega)) ?_
                  refine Tr.iconst (pc := 109) d_X12_fit_109 (by decide) ?_
                  refine Tr.iadd (pc := 110) d_X12_fit_110 ?_
                  refine Tr.tp (3 * p19_2 + 2) ((w32_id (by omega)).trans (by omega)) ?_
                  refine Tr.aload_n (pc := 111) (i := 0) d_X12_fit_111 rfl rfl ?_
                  refine Tr.getf (pc := 112) d_X12_fit_112 f_12_222 (by decide) (by decide) (ty_120 hS.1.1) ?_
                  refine Tr.tp 161 (fx_120_69 hS.1.1) ?_
                  refine Tr.iconst (pc := 115) d_X12_fit_115 (by decide) ?_
                  refine Tr.iload_n (pc := 116) (i := 1) d_X12_fit_116 rfl rfl ?_
                  refine Tr.imul (pc := 117) d_X12_fit_117 ?_
                  refine Tr.tp (4 * a1) ((w32_id (by omega)).trans (by omega)) ?_
                  refine Tr.iconst (pc := 118) d_X12_fit_118 (by decide) ?_
                  refine Tr.iadd (pc := 119) d_X12_fit_119 ?_
                  refine Tr.tp (4 * a1 + 3) ((w32_id (by omega)).trans (by omega)) ?_
                  refine Tr.iald (pc := 120) d_X12_fit_120 (ty_161 hS.1.1) (by omega) (by omega) ?_
                  refine Tr.gen (P := fun v => (-2147483648) ≤ v ∧ v ≤ 2147483647) (ar_161 hS.1.2.1 _) (fun r120 er120 br120 => ?_)
                  refine Tr.iastS (pc := 121) (P := St Tru ws_X12_fit_120 as_X12_fit_120 M0) d_X12_fit_121 (ty_184 hS.1.1) (by omega) (by omega) (sa_184 hS (by decide) (by omega) trivial) (fun M121 hS w121 => ?_)
                  refine Tr.aload_n (pc := 122) (i := 0) d_X12_fit_122 rfl rfl ?_
                  refine Tr.getf (pc := 123) d_X12_fit_123 f_12_348 (by decide) (by decide) (ty_120 hS.1.1) ?_
                  refine Tr.tp 183 (fx_120_111 hS.1.1) ?_
                  refine Tr.iload_n (pc := 126) (i := 2) d_X12_fit_126 rfl rfl ?_
                  refine Tr.aload_n (pc := 127) (i := 0) d_X12_fit_127 rfl rfl ?_
                  refine Tr.getf (pc := 128) d_X12_fit_128 f_12_204 (by decide) (by decide) (ty_120 hS.1.1) ?_
                  refine Tr.gen (P := fun v => (-9223372036854775808) ≤ v ∧ v ≤ 9223372036854775807) (ir_120_63 hS.1.2.1) (fun r128 er128 br128 => ?_)
                  refine Tr.aload_n (pc := 131) (i := 0) d_X12_fit_131 rfl rfl ?_
                  refine Tr.getf (pc := 132) d_X12_fit_132 f_12_351 (by decide) (by decide) (ty_120 hS.1.1) ?_
                  refine Tr.tp 184 (fx_120_112 hS.1.1) ?_
                  refine Tr.iconst (pc := 135) d_X12_fit_135 (by decide) ?_
                  refine Tr.iload_n (pc := 136) (i := 2) d_X12_fit_136 rfl rfl ?_
                  refine Tr.imul (pc := 137) d_X12_fit_137 ?_
                  refine Tr.tp (3 * p19_2) ((w32_id (by omega)).trans (by omega)) ?_
                  refine Tr.iald (pc := 138) d_X12_fit_138 (ty_184 hS.1.1) (by omega) (by omega) ?_
                  refine Tr.gen (P := fun v => (-2147483648) ≤ v ∧ v ≤ 2147483647) (ar_184 hS.1.2.1 _) (fun r138 er138 br138 => ?_)
                  refine Tr.i2l (pc := 139) d_X12_fit_139 ?_
                  refine Tr.aload_n (pc := 140) (i := 0) d_X12_fit_140 rfl rfl ?_
                  refine Tr.iload_n (pc := 141) (i := 1) d_X12_fit_141 rfl rfl ?_
                  refine Tr.iconst (pc := 142) d_X12_fit_142 (by decide) ?_
                  refine Tr.callV (pc := 143) (as := [_, _]) d_X12_fit_143 s_12_565 ok_X12_rate rfl rfl (Nat.le_of_ble_eq_true rfl) (Nat.le_of_ble_eq_true rfl) (by decide) (ty_120 hS.1.1) ?_
                  refine Tr.imp (Tr.deep (by decide) (sp_X12_rate_120 hS.1 ((St.kp hS (by decide) (by decide) (by decide)).trans en_120_12) a1 (by omega) 0 (by omega) (Bk0.of hF_Bk0 (fun j => (St.ka hS (by decide) (by decide) (by decide))) (fun j => (St.ka hS (by decide) (by decide) (by decide))) (fun j => (St.ka hS (by decide) (by decide) (by decide))) (fun j => (St.ka hS (by decide) (by decide) (by decide))) (fun j => (St.ka hS (by decide) (by decide) (by decide))) (fun j => (St.ka hS (by decide) (by decide) (by decide))) (fun j => (St.ka hS (by decide) (by decide) (by decide))) (fun j => (St.ka hS (by decide) (by decide) (by decide))) (St.kp hS (by decide) (by decide) (by decide)) (St.kp hS (by decide) (by decide) (by decide)) (St.kp hS (by decide) (by decide) (by decide)) (St.kp hS (by decide) (by decide) (by decide))))) ?_
                  rintro M143 _ ⟨h143, r143, rfl, lr143, ur143, z143_0⟩
                  have hS := St.tr hS h143 (by decide) (by decide)
                  have ka143_126_0 : rd M143 126 0 = w2_126_0 := ((St.kp h143 (by decide) (by decide) (by decide)).trans ((Wr.b w121 rfl).trans ((Wr.b w101 rfl).trans ((Wr.b w81 rfl).trans ((St.kp h60 (by decide) (by decide) (by decide)).trans k29_126_0)))))
                  refine Tr.sc [(0, r143), (1, r138), (1, r128), (0, p19_2), (2, 183)] rfl ?_
                  refine Tr.i2l (pc := 146) d_X12_fit_146 ?_
                  refine Tr.lmul (pc := 147) d_X12_fit_147 ?_
                  refine Tr.gen (P := fun v => (-9223372036854775808) ≤ v ∧ v ≤ 9223372036854775807) (w64_b _) (fun r147 er147 br147 => ?_)
                  refine Tr.lsub (pc := 148) d_X12_fit_148 ?_
                  refine Tr.gen (P := fun v => (-9223372036854775808) ≤ v ∧ v ≤ 9223372036854775807) (w64_b _) (fun r148 er148 br148 => ?_)
                  refine Tr.aload_n (pc := 149) (i := 0) d_X12_fit_149 rfl rfl ?_
                  refine Tr.getf (pc := 150) d_X12_fit_150 f_12_351 (by decide) (by decide) (ty_120 hS.1.1) ?_
                  refine Tr.tp 184 (fx_120_112 hS.1.1) ?_
                  refine Tr.iconst (pc := 153) d_X12_fit_153 (by decide) ?_
                  refine Tr.iload_n (pc := 154) (i := 2) d_X12_fit_154 rfl rfl ?_
                  refine Tr.imul (pc := 155) d_X12_fit_155 ?_
                  refine Tr.tp (3 * p19_2) ((w32_id (by omega)).trans (by omega)) ?_
                  refine Tr.iconst (pc := 156) d_X12_fit_156 (by decide) ?_
                  refine Tr.iadd (pc := 157) d_X12_fit_157 ?_
                  refine Tr.tp (3 * p19_2 + 1) ((w32_id (by omega)).trans (by omega)) ?_
                  refine Tr.iald (pc := 158) d_X12_fit_158 (ty_184 hS.1.1) (by omega) (by omega) ?_
                  refine Tr.gen (P := fun v => (-2147483648) ≤ v ∧ v ≤ 2147483647) (ar_184 hS.1.2.1 _) (fun r158 er158 br158 => ?_)
                  refine Tr.i2l (pc := 159) d_X12_fit_159 ?_
                  refine Tr.aload_n (pc := 160) (i := 0) d_X12_fit_160 rfl rfl ?_
                  refine Tr.iload_n (pc := 161) (i := 1) d_X12_fit_161 rfl rfl ?_
                  refine Tr.iconst (pc := 162) d_X12_fit_162 (by decide) ?_
                  refine Tr.callV (pc := 163) (as := [_, _]) d_X12_fit_163 s_12_565 ok_X12_rate rfl rfl (Nat.le_of_ble_eq_true rfl) (Nat.le_of_ble_eq_true rfl) (by decide) (ty_120 hS.1.1) ?_
                  refine Tr.imp (Tr.deep (by decide) (sp_X12_rate_120 hS.1 ((St.kp hS (by decide) (by decide) (by decide)).trans en_120_12) a1 (by omega) 3 (by omega) (Bk0.of hF_Bk0 (fun j => (St.ka hS (by decide) (by decide) (by decide))) (fun j => (St.ka hS (by decide) (by decide) (by decide))) (fun j => (St.ka hS (by decide) (by decide) (by decide))) (fun j => (St.ka hS (by decide) (by decide) (by decide))) (fun j => (St.ka hS (by decide) (by decide) (by decide))) (fun j => (St.ka hS (by decide) (by decide) (by decide))) (fun j => (St.ka hS (by decide) (by decide) (by decide))) (fun j => (St.ka hS (by decide) (by decide) (by decide))) (St.kp hS (by decide) (by decide) (by decide)) (St.kp hS (by decide) (by decide) (by decide)) (St.kp hS (by decide) (by decide) (by decide)) (St.kp hS (by decide) (by decide) (by decide))))) ?_
                  rintro M163 _ ⟨h163, r163, rfl, lr163, ur163, z163_0⟩
                  have hS := St.tr hS h163 (by decide) (by decide)
                  have ka163_126_0 : rd M163 126 0 = w2_126_0 := ((St.kp h163 (by decide) (by decide) (by decide)).trans ((St.kp h143 (by decide) (by decide) (by decide)).trans ((Wr.b w121 rfl).trans ((Wr.b w101 rfl).trans ((Wr.b w81 rfl).trans ((St.kp h60 (by decide) (by decide) (by decide)).trans k29_126_0))))))
                  refine Tr.sc [(0, r163), (1, r158), (1, r148), (0, p19_2), (2, 183)] rfl ?_
                  refine Tr.i2l (pc := 166) d_X12_fit_166 ?_
                  refine Tr.lmul (pc := 167) d_X12_fit_167 ?_
                  refine Tr.gen (P := fun v => (-9223372036854775808) ≤ v ∧ v ≤ 9223372036854775807) (w64_b _) (fun r167 er167 br167 => ?_)
                  refine Tr.lsub (pc := 168) d_X12_fit_168 ?_
                  refine Tr.gen (P := fun v => (-9223372036854775808) ≤ v ∧ v ≤ 9223372036854775807) (w64_b _) (fun r168 er168 br168 => ?_)
                  refine Tr.aload_n (pc := 169) (i := 0) d_X12_fit_169 rfl rfl ?_
                  refine Tr.getf (pc := 170) d_X12_fit_170 f_12_351 (by decide) (by decide) (ty_120 hS.1.1) ?_
                  refine Tr.tp 184 (fx_120_112 hS.1.1) ?_
                  refine Tr.iconst (pc := 173) d_X12_fit_173 (by decide) ?_
                  refine Tr.iload_n (pc := 174) (i := 2) d_X12_fit_174 rfl rfl ?_
                  refine Tr.imul (pc := 175) d_X12_fit_175 ?_
                  refine Tr.tp (3 * p19_2) ((w32_id (by omega)).trans (by omega)) ?_
                  refine Tr.iconst (pc := 176) d_X12_fit_176 (by decide) ?_
                  refine Tr.iadd (pc := 177) d_X12_fit_177 ?_
                  refine Tr.tp (3 * p19_2 + 2) ((w32_id (by omega)).trans (by omega)) ?_
                  refine Tr.iald (pc := 178) d_X12_fit_178 (ty_184 hS.1.1) (by omega) (by omega) ?_
                  refine Tr.tp r120 ((St.ka h163 (by decide) (by decide) (by decide)).trans ((St.ka h143 (by decide) (by decide) (by decide)).trans w121.1)) ?_
                  refine Tr.i2l (pc := 179) d_X12_fit_179 ?_
                  refine Tr.aload_n (pc := 180) (i := 0) d_X12_fit_180 rfl rfl ?_
                  refine Tr.iload_n (pc := 181) (i := 1) d_X12_fit_181 rfl rfl ?_
                  refine Tr.iconst (pc := 182) d_X12_fit_182 (by decide) ?_
                  refine Tr.callV (pc := 183) (as := [_, _]) d_X12_fit_183 s_12_565 ok_X12_rate rfl rfl (Nat.le_of_ble_eq_true rfl) (Nat.le_of_ble_eq_true rfl) (by decide) (ty_120 hS.1.1) ?_
                  refine Tr.imp (Tr.deep (by decide) (sp_X12_rate_120 hS.1 ((St.kp hS (by decide) (by decide) (by decide)).trans en_120_12) a1 (by omega) 4 (by omega) (Bk0.of hF_Bk0 (fun j => (St.ka hS (by decide) (by decide) (by decide))) (fun j => (St.ka hS (by decide) (by decide) (by decide))) (fun j => (St.ka hS (by decide) (by decide) (by decide))) (fun j => (St.ka hS (by decide) (by decide) (by decide))) (fun j => (St.ka hS (by decide) (by decide) (by decide))) (fun j => (St.ka hS (by decide) (by decide) (by decide))) (fun j => (St.ka hS (by decide) (by decide) (by decide))) (fun j => (St.ka hS (by decide) (by decide) (by decide))) (St.kp hS (by decide) (by decide) (by decide)) (St.kp hS (by decide) (by decide) (by decide)) (St.kp hS (by decide) (by decide) (by decide)) (St.kp hS (by decide) (by decide) (by decide))))) ?_
                  rintro M183 _ ⟨h183, r183, rfl, lr183, ur183, z183_0⟩
                  have hS := St.tr hS h183 (by decide) (by decide)
                  have ka183_126_0 : rd M183 126 0 = w2_126_0 := ((St.kp h183 (by decide) (by decide) (by decide)).trans ((St.kp h163 (by decide) (by decide) (by decide)).trans ((St.kp h143 (by decide) (by decide) (by decide)).trans ((Wr.b w121 rfl).trans ((Wr.b w101 rfl).trans ((Wr.b w81 rfl).trans ((St.kp h60 (by decide) (by decide) (by decide)).trans k29_126_0)))))))
                  refine Tr.sc [(0, r183), (1, r120), (1, r168), (0, p19_2), (2, 183)] rfl ?_
                  refine Tr.i2l (pc := 186) d_X12_fit_186 ?_
                  refine Tr.lmul (pc := 187) d_X12_fit_187 ?_
                  refine Tr.gen (P := fun v => (-9223372036854775808) ≤ v ∧ v ≤ 9223372036854775807) (w64_b _) (fun r187 er187 br187 => ?_)
                  refine Tr.lsub (pc := 188) d_X12_fit_188 ?_
                  refine Tr.gen (P := fun v => (-9223372036854775808) ≤ v ∧ v ≤ 9223372036854775807) (w64_b _) (fun r188 er188 br188 => ?_)
                  refine Tr.lastS (pc := 189) (P := St Tru ws_X12_fit_120 as_X12_fit_120 M0) d_X12_fit_189 (ty_183 hS.1.1) (by omega) (by omega) (sa_183 hS (by decide) (by omega) trivial) (fun M189 hS w189 => ?_)
                  refine Tr.iincV (pc := 190) (n2 := (p19_2 + 1)) (ls2 := [(2, (0, (p19_2 + 1))), (3, (0, r60)), (0, (2, 120)), (1, (0, a1))]) d_X12_fit_190 rfl (by decide) ((w32_id (by omega)).trans (by omega)) rfl ?_
                  refine Tr.goto (pc := 193) (tgt := 19) d_X12_fit_193 rfl ?_
                  refine Tr.pick [2, 3, 0] (ls2 := [(0, (2, 120)), (1, (0, a1)), (2, (0, (p19_2 + 1)))]) rfl ?_
                  exact J19 _ _ _ hS (by omega) (by omega) ((Wr.b w189 rfl).trans ((St.kp h183 (by decide) (by decide) (by decide)).trans ((St.kp h163 (by decide) (by decide) (by decide)).trans ((St.kp h143 (by decide) (by decide) (by decide)).trans ((Wr.b w121 rfl).trans ((Wr.b w101 rfl).trans ((Wr.b w81 rfl).trans ((St.kp h60 (by decide) (by decide) (by decide)).trans k29_120_106)))))))) ((Wr.b w189 rfl).trans ((St.kp h183 (by decide) (by decide) (by decide)).trans ((St.kp h163 (by decide) (by decide) (by decide)).trans ((St.kp h143 (by decide) (by decide) (by decide)).trans ((Wr.b w121 rfl).trans ((Wr.b w101 rfl).trans ((Wr.b w81 rfl).trans es60_120_59))))))) ((Wr.b w189 rfl).trans ((St.kp h183 (by decide) (by decide) (by decide)).trans ((St.kp h163 (by decide) (by decide) (by decide)).trans ((St.kp h143 (by decide) (by decide) (by decide)).trans ((Wr.b w121 rfl).trans ((Wr.b w101 rfl).trans ((Wr.b w81 rfl).trans ((St.kp h60 (by decide) (by decide) (by decide)).trans k29_126_0)))))))) (by omega) (by omega)
                · refine Tr.aload_n (pc := 34) (i := 0) d_X12_fit_34 rfl rfl ?_
                  refine Tr.getf (pc := 35) d_X12_fit_35 f_12_171 (by decide) (by decide) (ty_120 hS.1.1) ?_
                  refine Tr.tp 154 (fx_120_52 hS.1.1) ?_
                  refine Tr.iload_n (pc := 38) (i := 3) d_X12_fit_38 rfl rfl ?_
                  refine Tr.aload_n (pc := 39) (i := 0) d_X12_fit_39 rfl rfl ?_
                  refine Tr.getf (pc := 40) d_X12_fit_40 f_12_336 (by decide) (by decide) (ty_120 hS.1.1) ?_
                  refine Tr.tp 180 (fx_120_107 hS.1.1) ?_
                  refine Tr.iconst (pc := 43) d_X12_fit_43 (by decide) ?_
                  refine Tr.iload_n (pc := 44) (i := 2) d_X12_fit_44 rfl rfl ?_
                  refine Tr.imul (pc := 45) d_X12_fit_45 ?_
                  refine Tr.tp (3 * p19_2) ((w32_id (by omega)).trans (by omega)) ?_
                  refine Tr.iload_n (pc := 46) (i := 3) d_X12_fit_46 rfl rfl ?_
                  refine Tr.iadd (pc := 47) d_X12_fit_47 ?_
                  refine Tr.tp (3 * p19_2 + p29_3) ((w32_id (by omega)).trans (by omega)) ?_
                  refine Tr.iald (pc := 48) d_X12_fit_48 (ty_180 hS.1.1) (by omega) (by omega) ?_
                  refine Tr.gen (P := fun v => (-2147483648) ≤ v ∧ v ≤ 2147483647) (ar_180 hS.1.2.1 _) (fun r48 er48 br48 => ?_)
                  refine Tr.iastS (pc := 49) (P := St Tru ws_X12_fit_120 as_X12_fit_120 M0) d_X12_fit_49 (ty_154 hS.1.1) (by omega) (by omega) (sa_154 hS (by decide) (by omega) trivial) (fun M49 hS w49 => ?_)
                  refine Tr.iincV (pc := 50) (n2 := (p29_3 + 1)) (ls2 := [(3, (0, (p29_3 + 1))), (0, (2, 120)), (1, (0, a1)), (2, (0, p19_2))]) d_X12_fit_50 rfl (by decide) ((w32_id (by omega)).trans (by omega)) rfl ?_
                  refine Tr.goto (pc := 53) (tgt := 29) d_X12_fit_53 rfl ?_
                  refine Tr.pick [1, 2, 3, 0] (ls2 := [(0, (2, 120)), (1, (0, a1)), (2, (0, p19_2)), (3, (0, (p29_3 + 1)))]) rfl ?_
                  exact J29 _ _ hS (by omega) ((Wr.b w49 rfl).trans k29_120_106) ((Wr.b w49 rfl).trans k29_120_59) ((Wr.b w49 rfl).trans k29_126_0) (by omega) (by omega)
            refine Tr.pick [1, 2, 3, 0] (ls2 := [(0, (2, 120)), (1, (0, a1)), (2, (0, p19_2)), (3, (0, 0))]) rfl ?_
            exact J29 _ _ _ hS (by omega) k19_120_106 k19_120_59 k19_126_0 (by omega) (Nat.lt_succ_self _)
      refine Tr.pick [1, 2, 0] (ls2 := [(0, (2, 120)), (1, (0, a1)), (2, (0, 0))]) rfl ?_
      exact J19 _ _ _ _ hS (by omega) (by omega) er9 ((St.kp h2 (by decide) (by decide) (by decide)).trans eg120_59) ew2_126_0 (by omega) (Nat.lt_succ_self _)
    · refine Tr.iconst (pc := 15) d_X12_fit_15 (by decide) ?_
      have kr_120_59 : rd M2 120 59 = g120_59 := ((St.kp h2 (by decide) (by decide) (by decide)).trans eg120_59)
      exact Tr.iret (pc := 16) d_X12_fit_16 rfl ⟨hS, _, rfl, by omega, by omega, by omega⟩

def ws_X12_fitted_120 : List (Int × Int) := []
def as_X12_fitted_120 : List Int := []
def q_X12_fitted_120 (M0 M' : Mem) (r : Option PV) : Prop := St Tru ws_X12_fitted_120 as_X12_fitted_120 M0 M' ∧ ∃ v : Int, r = some (0, v) ∧ (-2147483648) ≤ v ∧ v ≤ 2147483647
set_option maxRecDepth 100000 in
set_option maxHeartbeats 4000000 in
theorem sp_X12_fitted_120 {l : Launch} {K : EC} {M0 : Mem} (hI : In Tru M0)  (a1 : Int) (ha1 : (-2147483648) ≤ a1 ∧ a1 ≤ 2147483647)  : Tr l K 1 mX12_fitted 0 [(0, (2, 120)), (1, (0, a1))] [] M0 (q_X12_fitted_120 M0) := by
  have hS : St Tru ws_X12_fitted_120 as_X12_fitted_120 M0 M0 := St.rf hI
  refine Tr.aload_n (pc := 0) (i := 0) d_X12_fitted_0 rfl rfl ?_
  refine Tr.getz (pc := 1) d_X12_fitted_1 f_12_342 (by decide) (ty_120 hS.1.1) ?_
  refine Tr.gen (P := fun v => 0 ≤ v ∧ v ≤ 1) (ir_120_109 hS.1.2.1) (fun r1 er1 br1 => ?_)
  refine Tr.if_eq (pc := 4) (tgt := 25) d_X12_fitted_4 rfl (fun c4 => ?_) (fun c4 => ?_)
  · refine Tr.iconst (pc := 25) d_X12_fitted_25 (by decide) ?_
    exact Tr.iret (pc := 26) d_X12_fitted_26 rfl ⟨hS, _, rfl, by omega, by omega⟩
  · refine Tr.iload_n (pc := 7) (i := 1) d_X12_fitted_7 rfl rfl ?_
    refine Tr.iconst (pc := 8) d_X12_fitted_8 (by decide) ?_
    refine Tr.iconst (pc := 9) d_X12_fitted_9 (by decide) ?_
    refine Tr.callS (pc := 10) (as := [_, _, _]) d_X12_fitted_10 s_12_467 ok_X12_is rfl rfl (Nat.le_of_ble_eq_true rfl) (Nat.le_of_ble_eq_true rfl) ?_
    refine Tr.imp (Tr.deep (by decide) (sp_X12_is hS.1 a1 (by omega) 0 (by omega) 3 (by omega))) ?_
    rintro M10 _ ⟨h10, r10, rfl, lr10, ur10, wr10⟩
    have hS := St.tr hS h10 (by decide) (by decide)
    refine Tr.sc [(0, r10)] rfl ?_
    refine Tr.if_eq (pc := 13) (tgt := 25) d_X12_fitted_13 rfl (fun c13 => ?_) (fun c13 => ?_)
    · refine Tr.iconst (pc := 25) d_X12_fitted_25 (by decide) ?_
      exact Tr.iret (pc := 26) d_X12_fitted_26 rfl ⟨hS, _, rfl, by omega, by omega⟩
    · refine Tr.aload_n (pc := 16) (i := 0) d_X12_fitted_16 rfl rfl ?_
      refine Tr.getf (pc := 17) d_X12_fitted_17 f_12_345 (by decide) (by decide) (ty_120 hS.1.1) ?_
      refine Tr.tp 182 (fx_120_110 hS.1.1) ?_
      refine Tr.iload_n (pc := 20) (i := 1) d_X12_fitted_20 rfl rfl ?_
      refine Tr.iald (pc := 21) d_X12_fitted_21 (ty_182 hS.1.1) (by omega) (by omega) ?_
      refine Tr.gen (P := fun v => (-2147483648) ≤ v ∧ v ≤ 2147483647) (ar_182 hS.1.2.1 _) (fun r21 er21 br21 => ?_)
      refine Tr.goto (pc := 22) (tgt := 26) d_X12_fitted_22 rfl ?_
      exact Tr.iret (pc := 26) d_X12_fitted_26 rfl ⟨hS, _, rfl, by omega, by omega⟩

def ws_X12_ask_120 : List (Int × Int) := [(120, 113)]
def as_X12_ask_120 : List Int := [185, 186, 187]
def q_X12_ask_120 (a1 : Int) (a2 : Int) (a3 : Int) (M0 M' : Mem) (r : Option PV) : Prop := St Tru ws_X12_ask_120 as_X12_ask_120 M0 M' ∧ ∃ v : Int, r = some (0, v) ∧ (-1) ≤ v ∧ v ≤ 6 ∧ ((v = rd M' 120 113 ∧ rd M' 120 113 = rd M0 120 113 + 1 ∧ 0 ≤ a1 ∧ a1 ≤ 200 ∧ 1 ≤ a2 ∧ a2 ≤ 20 ∧ 0 ≤ a3 ∧ a3 ≤ 5 ∧ rd M0 120 113 ≤ 5) ∨ (v = -1 ∧ rd M' 120 113 = rd M0 120 113 ∧ (a1 < 0 ∨ 200 < a1 ∨ a2 < 1 ∨ 20 < a2 ∨ a3 < 0 ∨ 5 < a3 ∨ 6 ≤ rd M0 120 113)))
set_option maxRecDepth 100000 in
set_option maxHeartbeats 4000000 in
theorem sp_X12_ask_120 {l : Launch} {K : EC} {M0 : Mem} (hI : In Tru M0)  (a1 : Int) (ha1 : (-2147483648) ≤ a1 ∧ a1 ≤ 2147483647) (a2 : Int) (ha2 : (-2147483648) ≤ a2 ∧ a2 ≤ 2147483647) (a3 : Int) (ha3 : (-2147483648) ≤ a3 ∧ a3 ≤ 2147483647)  : Tr l K 1 mX12_ask 0 [(0, (2, 120)), (1, (0, a1)), (2, (0, a2)), (3, (0, a3))] [] M0 (q_X12_ask_120 a1 a2 a3 M0) := by
  have hS : St Tru ws_X12_ask_120 as_X12_ask_120 M0 M0 := St.rf hI
  obtain ⟨g120_113, eg120_113⟩ : ∃ v, rd M0 120 113 = v := ⟨_, rfl⟩
  have bg120_113 : 0 ≤ g120_113 ∧ g120_113 ≤ 6 := by rw [← eg120_113]; exact ir_120_113 hI.2.1
  refine Tr.iload_n (pc := 0) (i := 1) d_X12_ask_0 rfl rfl ?_
  refine Tr.iconst (pc := 1) d_X12_ask_1 (by decide) ?_
  refine Tr.sipush (pc := 2) d_X12_ask_2 rfl (by decide) ?_
  refine Tr.callS (pc := 5) (as := [_, _, _]) d_X12_ask_5 s_12_467 ok_X12_is rfl rfl (Nat.le_of_ble_eq_true rfl) (Nat.le_of_ble_eq_true rfl) ?_
  refine Tr.imp (Tr.deep (by decide) (sp_X12_is hS.1 a1 (by omega) 0 (by omega) 200 (by omega))) ?_
  rintro M5 _ ⟨h5, r5, rfl, lr5, ur5, wr5⟩
  have hS := St.tr hS h5 (by decide) (by decide)
  refine Tr.sc [(0, r5)] rfl ?_
  refine Tr.if_eq (pc := 8) (tgt := 39) d_X12_ask_8 rfl (fun c8 => ?_) (fun c8 => ?_)
  · refine Tr.iconst (pc := 39) d_X12_ask_39 (by decide) ?_
    have kr_120_113 : rd M5 120 113 = g120_113 := ((St.kp h5 (by decide) (by decide) (by decide)).trans eg120_113)
    exact Tr.iret (pc := 40) d_X12_ask_40 rfl ⟨hS, _, rfl, by omega, by omega, by omega⟩
  · refine Tr.iload_n (pc := 11) (i := 2) d_X12_ask_11 rfl rfl ?_
    refine Tr.iconst (pc := 12) d_X12_ask_12 (by decide) ?_
    refine Tr.bipush (pc := 13) d_X12_ask_13 rfl (by decide) ?_
    refine Tr.callS (pc := 15) (as := [_, _, _]) d_X12_ask_15 s_12_467 ok_X12_is rfl rfl (Nat.le_of_ble_eq_true rfl) (Nat.le_of_ble_eq_true rfl) ?_
    refine Tr.imp (Tr.deep (by decide) (sp_X12_is hS.1 a2 (by omega) 1 (by omega) 20 (by omega))) ?_
    rintro M15 _ ⟨h15, r15, rfl, lr15, ur15, wr15⟩
    have hS := St.tr hS h15 (by decide) (by decide)
    refine Tr.sc [(0, r15)] rfl ?_
    refine Tr.if_eq (pc := 18) (tgt := 39) d_X12_ask_18 rfl (fun c18 => ?_) (fun c18 => ?_)
    · refine Tr.iconst (pc := 39) d_X12_ask_39 (by decide) ?_
      have kr_120_113 : rd M15 120 113 = g120_113 := ((St.kp h15 (by decide) (by decide) (by decide)).trans ((St.kp h5 (by decide) (by decide) (by decide)).trans eg120_113))
      exact Tr.iret (pc := 40) d_X12_ask_40 rfl ⟨hS, _, rfl, by omega, by omega, by omega⟩
    · refine Tr.iload_n (pc := 21) (i := 3) d_X12_ask_21 rfl rfl ?_
      refine Tr.iconst (pc := 22) d_X12_ask_22 (by decide) ?_
      refine Tr.iconst (pc := 23) d_X12_ask_23 (by decide) ?_
      refine Tr.callS (pc := 24) (as := [_, _, _]) d_X12_ask_24 s_12_467 ok_X12_is rfl rfl (Nat.le_of_ble_eq_true rfl) (Nat.le_of_ble_eq_true rfl) ?_
      refine Tr.imp (Tr.deep (by decide) (sp_X12_is hS.1 a3 (by omega) 0 (by omega) 5 (by omega))) ?_
      rintro M24 _ ⟨h24, r24, rfl, lr24, ur24, wr24⟩
      have hS := St.tr hS h24 (by decide) (by decide)
      refine Tr.sc [(0, r24)] rfl ?_
      refine Tr.if_eq (pc := 27) (tgt := 39) d_X12_ask_27 rfl (fun c27 => ?_) (fun c27 => ?_)
      · refine Tr.iconst (pc := 39) d_X12_ask_39 (by decide) ?_
        have kr_120_113 : rd M24 120 113 = g120_113 := ((St.kp h24 (by decide) (by decide) (by decide)).trans ((St.kp h15 (by decide) (by decide) (by decide)).trans ((St.kp h5 (by decide) (by decide) (by decide)).trans eg120_113)))
        exact Tr.iret (pc := 40) d_X12_ask_40 rfl ⟨hS, _, rfl, by omega, by omega, by omega⟩
      · refine Tr.aload_n (pc := 30) (i := 0) d_X12_ask_30 rfl rfl ?_
        refine Tr.getf (pc := 31) d_X12_ask_31 f_12_354 (by decide) (by decide) (ty_120 hS.1.1) ?_
        refine Tr.tp g120_113 ((St.kp h24 (by decide) (by decide) (by decide)).trans ((St.kp h15 (by decide) (by decide) (by decide)).trans ((St.kp h5 (by decide) (by decide) (by decide)).trans eg120_113))) ?_
        refine Tr.bipush (pc := 34) d_X12_ask_34 rfl (by decide) ?_
        refine Tr.icmp_ne (pc := 36) (tgt := 41) d_X12_ask_36 rfl (fun c36 => ?_) (fun c36 => ?_)
        · refine Tr.aload_n (pc := 41) (i := 0) d_X12_ask_41 rfl rfl ?_
          refine Tr.getf (pc := 42) d_X12_ask_42 f_12_357 (by decide) (by decide) (ty_120 hS.1.1) ?_
          refine Tr.tp 185 (fx_120_114 hS.1.1) ?_
          refine Tr.aload_n (pc := 45) (i := 0) d_X12_ask_45 rfl rfl ?_
          refine Tr.getf (pc := 46) d_X12_ask_46 f_12_354 (by decide) (by decide) (ty_120 hS.1.1) ?_
          refine Tr.tp g120_113 ((St.kp h24 (by decide) (by decide) (by decide)).trans ((St.kp h15 (by decide) (by decide) (by decide)).trans ((St.kp h5 (by decide) (by decide) (by decide)).trans eg120_113))) ?_
          refine Tr.iload_n (pc := 49) (i := 1) d_X12_ask_49 rfl rfl ?_
          refine Tr.iastS (pc := 50) (P := St Tru ws_X12_ask_120 as_X12_ask_120 M0) d_X12_ask_50 (ty_185 hS.1.1) (by omega) (by omega) (sa_185 hS (by decide) (by omega) trivial) (fun M50 hS w50 => ?_)
          refine Tr.aload_n (pc := 51) (i := 0) d_X12_ask_51 rfl rfl ?_
          refine Tr.getf (pc := 52) d_X12_ask_52 f_12_360 (by decide) (by decide) (ty_120 hS.1.1) ?_
          refine Tr.tp 186 (fx_120_115 hS.1.1) ?_
          refine Tr.aload_n (pc := 55) (i := 0) d_X12_ask_55 rfl rfl ?_
          refine Tr.getf (pc := 56) d_X12_ask_56 f_12_354 (by decide) (by decide) (ty_120 hS.1.1) ?_
          refine Tr.tp g120_113 ((Wr.b w50 rfl).trans ((St.kp h24 (by decide) (by decide) (by decide)).trans ((St.kp h15 (by decide) (by decide) (by decide)).trans ((St.kp h5 (by decide) (by decide) (by decide)).trans eg120_113)))) ?_
          refine Tr.iload_n (pc := 59) (i := 2) d_X12_ask_59 rfl rfl ?_
          refine Tr.iastS (pc := 60) (P := St Tru ws_X12_ask_120 as_X12_ask_120 M0) d_X12_ask_60 (ty_186 hS.1.1) (by omega) (by omega) (sa_186 hS (by decide) (by omega) trivial) (fun M60 hS w60 => ?_)
          refine Tr.aload_n (pc := 61) (i := 0) d_X12_ask_61 rfl rfl ?_
          refine Tr.getf (pc := 62) d_X12_ask_62 f_12_363 (by decide) (by decide) (ty_120 hS.1.1) ?_
          refine Tr.tp 187 (fx_120_116 hS.1.1) ?_
          refine Tr.aload_n (pc := 65) (i := 0) d_X12_ask_65 rfl rfl ?_
          refine Tr.getf (pc := 66) d_X12_ask_66 f_12_354 (by decide) (by decide) (ty_120 hS.1.1) ?_
          refine Tr.tp g120_113 ((Wr.b w60 rfl).trans ((Wr.b w50 rfl).trans ((St.kp h24 (by decide) (by decide) (by decide)).trans ((St.kp h15 (by decide) (by decide) (by decide)).trans ((St.kp h5 (by decide) (by decide) (by decide)).trans eg120_113))))) ?_
          refine Tr.iload_n (pc := 69) (i := 3) d_X12_ask_69 rfl rfl ?_
          refine Tr.iastS (pc := 70) (P := St Tru ws_X12_ask_120 as_X12_ask_120 M0) d_X12_ask_70 (ty_187 hS.1.1) (by omega) (by omega) (sa_187 hS (by decide) (by omega) trivial) (fun M70 hS w70 => ?_)
          refine Tr.aload_n (pc := 71) (i := 0) d_X12_ask_71 rfl rfl ?_
          refine Tr.dup (pc := 72) d_X12_ask_72 ne21 ?_
          refine Tr.getf (pc := 73) d_X12_ask_73 f_12_354 (by decide) (by decide) (ty_120 hS.1.1) ?_
          refine Tr.tp g120_113 ((Wr.b w70 rfl).trans ((Wr.b w60 rfl).trans ((Wr.b w50 rfl).trans ((St.kp h24 (by decide) (by decide) (by decide)).trans ((St.kp h15 (by decide) (by decide) (by decide)).trans ((St.kp h5 (by decide) (by decide) (by decide)).trans eg120_113)))))) ?_
          refine Tr.iconst (pc := 76) d_X12_ask_76 (by decide) ?_
          refine Tr.iadd (pc := 77) d_X12_ask_77 ?_
          refine Tr.tp (g120_113 + 1) ((w32_id (by omega)).trans (by omega)) ?_
          refine Tr.putfS (pc := 78) (P := St Tru ws_X12_ask_120 as_X12_ask_120 M0) d_X12_ask_78 f_12_354 (by decide) (by decide) (ty_120 hS.1.1) (st_120_113 hS (by decide) (by omega) trivial) (fun M78 hS w78 => ?_)
          refine Tr.aload_n (pc := 81) (i := 0) d_X12_ask_81 rfl rfl ?_
          refine Tr.getf (pc := 82) d_X12_ask_82 f_12_354 (by decide) (by decide) (ty_120 hS.1.1) ?_
          refine Tr.tp (g120_113 + 1) w78.1 ?_
          have kr_120_113 : rd M78 120 113 = (g120_113 + 1) := w78.1
          exact Tr.iret (pc := 85) d_X12_ask_85 rfl ⟨hS, _, rfl, by omega, by omega, by omega⟩
        · refine Tr.iconst (pc := 39) d_X12_ask_39 (by decide) ?_
          have kr_120_113 : rd M24 120 113 = g120_113 := ((St.kp h24 (by decide) (by decide) (by decide)).trans ((St.kp h15 (by decide) (by decide) (by decide)).trans ((St.kp h5 (by decide) (by decide) (by decide)).trans eg120_113)))
          exact Tr.iret (pc := 40) d_X12_ask_40 rfl ⟨hS, _, rfl, by omega, by omega, by omega⟩

def ws_X12_forget_120 : List (Int × Int) := [(120, 113)]
def as_X12_forget_120 : List Int := []
def q_X12_forget_120 (M0 M' : Mem) (r : Option PV) : Prop := St Tru ws_X12_forget_120 as_X12_forget_120 M0 M' ∧ ∃ v : Int, r = some (0, v) ∧ 0 ≤ v ∧ v ≤ 6 ∧ (v = rd M0 120 113 ∧ rd M' 120 113 = 0)
set_option maxRecDepth 100000 in
set_option maxHeartbeats 4000000 in
theorem sp_X12_forget_120 {l : Launch} {K : EC} {M0 : Mem} (hI : In Tru M0)    : Tr l K 0 mX12_forget 0 [(0, (2, 120))] [] M0 (q_X12_forget_120 M0) := by
  have hS : St Tru ws_X12_forget_120 as_X12_forget_120 M0 M0 := St.rf hI
  obtain ⟨g120_113, eg120_113⟩ : ∃ v, rd M0 120 113 = v := ⟨_, rfl⟩
  have bg120_113 : 0 ≤ g120_113 ∧ g120_113 ≤ 6 := by rw [← eg120_113]; exact ir_120_113 hI.2.1
  refine Tr.aload_n (pc := 0) (i := 0) d_X12_forget_0 rfl rfl ?_
  refine Tr.getf (pc := 1) d_X12_forget_1 f_12_354 (by decide) (by decide) (ty_120 hS.1.1) ?_
  refine Tr.tp g120_113 eg120_113 ?_
  refine Tr.istore_n (pc := 4) (i := 1) (ls2 := [(1, (0, g120_113)), (0, (2, 120))]) d_X12_forget_4 rfl (by decide) rfl ?_
  refine Tr.aload_n (pc := 5) (i := 0) d_X12_forget_5 rfl rfl ?_
  refine Tr.iconst (pc := 6) d_X12_forget_6 (by decide) ?_
  refine Tr.putfS (pc := 7) (P := St Tru ws_X12_forget_120 as_X12_forget_120 M0) d_X12_forget_7 f_12_354 (by decide) (by decide) (ty_120 hS.1.1) (st_120_113 hS (by decide) (by omega) trivial) (fun M7 hS w7 => ?_)
  refine Tr.iload_n (pc := 10) (i := 1) d_X12_forget_10 rfl rfl ?_
  have kr_120_113 : rd M7 120 113 = 0 := w7.1
  exact Tr.iret (pc := 11) d_X12_forget_11 rfl ⟨hS, _, rfl, by omega, by omega, by omega⟩

def ws_X12_later_120 : List (Int × Int) := []
def as_X12_later_120 : List Int := []
def q_X12_later_120 (M0 M' : Mem) (r : Option PV) : Prop := St Tru ws_X12_later_120 as_X12_later_120 M0 M' ∧ ∃ v : Int, r = some (0, v) ∧ (-1) ≤ v ∧ v ≤ 5
set_option maxRecDepth 100000 in
set_option maxHeartbeats 4000000 in
theorem sp_X12_later_120 {l : Launch} {K : EC} {M0 : Mem} (hI : In Tru M0)  (a1 : Int) (ha1 : (-2147483648) ≤ a1 ∧ a1 ≤ 2147483647)  : Tr l K 0 mX12_later 0 [(0, (2, 120)), (1, (0, a1))] [] M0 (q_X12_later_120 M0) := by
  have hS : St Tru ws_X12_later_120 as_X12_later_120 M0 M0 := St.rf hI
  refine Tr.iload_n (pc := 0) (i := 1) d_X12_later_0 rfl rfl ?_
  refine Tr.if_lt (pc := 1) (tgt := 21) d_X12_later_1 rfl (fun c1 => ?_) (fun c1 => ?_)
  · refine Tr.iconst (pc := 21) d_X12_later_21 (by decide) ?_
    exact Tr.iret (pc := 22) d_X12_later_22 rfl ⟨hS, _, rfl, by omega, by omega⟩
  · refine Tr.iload_n (pc := 4) (i := 1) d_X12_later_4 rfl rfl ?_
    refine Tr.aload_n (pc := 5) (i := 0) d_X12_later_5 rfl rfl ?_
    refine Tr.getf (pc := 6) d_X12_later_6 f_12_366 (by decide) (by decide) (ty_120 hS.1.1) ?_
    refine Tr.gen (P := fun v => 0 ≤ v ∧ v ≤ 6) (ir_120_117 hS.1.2.1) (fun r6 er6 br6 => ?_)
    refine Tr.icmp_ge (pc := 9) (tgt := 21) d_X12_later_9 rfl (fun c9 => ?_) (fun c9 => ?_)
    · refine Tr.iconst (pc := 21) d_X12_later_21 (by decide) ?_
      exact Tr.iret (pc := 22) d_X12_later_22 rfl ⟨hS, _, rfl, by omega, by omega⟩
    · refine Tr.aload_n (pc := 12) (i := 0) d_X12_later_12 rfl rfl ?_
      refine Tr.getf (pc := 13) d_X12_later_13 f_12_369 (by decide) (by decide) (ty_120 hS.1.1) ?_
      refine Tr.tp 188 (fx_120_118 hS.1.1) ?_
      refine Tr.iload_n (pc := 16) (i := 1) d_X12_later_16 rfl rfl ?_
      refine Tr.iald (pc := 17) d_X12_later_17 (ty_188 hS.1.1) (by omega) (by omega) ?_
      refine Tr.gen (P := fun v => 0 ≤ v ∧ v ≤ 5) (ar_188 hS.1.2.1 _) (fun r17 er17 br17 => ?_)
      refine Tr.goto (pc := 18) (tgt := 22) d_X12_later_18 rfl ?_
      exact Tr.iret (pc := 22) d_X12_later_22 rfl ⟨hS, _, rfl, by omega, by omega⟩

def ws_X12_lasts_120 : List (Int × Int) := []
def as_X12_lasts_120 : List Int := []
def q_X12_lasts_120 (M0 M' : Mem) (r : Option PV) : Prop := St Tru ws_X12_lasts_120 as_X12_lasts_120 M0 M' ∧ ∃ v : Int, r = some (0, v) ∧ (-2147483648) ≤ v ∧ v ≤ 2147483647
set_option maxRecDepth 100000 in
set_option maxHeartbeats 4000000 in
theorem sp_X12_lasts_120 {l : Launch} {K : EC} {M0 : Mem} (hI : In Tru M0) (en_120_12 : rd M0 120 12 = 0) (a1 : Int) (ha1 : (-2147483648) ≤ a1 ∧ a1 ≤ 2147483647) (a2 : Int) (ha2 : (-2147483648) ≤ a2 ∧ a2 ≤ 2147483647) (a3 : Int) (ha3 : (-2147483648) ≤ a3 ∧ a3 ≤ 2147483647)  (hF_Bk0 : Bk0 M0) : Tr l K 2 mX12_lasts 0 [(0, (2, 120)), (1, (0, a1)), (2, (0, a2)), (3, (0, a3))] [] M0 (q_X12_lasts_120 M0) := by
  have hS : St Tru ws_X12_lasts_120 as_X12_lasts_120 M0 M0 := St.rf hI
  refine Tr.aload_n (pc := 0) (i := 0) d_X12_lasts_0 rfl rfl ?_
  refine Tr.getz (pc := 1) d_X12_lasts_1 f_12_270 (by decide) (ty_120 hS.1.1) ?_
  refine Tr.gen (P := fun v => 0 ≤ v ∧ v ≤ 1) (ir_120_85 hS.1.2.1) (fun r1 er1 br1 => ?_)
  refine Tr.if_eq (pc := 4) (tgt := 40) d_X12_lasts_4 rfl (fun c4 => ?_) (fun c4 => ?_)
  · refine Tr.iconst (pc := 40) d_X12_lasts_40 (by decide) ?_
    exact Tr.iret (pc := 41) d_X12_lasts_41 rfl ⟨hS, _, rfl, by omega, by omega⟩
  · refine Tr.iload_n (pc := 7) (i := 1) d_X12_lasts_7 rfl rfl ?_
    refine Tr.iconst (pc := 8) d_X12_lasts_8 (by decide) ?_
    refine Tr.ldcw (pc := 9) d_X12_lasts_9 k_12_696 (by decide) ?_
    refine Tr.callS (pc := 12) (as := [_, _, _]) d_X12_lasts_12 s_12_467 ok_X12_is rfl rfl (Nat.le_of_ble_eq_true rfl) (Nat.le_of_ble_eq_true rfl) ?_
    refine Tr.imp (Tr.deep (by decide) (sp_X12_is hS.1 a1 (by omega) 0 (by omega) 1000000000 (by omega))) ?_
    rintro M12 _ ⟨h12, r12, rfl, lr12, ur12, wr12⟩
    have hS := St.tr hS h12 (by decide) (by decide)
    refine Tr.sc [(0, r12)] rfl ?_
    refine Tr.if_eq (pc := 15) (tgt := 40) d_X12_lasts_15 rfl (fun c15 => ?_) (fun c15 => ?_)
    · refine Tr.iconst (pc := 40) d_X12_lasts_40 (by decide) ?_
      exact Tr.iret (pc := 41) d_X12_lasts_41 rfl ⟨hS, _, rfl, by omega, by omega⟩
    · refine Tr.iload_n (pc := 18) (i := 2) d_X12_lasts_18 rfl rfl ?_
      refine Tr.iconst (pc := 19) d_X12_lasts_19 (by decide) ?_
      refine Tr.sipush (pc := 20) d_X12_lasts_20 rfl (by decide) ?_
      refine Tr.callS (pc := 23) (as := [_, _, _]) d_X12_lasts_23 s_12_467 ok_X12_is rfl rfl (Nat.le_of_ble_eq_true rfl) (Nat.le_of_ble_eq_true rfl) ?_
      refine Tr.imp (Tr.deep (by decide) (sp_X12_is hS.1 a2 (by omega) 0 (by omega) 1000 (by omega))) ?_
      rintro M23 _ ⟨h23, r23, rfl, lr23, ur23, wr23⟩
      have hS := St.tr hS h23 (by decide) (by decide)
      refine Tr.sc [(0, r23)] rfl ?_
      refine Tr.if_eq (pc := 26) (tgt := 40) d_X12_lasts_26 rfl (fun c26 => ?_) (fun c26 => ?_)
      · refine Tr.iconst (pc := 40) d_X12_lasts_40 (by decide) ?_
        exact Tr.iret (pc := 41) d_X12_lasts_41 rfl ⟨hS, _, rfl, by omega, by omega⟩
      · refine Tr.iload_n (pc := 29) (i := 3) d_X12_lasts_29 rfl rfl ?_
        refine Tr.iconst (pc := 30) d_X12_lasts_30 (by decide) ?_
        refine Tr.ldcw (pc := 31) d_X12_lasts_31 k_12_697 (by decide) ?_
        refine Tr.callS (pc := 34) (as := [_, _, _]) d_X12_lasts_34 s_12_467 ok_X12_is rfl rfl (Nat.le_of_ble_eq_true rfl) (Nat.le_of_ble_eq_true rfl) ?_
        refine Tr.imp (Tr.deep (by decide) (sp_X12_is hS.1 a3 (by omega) 0 (by omega) 100000 (by omega))) ?_
        rintro M34 _ ⟨h34, r34, rfl, lr34, ur34, wr34⟩
        have hS := St.tr hS h34 (by decide) (by decide)
        refine Tr.sc [(0, r34)] rfl ?_
        refine Tr.if_ne (pc := 37) (tgt := 42) d_X12_lasts_37 rfl (fun c37 => ?_) (fun c37 => ?_)
        · refine Tr.iload_n (pc := 42) (i := 2) d_X12_lasts_42 rfl rfl ?_
          refine Tr.i2l (pc := 43) d_X12_lasts_43 ?_
          refine Tr.aload_n (pc := 44) (i := 0) d_X12_lasts_44 rfl rfl ?_
          refine Tr.getf (pc := 45) d_X12_lasts_45 f_12_276 (by decide) (by decide) (ty_120 hS.1.1) ?_
          refine Tr.gen (P := fun v => (-9223372036854775808) ≤ v ∧ v ≤ 9223372036854775807) (ir_120_87 hS.1.2.1) (fun r45 er45 br45 => ?_)
          refine Tr.lmul (pc := 48) d_X12_lasts_48 ?_
          refine Tr.gen (P := fun v => (-9223372036854775808) ≤ v ∧ v ≤ 9223372036854775807) (w64_b _) (fun r48 er48 br48 => ?_)
          refine Tr.lstore (pc := 49) (i := 4) (ls2 := [(4, (1, r48)), (0, (2, 120)), (1, (0, a1)), (2, (0, a2)), (3, (0, a3))]) d_X12_lasts_49 (by decide) rfl ?_
          refine Tr.iconst (pc := 51) d_X12_lasts_51 (by decide) ?_
          refine Tr.istore (pc := 52) (i := 6) (ls2 := [(6, (0, 0)), (4, (1, r48)), (0, (2, 120)), (1, (0, a1)), (2, (0, a2)), (3, (0, a3))]) d_X12_lasts_52 (by decide) rfl ?_
          have J54 : ∀ (n54 : Nat) (M : Mem) (p54_4 p54_6 : Int), St Tru ws_X12_lasts_120 as_X12_lasts_120 M0 M → ((-9223372036854775808) ≤ p54_4 ∧ p54_4 ≤ 9223372036854775807) → (0 ≤ p54_6 ∧ p54_6 ≤ 6) → rd M 120 85 = r1 → rd M 120 87 = r45 → (6 - p54_6).toNat < n54 → Tr l K 2 mX12_lasts 54 [(0, (2, 120)), (1, (0, a1)), (3, (0, a3)), (4, (1, p54_4)), (6, (0, p54_6))] [] M (q_X12_lasts_120 M0) := by
            intro n54
            induction n54 with
            | zero => intro M p54_4 p54_6 hS bp54_4 bp54_6 k54_120_85 k54_120_87 hm54; exact absurd hm54 (Nat.not_lt_zero _)
            | succ n54 J54 =>
              intro M p54_4 p54_6 hS bp54_4 bp54_6 k54_120_85 k54_120_87 hm54
              refine Tr.iload (pc := 54) (i := 6) d_X12_lasts_54 rfl ?_
              refine Tr.aload_n (pc := 56) (i := 0) d_X12_lasts_56 rfl rfl ?_
              refine Tr.getf (pc := 57) d_X12_lasts_57 f_12_63 (by decide) (by decide) (ty_120 hS.1.1) ?_
              refine Tr.tp 126 (fx_120_17 hS.1.1) ?_
              refine Tr.aload_n (pc := 60) (i := 0) d_X12_lasts_60 rfl rfl ?_
              refine Tr.getf (pc := 61) d_X12_lasts_61 f_12_48 (by decide) (by decide) (ty_120 hS.1.1) ?_
              refine Tr.tp 0 ((St.kp hS (by decide) (by decide) (by decide)).trans en_120_12) ?_
              refine Tr.iald (pc := 64) d_X12_lasts_64 (ty_126 hS.1.1) (by omega) (by omega) ?_
              refine Tr.gen (P := fun v => 0 ≤ v ∧ v ≤ 6) (ir_126_0 hS.1.2.1) (fun r64 er64 br64 => ?_)
              refine Tr.icmp_ge (pc := 65) (tgt := 89) d_X12_lasts_65 rfl (fun c65 => ?_) (fun c65 => ?_)
              · refine Tr.lload (pc := 89) (i := 4) d_X12_lasts_89 rfl ?_
                refine Tr.lconst (pc := 91) (v := 0) d_X12_lasts_91 rfl (by decide) ?_
                refine Tr.lcmp (pc := 92) d_X12_lasts_92 ?_
                refine Tr.gen (P := fun v => (v = 1 ∧ 0 < p54_4) ∨ (v = 0 ∧ p54_4 = 0) ∨ (v = -1 ∧ p54_4 < 0)) (f_lcmp_c _ _) (fun r92 er92 br92 => ?_)
                refine Tr.if_ne (pc := 93) (tgt := 100) d_X12_lasts_93 rfl (fun c93 => ?_) (fun c93 => ?_)
                · refine Tr.iload_n (pc := 100) (i := 1) d_X12_lasts_100 rfl rfl ?_
                  refine Tr.i2l (pc := 101) d_X12_lasts_101 ?_
                  refine Tr.lload (pc := 102) (i := 4) d_X12_lasts_102 rfl ?_
                  refine Tr.ldiv (pc := 104) d_X12_lasts_104 (by omega) ?_
                  refine Tr.gen (P := fun v => (-9223372036854775808) ≤ v ∧ v ≤ 9223372036854775807) (w64_b _) (fun r104 er104 br104 => ?_)
                  refine Tr.l2i (pc := 105) d_X12_lasts_105 ?_
                  refine Tr.gen (P := fun v => (-2147483648) ≤ v ∧ v ≤ 2147483647) (w32_b _) (fun r105 er105 br105 => ?_)
                  exact Tr.iret (pc := 106) d_X12_lasts_106 rfl ⟨hS, _, rfl, by omega, by omega⟩
                · refine Tr.iconst (pc := 96) d_X12_lasts_96 (by decide) ?_
                  refine Tr.goto (pc := 97) (tgt := 106) d_X12_lasts_97 rfl ?_
                  exact Tr.iret (pc := 106) d_X12_lasts_106 rfl ⟨hS, _, rfl, by omega, by omega⟩
              · refine Tr.lload (pc := 68) (i := 4) d_X12_lasts_68 rfl ?_
                refine Tr.iload_n (pc := 70) (i := 3) d_X12_lasts_70 rfl rfl ?_
                refine Tr.i2l (pc := 71) d_X12_lasts_71 ?_
                refine Tr.aload_n (pc := 72) (i := 0) d_X12_lasts_72 rfl rfl ?_
                refine Tr.iload (pc := 73) (i := 6) d_X12_lasts_73 rfl ?_
                refine Tr.callV (pc := 75) (as := [_]) d_X12_lasts_75 s_12_568 ok_X12_sleeps rfl rfl (Nat.le_of_ble_eq_true rfl) (Nat.le_of_ble_eq_true rfl) (by decide) (ty_120 hS.1.1) ?_
                refine Tr.imp (Tr.deep (by decide) (sp_X12_sleeps_120 hS.1 ((St.kp hS (by decide) (by decide) (by decide)).trans en_120_12) p54_6 (by omega) (Bk0.of hF_Bk0 (fun j => (St.ka hS (by decide) (by decide) (by decide))) (fun j => (St.ka hS (by decide) (by decide) (by decide))) (fun j => (St.ka hS (by decide) (by decide) (by decide))) (fun j => (St.ka hS (by decide) (by decide) (by decide))) (fun j => (St.ka hS (by decide) (by decide) (by decide))) (fun j => (St.ka hS (by decide) (by decide) (by decide))) (fun j => (St.ka hS (by decide) (by decide) (by decide))) (fun j => (St.ka hS (by decide) (by decide) (by decide))) (St.kp hS (by decide) (by decide) (by decide)) (St.kp hS (by decide) (by decide) (by decide)) (St.kp hS (by decide) (by decide) (by decide)) (St.kp hS (by decide) (by decide) (by decide))))) ?_
                rintro M75 _ ⟨h75, r75, rfl, lr75, ur75⟩
                have hS := St.tr hS h75 (by decide) (by decide)
                refine Tr.sc [(0, r75), (1, a3), (1, p54_4)] rfl ?_
                refine Tr.i2l (pc := 78) d_X12_lasts_78 ?_
                refine Tr.lmul (pc := 79) d_X12_lasts_79 ?_
                refine Tr.gen (P := fun v => (-9223372036854775808) ≤ v ∧ v ≤ 9223372036854775807) (w64_b _) (fun r79 er79 br79 => ?_)
                refine Tr.ladd (pc := 80) d_X12_lasts_80 ?_
                refine Tr.gen (P := fun v => (-9223372036854775808) ≤ v ∧ v ≤ 9223372036854775807) (w64_b _) (fun r80 er80 br80 => ?_)
                refine Tr.lstore (pc := 81) (i := 4) (ls2 := [(4, (1, r80)), (0, (2, 120)), (1, (0, a1)), (3, (0, a3)), (6, (0, p54_6))]) d_X12_lasts_81 (by decide) rfl ?_
                refine Tr.iincV (pc := 83) (n2 := (p54_6 + 1)) (ls2 := [(6, (0, (p54_6 + 1))), (4, (1, r80)), (0, (2, 120)), (1, (0, a1)), (3, (0, a3))]) d_X12_lasts_83 rfl (by decide) ((w32_id (by omega)).trans (by omega)) rfl ?_
                refine Tr.goto (pc := 86) (tgt := 54) d_X12_lasts_86 rfl ?_
                refine Tr.pick [2, 3, 4, 1, 0] (ls2 := [(0, (2, 120)), (1, (0, a1)), (3, (0, a3)), (4, (1, r80)), (6, (0, (p54_6 + 1)))]) rfl ?_
                exact J54 _ _ _ hS (by omega) (by omega) ((St.kp h75 (by decide) (by decide) (by decide)).trans k54_120_85) ((St.kp h75 (by decide) (by decide) (by decide)).trans k54_120_87) (by omega)
          refine Tr.pick [2, 3, 5, 1, 0] (ls2 := [(0, (2, 120)), (1, (0, a1)), (3, (0, a3)), (4, (1, r48)), (6, (0, 0))]) rfl ?_
          exact J54 _ _ _ _ hS (by omega) (by omega) ((St.kp h34 (by decide) (by decide) (by decide)).trans ((St.kp h23 (by decide) (by decide) (by decide)).trans ((St.kp h12 (by decide) (by decide) (by decide)).trans er1))) er45 (Nat.lt_succ_self _)
        · refine Tr.iconst (pc := 40) d_X12_lasts_40 (by decide) ?_
          exact Tr.iret (pc := 41) d_X12_lasts_41 rfl ⟨hS, _, rfl, by omega, by omega⟩
end
